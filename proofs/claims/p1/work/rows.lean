section
-- ===== PART A: goes FIRST, ahead of the names: the tables' words, and 'selects' of the private methods out of them =====
/-- a private method of a class that the tables say can be made, by its rows of tables_1 -/
def lw_okq (q : MethodName × Nat) : Prop := (q.1.cls ≠ "java/lang/invoke/MethodHandle" ∧ q.1.cls ≠ "java/lang/invoke/VarHandle") ∧ Cond.instantiable q.1.cls q.2 ∈ tables_1 ∧ Cond.privateMethod q.1 ∈ tables_1 ∧ Cond.instanceMethod q.1 ∈ tables_1
theorem lw_p0 : lw_okq (⟨"FindingAid", "remember", "()V"⟩, 8) := ⟨⟨by decide +kernel, by decide +kernel⟩, List.mem_of_getElem? (i := 36) (by decide +kernel), List.mem_of_getElem? (i := 388) (by decide +kernel), List.mem_of_getElem? (i := 389) (by decide +kernel)⟩
theorem lw_p1 : lw_okq (⟨"java/lang/Throwable", "fillInStackTrace", "(I)Ljava/lang/Throwable;"⟩, 6) := ⟨⟨by decide +kernel, by decide +kernel⟩, List.mem_of_getElem? (i := 528) (by decide +kernel), List.mem_of_getElem? (i := 526) (by decide +kernel), List.mem_of_getElem? (i := 527) (by decide +kernel)⟩
theorem lw_p2 : lw_okq (⟨"FindingAid", "requireNode", "(I)V"⟩, 8) := ⟨⟨by decide +kernel, by decide +kernel⟩, List.mem_of_getElem? (i := 36) (by decide +kernel), List.mem_of_getElem? (i := 579) (by decide +kernel), List.mem_of_getElem? (i := 580) (by decide +kernel)⟩
theorem lw_p3 : lw_okq (⟨"FindingAid$Tree", "widen", "(II)V"⟩, 10) := ⟨⟨by decide +kernel, by decide +kernel⟩, List.mem_of_getElem? (i := 50) (by decide +kernel), List.mem_of_getElem? (i := 646) (by decide +kernel), List.mem_of_getElem? (i := 647) (by decide +kernel)⟩
theorem lw_p4 : lw_okq (⟨"FindingAid", "requireCopy", "(I)V"⟩, 8) := ⟨⟨by decide +kernel, by decide +kernel⟩, List.mem_of_getElem? (i := 36) (by decide +kernel), List.mem_of_getElem? (i := 783) (by decide +kernel), List.mem_of_getElem? (i := 784) (by decide +kernel)⟩
theorem lw_p5 : lw_okq (⟨"FindingAid", "requireContainer", "(I)V"⟩, 8) := ⟨⟨by decide +kernel, by decide +kernel⟩, List.mem_of_getElem? (i := 36) (by decide +kernel), List.mem_of_getElem? (i := 843) (by decide +kernel), List.mem_of_getElem? (i := 844) (by decide +kernel)⟩
theorem lw_p6 : lw_okq (⟨"FindingAid", "requireUnit", "(I)V"⟩, 8) := ⟨⟨by decide +kernel, by decide +kernel⟩, List.mem_of_getElem? (i := 36) (by decide +kernel), List.mem_of_getElem? (i := 852) (by decide +kernel), List.mem_of_getElem? (i := 853) (by decide +kernel)⟩
theorem lw_p7 : lw_okq (⟨"FindingAid", "fillReport", "(III)V"⟩, 8) := ⟨⟨by decide +kernel, by decide +kernel⟩, List.mem_of_getElem? (i := 36) (by decide +kernel), List.mem_of_getElem? (i := 1046) (by decide +kernel), List.mem_of_getElem? (i := 1047) (by decide +kernel)⟩
theorem lw_p8 : lw_okq (⟨"FindingAid", "requireRequest", "(I)V"⟩, 8) := ⟨⟨by decide +kernel, by decide +kernel⟩, List.mem_of_getElem? (i := 36) (by decide +kernel), List.mem_of_getElem? (i := 1081) (by decide +kernel), List.mem_of_getElem? (i := 1082) (by decide +kernel)⟩
theorem lw_p9 : lw_okq (⟨"FindingAid$Input", "parseNode", "(I)Z"⟩, 9) := ⟨⟨by decide +kernel, by decide +kernel⟩, List.mem_of_getElem? (i := 284) (by decide +kernel), List.mem_of_getElem? (i := 1199) (by decide +kernel), List.mem_of_getElem? (i := 1200) (by decide +kernel)⟩
theorem lw_p10 : lw_okq (⟨"FindingAid$Input", "digit", "()I"⟩, 9) := ⟨⟨by decide +kernel, by decide +kernel⟩, List.mem_of_getElem? (i := 284) (by decide +kernel), List.mem_of_getElem? (i := 1203) (by decide +kernel), List.mem_of_getElem? (i := 1204) (by decide +kernel)⟩
theorem lw_p11 : lw_okq (⟨"FindingAid$Input", "accept", "(C)Z"⟩, 9) := ⟨⟨by decide +kernel, by decide +kernel⟩, List.mem_of_getElem? (i := 284) (by decide +kernel), List.mem_of_getElem? (i := 1207) (by decide +kernel), List.mem_of_getElem? (i := 1208) (by decide +kernel)⟩
theorem lw_p12 : lw_okq (⟨"FindingAid$Input", "number", "()I"⟩, 9) := ⟨⟨by decide +kernel, by decide +kernel⟩, List.mem_of_getElem? (i := 284) (by decide +kernel), List.mem_of_getElem? (i := 1211) (by decide +kernel), List.mem_of_getElem? (i := 1212) (by decide +kernel)⟩
theorem lw_p13 : lw_okq (⟨"FindingAid$Input", "parseEnds", "(I)I"⟩, 9) := ⟨⟨by decide +kernel, by decide +kernel⟩, List.mem_of_getElem? (i := 284) (by decide +kernel), List.mem_of_getElem? (i := 1215) (by decide +kernel), List.mem_of_getElem? (i := 1216) (by decide +kernel)⟩
theorem lw_p14 : lw_okq (⟨"FindingAid", "canGraft", "(I)Z"⟩, 8) := ⟨⟨by decide +kernel, by decide +kernel⟩, List.mem_of_getElem? (i := 36) (by decide +kernel), List.mem_of_getElem? (i := 1219) (by decide +kernel), List.mem_of_getElem? (i := 1220) (by decide +kernel)⟩
theorem lw_p15 : lw_okq (⟨"FindingAid", "graft", "(I)V"⟩, 8) := ⟨⟨by decide +kernel, by decide +kernel⟩, List.mem_of_getElem? (i := 36) (by decide +kernel), List.mem_of_getElem? (i := 1224) (by decide +kernel), List.mem_of_getElem? (i := 1225) (by decide +kernel)⟩
def lw_privs_1 : List (MethodName × Nat) := [(⟨"FindingAid", "remember", "()V"⟩, 8), (⟨"java/lang/Throwable", "fillInStackTrace", "(I)Ljava/lang/Throwable;"⟩, 6), (⟨"FindingAid", "requireNode", "(I)V"⟩, 8), (⟨"FindingAid$Tree", "widen", "(II)V"⟩, 10), (⟨"FindingAid", "requireCopy", "(I)V"⟩, 8), (⟨"FindingAid", "requireContainer", "(I)V"⟩, 8), (⟨"FindingAid", "requireUnit", "(I)V"⟩, 8), (⟨"FindingAid", "fillReport", "(III)V"⟩, 8), (⟨"FindingAid", "requireRequest", "(I)V"⟩, 8), (⟨"FindingAid$Input", "parseNode", "(I)Z"⟩, 9), (⟨"FindingAid$Input", "digit", "()I"⟩, 9), (⟨"FindingAid$Input", "accept", "(C)Z"⟩, 9), (⟨"FindingAid$Input", "number", "()I"⟩, 9), (⟨"FindingAid$Input", "parseEnds", "(I)I"⟩, 9), (⟨"FindingAid", "canGraft", "(I)Z"⟩, 8), (⟨"FindingAid", "graft", "(I)V"⟩, 8)]
theorem lw_r1 : ∀ q ∈ lw_privs_1, lw_okq q := List.forall_mem_cons.mpr ⟨lw_p0, List.forall_mem_cons.mpr ⟨lw_p1, List.forall_mem_cons.mpr ⟨lw_p2, List.forall_mem_cons.mpr ⟨lw_p3, List.forall_mem_cons.mpr ⟨lw_p4, List.forall_mem_cons.mpr ⟨lw_p5, List.forall_mem_cons.mpr ⟨lw_p6, List.forall_mem_cons.mpr ⟨lw_p7, List.forall_mem_cons.mpr ⟨lw_p8, List.forall_mem_cons.mpr ⟨lw_p9, List.forall_mem_cons.mpr ⟨lw_p10, List.forall_mem_cons.mpr ⟨lw_p11, List.forall_mem_cons.mpr ⟨lw_p12, List.forall_mem_cons.mpr ⟨lw_p13, List.forall_mem_cons.mpr ⟨lw_p14, List.forall_mem_cons.mpr ⟨lw_p15, fun _ h => absurd h List.not_mem_nil⟩⟩⟩⟩⟩⟩⟩⟩⟩⟩⟩⟩⟩⟩⟩⟩
theorem lw_p16 : lw_okq (⟨"FindingAid", "appendNode", "(I)V"⟩, 8) := ⟨⟨by decide +kernel, by decide +kernel⟩, List.mem_of_getElem? (i := 36) (by decide +kernel), List.mem_of_getElem? (i := 1487) (by decide +kernel), List.mem_of_getElem? (i := 1488) (by decide +kernel)⟩
theorem lw_p17 : lw_okq (⟨"FindingAid", "appendLink", "(IIZ)V"⟩, 8) := ⟨⟨by decide +kernel, by decide +kernel⟩, List.mem_of_getElem? (i := 36) (by decide +kernel), List.mem_of_getElem? (i := 1514) (by decide +kernel), List.mem_of_getElem? (i := 1515) (by decide +kernel)⟩
theorem lw_p18 : lw_okq (⟨"FindingAidModel", "makeNode", "(IIIII)I"⟩, 22) := ⟨⟨by decide +kernel, by decide +kernel⟩, List.mem_of_getElem? (i := 1553) (by decide +kernel), List.mem_of_getElem? (i := 1561) (by decide +kernel), List.mem_of_getElem? (i := 1562) (by decide +kernel)⟩
theorem lw_p19 : lw_okq (⟨"FindingAidModel", "set", "(III)V"⟩, 22) := ⟨⟨by decide +kernel, by decide +kernel⟩, List.mem_of_getElem? (i := 1553) (by decide +kernel), List.mem_of_getElem? (i := 1565) (by decide +kernel), List.mem_of_getElem? (i := 1566) (by decide +kernel)⟩
theorem lw_p20 : lw_okq (⟨"FindingAidModel", "isNode", "(I)Z"⟩, 22) := ⟨⟨by decide +kernel, by decide +kernel⟩, List.mem_of_getElem? (i := 1553) (by decide +kernel), List.mem_of_getElem? (i := 1644) (by decide +kernel), List.mem_of_getElem? (i := 1645) (by decide +kernel)⟩
theorem lw_p21 : lw_okq (⟨"FindingAidModel", "of", "(II)I"⟩, 22) := ⟨⟨by decide +kernel, by decide +kernel⟩, List.mem_of_getElem? (i := 1553) (by decide +kernel), List.mem_of_getElem? (i := 1651) (by decide +kernel), List.mem_of_getElem? (i := 1652) (by decide +kernel)⟩
theorem lw_p22 : lw_okq (⟨"FindingAidModel", "fails", "(IZ)Z"⟩, 22) := ⟨⟨by decide +kernel, by decide +kernel⟩, List.mem_of_getElem? (i := 1553) (by decide +kernel), List.mem_of_getElem? (i := 1655) (by decide +kernel), List.mem_of_getElem? (i := 1656) (by decide +kernel)⟩
theorem lw_p23 : lw_okq (⟨"FindingAidModel", "isGood", "(IIIII)Z"⟩, 22) := ⟨⟨by decide +kernel, by decide +kernel⟩, List.mem_of_getElem? (i := 1553) (by decide +kernel), List.mem_of_getElem? (i := 1659) (by decide +kernel), List.mem_of_getElem? (i := 1660) (by decide +kernel)⟩
theorem lw_p24 : lw_okq (⟨"FindingAidModel", "remember", "()V"⟩, 22) := ⟨⟨by decide +kernel, by decide +kernel⟩, List.mem_of_getElem? (i := 1553) (by decide +kernel), List.mem_of_getElem? (i := 1666) (by decide +kernel), List.mem_of_getElem? (i := 1667) (by decide +kernel)⟩
theorem lw_p25 : lw_okq (⟨"FindingAidModel", "rememberRow", "([I)V"⟩, 22) := ⟨⟨by decide +kernel, by decide +kernel⟩, List.mem_of_getElem? (i := 1553) (by decide +kernel), List.mem_of_getElem? (i := 1670) (by decide +kernel), List.mem_of_getElem? (i := 1671) (by decide +kernel)⟩
theorem lw_p26 : lw_okq (⟨"FindingAidModel", "isWithin", "(II)Z"⟩, 22) := ⟨⟨by decide +kernel, by decide +kernel⟩, List.mem_of_getElem? (i := 1553) (by decide +kernel), List.mem_of_getElem? (i := 1681) (by decide +kernel), List.mem_of_getElem? (i := 1682) (by decide +kernel)⟩
theorem lw_p27 : lw_okq (⟨"FindingAidModel", "removeNode", "(I)V"⟩, 22) := ⟨⟨by decide +kernel, by decide +kernel⟩, List.mem_of_getElem? (i := 1553) (by decide +kernel), List.mem_of_getElem? (i := 1685) (by decide +kernel), List.mem_of_getElem? (i := 1686) (by decide +kernel)⟩
theorem lw_p28 : lw_okq (⟨"FindingAidModel", "takeAway", "(I)V"⟩, 22) := ⟨⟨by decide +kernel, by decide +kernel⟩, List.mem_of_getElem? (i := 1553) (by decide +kernel), List.mem_of_getElem? (i := 1689) (by decide +kernel), List.mem_of_getElem? (i := 1690) (by decide +kernel)⟩
theorem lw_p29 : lw_okq (⟨"FindingAidModel", "in", "(II)I"⟩, 22) := ⟨⟨by decide +kernel, by decide +kernel⟩, List.mem_of_getElem? (i := 1553) (by decide +kernel), List.mem_of_getElem? (i := 1693) (by decide +kernel), List.mem_of_getElem? (i := 1694) (by decide +kernel)⟩
theorem lw_p30 : lw_okq (⟨"FindingAidModel", "setIn", "(III)V"⟩, 22) := ⟨⟨by decide +kernel, by decide +kernel⟩, List.mem_of_getElem? (i := 1553) (by decide +kernel), List.mem_of_getElem? (i := 1697) (by decide +kernel), List.mem_of_getElem? (i := 1698) (by decide +kernel)⟩
theorem lw_p31 : lw_okq (⟨"FindingAidModel", "forgetMarks", "(I)V"⟩, 22) := ⟨⟨by decide +kernel, by decide +kernel⟩, List.mem_of_getElem? (i := 1553) (by decide +kernel), List.mem_of_getElem? (i := 1701) (by decide +kernel), List.mem_of_getElem? (i := 1702) (by decide +kernel)⟩
def lw_privs_2 : List (MethodName × Nat) := [(⟨"FindingAid", "appendNode", "(I)V"⟩, 8), (⟨"FindingAid", "appendLink", "(IIZ)V"⟩, 8), (⟨"FindingAidModel", "makeNode", "(IIIII)I"⟩, 22), (⟨"FindingAidModel", "set", "(III)V"⟩, 22), (⟨"FindingAidModel", "isNode", "(I)Z"⟩, 22), (⟨"FindingAidModel", "of", "(II)I"⟩, 22), (⟨"FindingAidModel", "fails", "(IZ)Z"⟩, 22), (⟨"FindingAidModel", "isGood", "(IIIII)Z"⟩, 22), (⟨"FindingAidModel", "remember", "()V"⟩, 22), (⟨"FindingAidModel", "rememberRow", "([I)V"⟩, 22), (⟨"FindingAidModel", "isWithin", "(II)Z"⟩, 22), (⟨"FindingAidModel", "removeNode", "(I)V"⟩, 22), (⟨"FindingAidModel", "takeAway", "(I)V"⟩, 22), (⟨"FindingAidModel", "in", "(II)I"⟩, 22), (⟨"FindingAidModel", "setIn", "(III)V"⟩, 22), (⟨"FindingAidModel", "forgetMarks", "(I)V"⟩, 22)]
theorem lw_r2 : ∀ q ∈ lw_privs_2, lw_okq q := List.forall_mem_cons.mpr ⟨lw_p16, List.forall_mem_cons.mpr ⟨lw_p17, List.forall_mem_cons.mpr ⟨lw_p18, List.forall_mem_cons.mpr ⟨lw_p19, List.forall_mem_cons.mpr ⟨lw_p20, List.forall_mem_cons.mpr ⟨lw_p21, List.forall_mem_cons.mpr ⟨lw_p22, List.forall_mem_cons.mpr ⟨lw_p23, List.forall_mem_cons.mpr ⟨lw_p24, List.forall_mem_cons.mpr ⟨lw_p25, List.forall_mem_cons.mpr ⟨lw_p26, List.forall_mem_cons.mpr ⟨lw_p27, List.forall_mem_cons.mpr ⟨lw_p28, List.forall_mem_cons.mpr ⟨lw_p29, List.forall_mem_cons.mpr ⟨lw_p30, List.forall_mem_cons.mpr ⟨lw_p31, fun _ h => absurd h List.not_mem_nil⟩⟩⟩⟩⟩⟩⟩⟩⟩⟩⟩⟩⟩⟩⟩⟩
theorem lw_p32 : lw_okq (⟨"FindingAidModel", "copyOf", "(II)I"⟩, 22) := ⟨⟨by decide +kernel, by decide +kernel⟩, List.mem_of_getElem? (i := 1553) (by decide +kernel), List.mem_of_getElem? (i := 1705) (by decide +kernel), List.mem_of_getElem? (i := 1706) (by decide +kernel)⟩
theorem lw_p33 : lw_okq (⟨"FindingAidModel", "asked", "(II)I"⟩, 22) := ⟨⟨by decide +kernel, by decide +kernel⟩, List.mem_of_getElem? (i := 1553) (by decide +kernel), List.mem_of_getElem? (i := 1709) (by decide +kernel), List.mem_of_getElem? (i := 1710) (by decide +kernel)⟩
theorem lw_p34 : lw_okq (⟨"FindingAidModel", "forgetRequest", "(I)V"⟩, 22) := ⟨⟨by decide +kernel, by decide +kernel⟩, List.mem_of_getElem? (i := 1553) (by decide +kernel), List.mem_of_getElem? (i := 1713) (by decide +kernel), List.mem_of_getElem? (i := 1714) (by decide +kernel)⟩
theorem lw_p35 : lw_okq (⟨"FindingAidModel", "latest", "(I)I"⟩, 22) := ⟨⟨by decide +kernel, by decide +kernel⟩, List.mem_of_getElem? (i := 1553) (by decide +kernel), List.mem_of_getElem? (i := 1725) (by decide +kernel), List.mem_of_getElem? (i := 1726) (by decide +kernel)⟩
theorem lw_p36 : lw_okq (⟨"FindingAidModel", "countChildren", "(I)I"⟩, 22) := ⟨⟨by decide +kernel, by decide +kernel⟩, List.mem_of_getElem? (i := 1553) (by decide +kernel), List.mem_of_getElem? (i := 1732) (by decide +kernel), List.mem_of_getElem? (i := 1733) (by decide +kernel)⟩
theorem lw_p37 : lw_okq (⟨"FindingAidModel", "nextChild", "(II)I"⟩, 22) := ⟨⟨by decide +kernel, by decide +kernel⟩, List.mem_of_getElem? (i := 1553) (by decide +kernel), List.mem_of_getElem? (i := 1736) (by decide +kernel), List.mem_of_getElem? (i := 1737) (by decide +kernel)⟩
theorem lw_p38 : lw_okq (⟨"FindingAidModel", "countBelow", "(I)I"⟩, 22) := ⟨⟨by decide +kernel, by decide +kernel⟩, List.mem_of_getElem? (i := 1553) (by decide +kernel), List.mem_of_getElem? (i := 1740) (by decide +kernel), List.mem_of_getElem? (i := 1741) (by decide +kernel)⟩
theorem lw_p39 : lw_okq (⟨"FindingAidModel", "sumPages", "(I)I"⟩, 22) := ⟨⟨by decide +kernel, by decide +kernel⟩, List.mem_of_getElem? (i := 1553) (by decide +kernel), List.mem_of_getElem? (i := 1744) (by decide +kernel), List.mem_of_getElem? (i := 1745) (by decide +kernel)⟩
theorem lw_p40 : lw_okq (⟨"FindingAidModel", "countCopies", "(I)I"⟩, 22) := ⟨⟨by decide +kernel, by decide +kernel⟩, List.mem_of_getElem? (i := 1553) (by decide +kernel), List.mem_of_getElem? (i := 1748) (by decide +kernel), List.mem_of_getElem? (i := 1749) (by decide +kernel)⟩
theorem lw_p41 : lw_okq (⟨"FindingAidModel", "isCopy", "(I)Z"⟩, 22) := ⟨⟨by decide +kernel, by decide +kernel⟩, List.mem_of_getElem? (i := 1553) (by decide +kernel), List.mem_of_getElem? (i := 1752) (by decide +kernel), List.mem_of_getElem? (i := 1753) (by decide +kernel)⟩
theorem lw_p42 : lw_okq (⟨"FindingAidModel", "lastClosed", "(I)I"⟩, 22) := ⟨⟨by decide +kernel, by decide +kernel⟩, List.mem_of_getElem? (i := 1553) (by decide +kernel), List.mem_of_getElem? (i := 1772) (by decide +kernel), List.mem_of_getElem? (i := 1773) (by decide +kernel)⟩
theorem lw_p43 : lw_okq (⟨"FindingAidModel", "findTerm", "(I)V"⟩, 22) := ⟨⟨by decide +kernel, by decide +kernel⟩, List.mem_of_getElem? (i := 1553) (by decide +kernel), List.mem_of_getElem? (i := 1776) (by decide +kernel), List.mem_of_getElem? (i := 1777) (by decide +kernel)⟩
theorem lw_p44 : lw_okq (⟨"FindingAidModel", "openSet", "(II)I"⟩, 22) := ⟨⟨by decide +kernel, by decide +kernel⟩, List.mem_of_getElem? (i := 1553) (by decide +kernel), List.mem_of_getElem? (i := 1785) (by decide +kernel), List.mem_of_getElem? (i := 1786) (by decide +kernel)⟩
theorem lw_p45 : lw_okq (⟨"FindingAidModel", "lastClosedPage", "(II)I"⟩, 22) := ⟨⟨by decide +kernel, by decide +kernel⟩, List.mem_of_getElem? (i := 1553) (by decide +kernel), List.mem_of_getElem? (i := 1789) (by decide +kernel), List.mem_of_getElem? (i := 1790) (by decide +kernel)⟩
theorem lw_p46 : lw_okq (⟨"FindingAidModel", "visible", "(I)I"⟩, 22) := ⟨⟨by decide +kernel, by decide +kernel⟩, List.mem_of_getElem? (i := 1553) (by decide +kernel), List.mem_of_getElem? (i := 1797) (by decide +kernel), List.mem_of_getElem? (i := 1798) (by decide +kernel)⟩
theorem lw_p47 : lw_okq (⟨"FindingAidModel", "allPages", "(I)I"⟩, 22) := ⟨⟨by decide +kernel, by decide +kernel⟩, List.mem_of_getElem? (i := 1553) (by decide +kernel), List.mem_of_getElem? (i := 1801) (by decide +kernel), List.mem_of_getElem? (i := 1802) (by decide +kernel)⟩
def lw_privs_3 : List (MethodName × Nat) := [(⟨"FindingAidModel", "copyOf", "(II)I"⟩, 22), (⟨"FindingAidModel", "asked", "(II)I"⟩, 22), (⟨"FindingAidModel", "forgetRequest", "(I)V"⟩, 22), (⟨"FindingAidModel", "latest", "(I)I"⟩, 22), (⟨"FindingAidModel", "countChildren", "(I)I"⟩, 22), (⟨"FindingAidModel", "nextChild", "(II)I"⟩, 22), (⟨"FindingAidModel", "countBelow", "(I)I"⟩, 22), (⟨"FindingAidModel", "sumPages", "(I)I"⟩, 22), (⟨"FindingAidModel", "countCopies", "(I)I"⟩, 22), (⟨"FindingAidModel", "isCopy", "(I)Z"⟩, 22), (⟨"FindingAidModel", "lastClosed", "(I)I"⟩, 22), (⟨"FindingAidModel", "findTerm", "(I)V"⟩, 22), (⟨"FindingAidModel", "openSet", "(II)I"⟩, 22), (⟨"FindingAidModel", "lastClosedPage", "(II)I"⟩, 22), (⟨"FindingAidModel", "visible", "(I)I"⟩, 22), (⟨"FindingAidModel", "allPages", "(I)I"⟩, 22)]
theorem lw_r3 : ∀ q ∈ lw_privs_3, lw_okq q := List.forall_mem_cons.mpr ⟨lw_p32, List.forall_mem_cons.mpr ⟨lw_p33, List.forall_mem_cons.mpr ⟨lw_p34, List.forall_mem_cons.mpr ⟨lw_p35, List.forall_mem_cons.mpr ⟨lw_p36, List.forall_mem_cons.mpr ⟨lw_p37, List.forall_mem_cons.mpr ⟨lw_p38, List.forall_mem_cons.mpr ⟨lw_p39, List.forall_mem_cons.mpr ⟨lw_p40, List.forall_mem_cons.mpr ⟨lw_p41, List.forall_mem_cons.mpr ⟨lw_p42, List.forall_mem_cons.mpr ⟨lw_p43, List.forall_mem_cons.mpr ⟨lw_p44, List.forall_mem_cons.mpr ⟨lw_p45, List.forall_mem_cons.mpr ⟨lw_p46, List.forall_mem_cons.mpr ⟨lw_p47, fun _ h => absurd h List.not_mem_nil⟩⟩⟩⟩⟩⟩⟩⟩⟩⟩⟩⟩⟩⟩⟩⟩
theorem lw_p48 : lw_okq (⟨"FindingAidModel", "isUnit", "(I)Z"⟩, 22) := ⟨⟨by decide +kernel, by decide +kernel⟩, List.mem_of_getElem? (i := 1553) (by decide +kernel), List.mem_of_getElem? (i := 1812) (by decide +kernel), List.mem_of_getElem? (i := 1813) (by decide +kernel)⟩
theorem lw_p49 : lw_okq (⟨"FindingAidModel", "isFull", "()Z"⟩, 22) := ⟨⟨by decide +kernel, by decide +kernel⟩, List.mem_of_getElem? (i := 1553) (by decide +kernel), List.mem_of_getElem? (i := 1830) (by decide +kernel), List.mem_of_getElem? (i := 1831) (by decide +kernel)⟩
theorem lw_p50 : lw_okq (⟨"FindingAidModel", "countContainers", "()I"⟩, 22) := ⟨⟨by decide +kernel, by decide +kernel⟩, List.mem_of_getElem? (i := 1553) (by decide +kernel), List.mem_of_getElem? (i := 1834) (by decide +kernel), List.mem_of_getElem? (i := 1835) (by decide +kernel)⟩
theorem lw_p51 : lw_okq (⟨"FindingAidModel", "makeContainer", "(I)I"⟩, 22) := ⟨⟨by decide +kernel, by decide +kernel⟩, List.mem_of_getElem? (i := 1553) (by decide +kernel), List.mem_of_getElem? (i := 1838) (by decide +kernel), List.mem_of_getElem? (i := 1839) (by decide +kernel)⟩
theorem lw_p52 : lw_okq (⟨"FindingAidModel", "isContainer", "(I)Z"⟩, 22) := ⟨⟨by decide +kernel, by decide +kernel⟩, List.mem_of_getElem? (i := 1553) (by decide +kernel), List.mem_of_getElem? (i := 1846) (by decide +kernel), List.mem_of_getElem? (i := 1847) (by decide +kernel)⟩
theorem lw_p53 : lw_okq (⟨"FindingAidModel", "pagesFrom", "(II)I"⟩, 22) := ⟨⟨by decide +kernel, by decide +kernel⟩, List.mem_of_getElem? (i := 1553) (by decide +kernel), List.mem_of_getElem? (i := 1850) (by decide +kernel), List.mem_of_getElem? (i := 1851) (by decide +kernel)⟩
theorem lw_p54 : lw_okq (⟨"FindingAidModel", "putAtEnd", "(II)I"⟩, 22) := ⟨⟨by decide +kernel, by decide +kernel⟩, List.mem_of_getElem? (i := 1553) (by decide +kernel), List.mem_of_getElem? (i := 1854) (by decide +kernel), List.mem_of_getElem? (i := 1855) (by decide +kernel)⟩
theorem lw_p55 : lw_okq (⟨"FindingAidModel", "putAll", "(III)I"⟩, 22) := ⟨⟨by decide +kernel, by decide +kernel⟩, List.mem_of_getElem? (i := 1553) (by decide +kernel), List.mem_of_getElem? (i := 1866) (by decide +kernel), List.mem_of_getElem? (i := 1867) (by decide +kernel)⟩
theorem lw_p56 : lw_okq (⟨"FindingAidModel", "decide", "(III)I"⟩, 22) := ⟨⟨by decide +kernel, by decide +kernel⟩, List.mem_of_getElem? (i := 1553) (by decide +kernel), List.mem_of_getElem? (i := 1894) (by decide +kernel), List.mem_of_getElem? (i := 1895) (by decide +kernel)⟩
theorem lw_p57 : lw_okq (⟨"FindingAidModel", "countRequests", "(II)I"⟩, 22) := ⟨⟨by decide +kernel, by decide +kernel⟩, List.mem_of_getElem? (i := 1553) (by decide +kernel), List.mem_of_getElem? (i := 1898) (by decide +kernel), List.mem_of_getElem? (i := 1899) (by decide +kernel)⟩
theorem lw_p58 : lw_okq (⟨"FindingAidModel", "refuse", "(III)V"⟩, 22) := ⟨⟨by decide +kernel, by decide +kernel⟩, List.mem_of_getElem? (i := 1553) (by decide +kernel), List.mem_of_getElem? (i := 1902) (by decide +kernel), List.mem_of_getElem? (i := 1903) (by decide +kernel)⟩
theorem lw_p59 : lw_okq (⟨"FindingAidModel", "countSeated", "(I)I"⟩, 22) := ⟨⟨by decide +kernel, by decide +kernel⟩, List.mem_of_getElem? (i := 1553) (by decide +kernel), List.mem_of_getElem? (i := 1906) (by decide +kernel), List.mem_of_getElem? (i := 1907) (by decide +kernel)⟩
theorem lw_p60 : lw_okq (⟨"FindingAidModel", "showing", "(III)I"⟩, 22) := ⟨⟨by decide +kernel, by decide +kernel⟩, List.mem_of_getElem? (i := 1553) (by decide +kernel), List.mem_of_getElem? (i := 1910) (by decide +kernel), List.mem_of_getElem? (i := 1911) (by decide +kernel)⟩
theorem lw_p61 : lw_okq (⟨"FindingAidModel", "canBeShown", "(II)Z"⟩, 22) := ⟨⟨by decide +kernel, by decide +kernel⟩, List.mem_of_getElem? (i := 1553) (by decide +kernel), List.mem_of_getElem? (i := 1914) (by decide +kernel), List.mem_of_getElem? (i := 1915) (by decide +kernel)⟩
theorem lw_p62 : lw_okq (⟨"FindingAidModel", "shownSet", "(I)I"⟩, 22) := ⟨⟨by decide +kernel, by decide +kernel⟩, List.mem_of_getElem? (i := 1553) (by decide +kernel), List.mem_of_getElem? (i := 1925) (by decide +kernel), List.mem_of_getElem? (i := 1926) (by decide +kernel)⟩
theorem lw_p63 : lw_okq (⟨"FindingAidModel", "countUnits", "(Z)I"⟩, 22) := ⟨⟨by decide +kernel, by decide +kernel⟩, List.mem_of_getElem? (i := 1553) (by decide +kernel), List.mem_of_getElem? (i := 1941) (by decide +kernel), List.mem_of_getElem? (i := 1942) (by decide +kernel)⟩
def lw_privs_4 : List (MethodName × Nat) := [(⟨"FindingAidModel", "isUnit", "(I)Z"⟩, 22), (⟨"FindingAidModel", "isFull", "()Z"⟩, 22), (⟨"FindingAidModel", "countContainers", "()I"⟩, 22), (⟨"FindingAidModel", "makeContainer", "(I)I"⟩, 22), (⟨"FindingAidModel", "isContainer", "(I)Z"⟩, 22), (⟨"FindingAidModel", "pagesFrom", "(II)I"⟩, 22), (⟨"FindingAidModel", "putAtEnd", "(II)I"⟩, 22), (⟨"FindingAidModel", "putAll", "(III)I"⟩, 22), (⟨"FindingAidModel", "decide", "(III)I"⟩, 22), (⟨"FindingAidModel", "countRequests", "(II)I"⟩, 22), (⟨"FindingAidModel", "refuse", "(III)V"⟩, 22), (⟨"FindingAidModel", "countSeated", "(I)I"⟩, 22), (⟨"FindingAidModel", "showing", "(III)I"⟩, 22), (⟨"FindingAidModel", "canBeShown", "(II)Z"⟩, 22), (⟨"FindingAidModel", "shownSet", "(I)I"⟩, 22), (⟨"FindingAidModel", "countUnits", "(Z)I"⟩, 22)]
theorem lw_r4 : ∀ q ∈ lw_privs_4, lw_okq q := List.forall_mem_cons.mpr ⟨lw_p48, List.forall_mem_cons.mpr ⟨lw_p49, List.forall_mem_cons.mpr ⟨lw_p50, List.forall_mem_cons.mpr ⟨lw_p51, List.forall_mem_cons.mpr ⟨lw_p52, List.forall_mem_cons.mpr ⟨lw_p53, List.forall_mem_cons.mpr ⟨lw_p54, List.forall_mem_cons.mpr ⟨lw_p55, List.forall_mem_cons.mpr ⟨lw_p56, List.forall_mem_cons.mpr ⟨lw_p57, List.forall_mem_cons.mpr ⟨lw_p58, List.forall_mem_cons.mpr ⟨lw_p59, List.forall_mem_cons.mpr ⟨lw_p60, List.forall_mem_cons.mpr ⟨lw_p61, List.forall_mem_cons.mpr ⟨lw_p62, List.forall_mem_cons.mpr ⟨lw_p63, fun _ h => absurd h List.not_mem_nil⟩⟩⟩⟩⟩⟩⟩⟩⟩⟩⟩⟩⟩⟩⟩⟩
theorem lw_p64 : lw_okq (⟨"FindingAidModel", "countCopiesThere", "()I"⟩, 22) := ⟨⟨by decide +kernel, by decide +kernel⟩, List.mem_of_getElem? (i := 1553) (by decide +kernel), List.mem_of_getElem? (i := 1945) (by decide +kernel), List.mem_of_getElem? (i := 1946) (by decide +kernel)⟩
theorem lw_p65 : lw_okq (⟨"FindingAidModel", "countShown", "(Z)I"⟩, 22) := ⟨⟨by decide +kernel, by decide +kernel⟩, List.mem_of_getElem? (i := 1553) (by decide +kernel), List.mem_of_getElem? (i := 1949) (by decide +kernel), List.mem_of_getElem? (i := 1950) (by decide +kernel)⟩
theorem lw_p66 : lw_okq (⟨"FindingAidModel", "countMarks", "()I"⟩, 22) := ⟨⟨by decide +kernel, by decide +kernel⟩, List.mem_of_getElem? (i := 1553) (by decide +kernel), List.mem_of_getElem? (i := 1953) (by decide +kernel), List.mem_of_getElem? (i := 1954) (by decide +kernel)⟩
theorem lw_p67 : lw_okq (⟨"FindingAidModel", "countOn", "(I)I"⟩, 22) := ⟨⟨by decide +kernel, by decide +kernel⟩, List.mem_of_getElem? (i := 1553) (by decide +kernel), List.mem_of_getElem? (i := 1961) (by decide +kernel), List.mem_of_getElem? (i := 1962) (by decide +kernel)⟩
theorem lw_p68 : lw_okq (⟨"FindingAidModel", "countOpen", "(IZ)I"⟩, 22) := ⟨⟨by decide +kernel, by decide +kernel⟩, List.mem_of_getElem? (i := 1553) (by decide +kernel), List.mem_of_getElem? (i := 1965) (by decide +kernel), List.mem_of_getElem? (i := 1966) (by decide +kernel)⟩
theorem lw_p69 : lw_okq (⟨"FindingAidModel", "passNode", "(IZ)V"⟩, 22) := ⟨⟨by decide +kernel, by decide +kernel⟩, List.mem_of_getElem? (i := 1553) (by decide +kernel), List.mem_of_getElem? (i := 1985) (by decide +kernel), List.mem_of_getElem? (i := 1986) (by decide +kernel)⟩
theorem lw_p70 : lw_okq (⟨"FindingAidModel", "seesDigit", "(C)Z"⟩, 22) := ⟨⟨by decide +kernel, by decide +kernel⟩, List.mem_of_getElem? (i := 1553) (by decide +kernel), List.mem_of_getElem? (i := 1989) (by decide +kernel), List.mem_of_getElem? (i := 1990) (by decide +kernel)⟩
theorem lw_p71 : lw_okq (⟨"FindingAidModel", "passes", "(C)Z"⟩, 22) := ⟨⟨by decide +kernel, by decide +kernel⟩, List.mem_of_getElem? (i := 1553) (by decide +kernel), List.mem_of_getElem? (i := 1993) (by decide +kernel), List.mem_of_getElem? (i := 1994) (by decide +kernel)⟩
theorem lw_p72 : lw_okq (⟨"FindingAidModel", "passNumber", "()I"⟩, 22) := ⟨⟨by decide +kernel, by decide +kernel⟩, List.mem_of_getElem? (i := 1553) (by decide +kernel), List.mem_of_getElem? (i := 1997) (by decide +kernel), List.mem_of_getElem? (i := 1998) (by decide +kernel)⟩
theorem lw_p73 : lw_okq (⟨"FindingAidModel", "must", "(C)V"⟩, 22) := ⟨⟨by decide +kernel, by decide +kernel⟩, List.mem_of_getElem? (i := 1553) (by decide +kernel), List.mem_of_getElem? (i := 2001) (by decide +kernel), List.mem_of_getElem? (i := 2002) (by decide +kernel)⟩
theorem lw_p74 : lw_okq (⟨"FindingAidModel", "writeNode", "(I)V"⟩, 22) := ⟨⟨by decide +kernel, by decide +kernel⟩, List.mem_of_getElem? (i := 1553) (by decide +kernel), List.mem_of_getElem? (i := 2009) (by decide +kernel), List.mem_of_getElem? (i := 2010) (by decide +kernel)⟩
theorem lw_p75 : lw_okq (⟨"FindingAidModel", "writeNumber", "(I)V"⟩, 22) := ⟨⟨by decide +kernel, by decide +kernel⟩, List.mem_of_getElem? (i := 1553) (by decide +kernel), List.mem_of_getElem? (i := 2013) (by decide +kernel), List.mem_of_getElem? (i := 2014) (by decide +kernel)⟩
theorem lw_p76 : lw_okq (⟨"FindingAidModel", "writeLetter", "(C)V"⟩, 22) := ⟨⟨by decide +kernel, by decide +kernel⟩, List.mem_of_getElem? (i := 1553) (by decide +kernel), List.mem_of_getElem? (i := 2017) (by decide +kernel), List.mem_of_getElem? (i := 2018) (by decide +kernel)⟩
def lw_privs_5 : List (MethodName × Nat) := [(⟨"FindingAidModel", "countCopiesThere", "()I"⟩, 22), (⟨"FindingAidModel", "countShown", "(Z)I"⟩, 22), (⟨"FindingAidModel", "countMarks", "()I"⟩, 22), (⟨"FindingAidModel", "countOn", "(I)I"⟩, 22), (⟨"FindingAidModel", "countOpen", "(IZ)I"⟩, 22), (⟨"FindingAidModel", "passNode", "(IZ)V"⟩, 22), (⟨"FindingAidModel", "seesDigit", "(C)Z"⟩, 22), (⟨"FindingAidModel", "passes", "(C)Z"⟩, 22), (⟨"FindingAidModel", "passNumber", "()I"⟩, 22), (⟨"FindingAidModel", "must", "(C)V"⟩, 22), (⟨"FindingAidModel", "writeNode", "(I)V"⟩, 22), (⟨"FindingAidModel", "writeNumber", "(I)V"⟩, 22), (⟨"FindingAidModel", "writeLetter", "(C)V"⟩, 22)]
theorem lw_r5 : ∀ q ∈ lw_privs_5, lw_okq q := List.forall_mem_cons.mpr ⟨lw_p64, List.forall_mem_cons.mpr ⟨lw_p65, List.forall_mem_cons.mpr ⟨lw_p66, List.forall_mem_cons.mpr ⟨lw_p67, List.forall_mem_cons.mpr ⟨lw_p68, List.forall_mem_cons.mpr ⟨lw_p69, List.forall_mem_cons.mpr ⟨lw_p70, List.forall_mem_cons.mpr ⟨lw_p71, List.forall_mem_cons.mpr ⟨lw_p72, List.forall_mem_cons.mpr ⟨lw_p73, List.forall_mem_cons.mpr ⟨lw_p74, List.forall_mem_cons.mpr ⟨lw_p75, List.forall_mem_cons.mpr ⟨lw_p76, fun _ h => absurd h List.not_mem_nil⟩⟩⟩⟩⟩⟩⟩⟩⟩⟩⟩⟩⟩
def lw_privs : List (MethodName × Nat) := lw_privs_1 ++ (lw_privs_2 ++ (lw_privs_3 ++ (lw_privs_4 ++ (lw_privs_5))))
def lw_tbl : List Cond := k2_sels lw_privs ++ tables_1
theorem lw_privs_ok : ∀ q ∈ lw_privs, lw_okq q := by
  show ∀ q ∈ lw_privs_1 ++ (lw_privs_2 ++ (lw_privs_3 ++ (lw_privs_4 ++ (lw_privs_5)))), lw_okq q
  exact List.forall_mem_append.mpr ⟨lw_r1, List.forall_mem_append.mpr ⟨lw_r2, List.forall_mem_append.mpr ⟨lw_r3, List.forall_mem_append.mpr ⟨lw_r4, lw_r5⟩⟩⟩⟩
/-- the streams that the claim lets the run draw from -/
abbrev lw_cs : List Choice := [Jvm.Choice.named "NaN.bits"]
theorem lw_bits : nanBits ∈ lw_cs := by first | decide | exact List.mem_cons_self | simp [lw_cs, nanBits]
end
section
def va_AOA (ty : FieldType) (U : State) : Prop := (Cond.arrayOver (.array ty)).before #[] U = true
theorem va_AOA.use {ty : FieldType} {A : Array Value} {U : State} (h : va_AOA ty U) : (Cond.arrayOver (.array ty)).before A U = true := h
/-! ===== BEGIN words of one list among another's, by their places ===== -/
theorem goodIn_r {big : List Cond} (ws : List Cond) (ps : List Nat) (hp : ws = ps.filterMap (fun i => big[i]?)) (h : ws.all goodWord = true) : GoodIn big ws := by
  intro w hw
  have h1 := List.all_eq_true.mp h w hw
  rw [hp] at hw
  obtain ⟨i, -, hi⟩ := List.mem_filterMap.mp hw
  have hm : w ∈ big := by first | exact List.mem_of_getElem? hi | exact List.getElem?_mem hi
  exact ⟨hm, good_of_word h1⟩
theorem goodIn_app {big a b : List Cond} (ha : GoodIn big a) (hb : GoodIn big b) : GoodIn big (a ++ b) := fun w h => (List.mem_append.mp h).elim (ha w) (hb w)
theorem goodIn_ca {big a b : List Cond} {c : Cond} (ha : GoodIn big (c :: a)) (hb : GoodIn big b) : GoodIn big (c :: (a ++ b)) := fun w h => (List.mem_cons.mp h).elim (fun e => ha w (List.mem_cons.mpr (Or.inl e))) (fun h => (List.mem_append.mp h).elim (fun h => ha w (List.mem_cons.mpr (Or.inr h))) (hb w))
theorem goodIn_sub {big ws : List Cond} (hm : ∀ w ∈ ws, w ∈ big) (h : ws.all goodWord = true) : GoodIn big ws := fun w hw => ⟨hm w hw, good_of_word (List.all_eq_true.mp h w hw)⟩
/-! ===== END ===== -/

/-! ===== BEGIN new T[n][m]: the outer array a place, the inner ones among the pooled ===== -/
/-- f, but v at every address of l -/
def vr_up {α : Type} (f : Nat → α) (l : List Nat) (v : α) : Nat → α := fun a => if a ∈ l then v else f a
theorem vr_up_in {α : Type} {f : Nat → α} {l : List Nat} {v : α} {a : Nat} (h : a ∈ l) : vr_up f l v a = v := if_pos h
theorem vr_up_ne {α : Type} {f : Nat → α} {l : List Nat} {v : α} {a : Nat} (h : a ∉ l) : vr_up f l v a = f a := if_neg h
theorem vr_rows {L l : List Nat} {f : Nat → va_E} {e : va_E} (h : ∀ a, a ∈ l → a ∉ L) : va_pl L f ++ l.map (fun a => (a, e)) = va_pl (L ++ l) (vr_up f l e) := by
  unfold va_pl
  rw [List.map_append]
  congr 1
  · apply List.map_congr_left
    intro a ha
    rw [vr_up_ne (fun q => h a q ha)]
  · apply List.map_congr_left
    intro a ha
    rw [vr_up_in ha]
theorem vr_lay {X rows : va_W} {x : Nat × va_E} {pl : va_W} {D : va_G} {cl : List vw_C} {H : Heap} (hP : va_P D cl (((X ++ pl) ++ [x]) ++ rows) H) : va_P D cl ((X ++ [x]) ++ (pl ++ rows)) H := by
  rw [List.append_assoc (X ++ pl)] at hP
  have h := va_P.swap hP
  rw [← List.append_assoc X] at h
  have h2 := va_P.swap h
  rw [List.append_assoc (X ++ [x])] at h2
  exact h2
theorem vr_layD {X rows : va_W} {x : Nat × va_E} {pl : va_W} {A : Nat → Prop} (hD : va_D A (((X ++ pl) ++ [x]) ++ rows)) : va_D A ((X ++ [x]) ++ (pl ++ rows)) := by
  rw [List.append_assoc (X ++ pl)] at hD
  have h := va_D.swap hD
  rw [← List.append_assoc X] at h
  have h2 := va_D.swap h
  rw [List.append_assoc (X ++ [x])] at h2
  exact h2
theorem vr_outer (c : ClassId) (N h0 : Nat) : ∀ i : Nat, Jvm.Free.Multi.outerC c N h0 i = arrV c N (fun j => va_rf (if j < i then some (h0 + 1 + j) else none))
  | 0 => by
    show ({ cls := c, slots := Array.replicate N .null, vm := .none } : Cell) = _
    rw [arrV_new]
    refine congrArg (arrV c N) (funext fun j => ?_)
    simp [va_rf]
  | i + 1 => by
    show (Jvm.Free.Multi.outerC c N h0 i).setSlot i (.ref (h0 + 1 + i)) = _
    rw [vr_outer c N h0 i, arrV_store]
    refine congrArg (arrV c N) (funext fun j => ?_)
    by_cases e : j = i
    · subst e
      simp [updV, va_rf]
    · by_cases h : j < i
      · simp [updV, e, h, Nat.lt_succ_of_lt h]
      · simp [updV, e, h, show ¬ j < i + 1 by omega]
section VGM
variable {p : Program} {l : Launch} {e : Env} {R : Room} {s : State} {m : MethodId} {args : Array Value} {below : List Frame} {meth : Method} {c : Code} {H : Heap} {locs : List Loc} {cells slots : Nat} {Q : State → Prop}
variable {cc : ByteArray} {pc : Nat} {ls : Array Slot} {rest : List Value} {D : va_G} {cl : List vw_C} {A : Nat → Prop} {a : Nat} {tys : List (ClassId × FieldType)} {ws : va_W} {H0 : Heap}
theorem va_mna {X : va_W} {L : List Nat} {f : Nat → va_E} {cc : ByteArray} (hexec : p.tables.exec = Jvm.exec) (hb : c.code = cc) {own : String} {index : Nat} {ty : FieldType} {cy : ClassId} (hown : s.vm.findClass own = some m.cls) (hclink : (Cond.classLink own index ("[" ++ (FieldType.array ty).toString)).before args s = true) (hover : va_AOA ty s) (harr : (Cond.arrayClass ty).before args s = true) (hcy : s.vm.findClass (FieldType.array ty).toString = some cy)
    (hK : va_K D cl tys s) (hP : va_P D cl (X ++ va_pl L f) H) (hD : va_D A (X ++ va_pl L f)) (hS : va_S A H0 H locs) (hA : ∀ q, H0.size ≤ q → A q) {n k : Int32} {N' K' : Nat} {z : vp_A} (hn : ¬ n < 0) (hk : ¬ k < 0) (hN : n.toNatClampNeg = N') (hM : k.toNatClampNeg = K')
    (hb1 : N' * 4 ≤ 536870912) (hb2 : K' * componentBytes ty ≤ 536870912) (hb3 : K' ≤ 536870912) (hdf : fits ty (defaultValue ty) = true) (hdd : (defaultValue ty).isDefault = true) (hcells : cells + (1 + N') ≤ R.cells) (hslots : slots + (N' + N' * K') ≤ R.slots) (hz : ∀ c : ClassId, Jvm.Free.Multi.innerC c K' (defaultValue ty) = vp_cell c z) (hdg : decode cc pc = .ok (.multianewarray index 2, 4))
    (kk : ∀ (q : Nat) (r : Nat → Nat) (cA : ClassId) (H1 : Heap), (∀ i j : Nat, i < N' → j < N' → r i = r j → i = j) → (∀ i : Nat, i < N' → r i ∉ L) → va_K D cl (tys ++ [(cA, .array ty)]) s →
      va_P D cl ((X ++ [(q, .inl (cA, N', .inr (.inr (.inr (.inr (fun i => if i < N' then some (r i) else none))))))]) ++ va_pl (L ++ (List.range N').map r) (vr_up f ((List.range N').map r) (.inl (cy, z)))) H1 → va_D A ((X ++ [(q, .inl (cA, N', .inr (.inr (.inr (.inr (fun i => if i < N' then some (r i) else none))))))]) ++ va_pl (L ++ (List.range N').map r) (vr_up f ((List.range N').map r) (.inl (cy, z)))) → va_S A H0 H1 locs →
      W p l e R s m args below meth c H1 locs (cells + 1 + N') (slots + N' + N' * K') Q (F0 m (pc + 4) ls (.ref q :: rest))) : W p l e R s m args below meth c H locs cells slots Q (F0 m pc ls (.int k :: .int n :: rest)) := by
  subst hN
  subst hM
  intro T hT Xs
  obtain ⟨vm₁, cA, comp, -, fA, fC, hO, -, X', step⟩ := Xs.multianewarray2F hexec hown hclink (va_AOA.use hover) harr (g := F0 m pc ls (.int k :: .int n :: rest)) rfl (by rw [hb]; exact hdg) rfl hn hk hb1 hb2 hb3 hdf hdd hcells hslots
  have ec : some cy = some comp := hcy.symm.trans fC
  cases ec
  generalize hF : Jvm.Free.Multi.fill (T.setVm vm₁) cA cy n.toNatClampNeg k.toNatClampNeg (defaultValue ty) n.toNatClampNeg = F at X' step
  have hTh : (T.setVm vm₁).heap = H := hT
  obtain ⟨f1, f2, -, -⟩ := Jvm.Free.Multi.fill_facts (T.setVm vm₁) cA cy n.toNatClampNeg k.toNatClampNeg (defaultValue ty) n.toNatClampNeg
  rw [hF, hTh] at f1 f2
  have hold : ∀ x : Nat, x < H.size → F.heap[x]? = H[x]? := fun x hx => by
    have := Jvm.Free.Multi.fill_old (T.setVm vm₁) cA cy n.toNatClampNeg k.toNatClampNeg (defaultValue ty) (a := x) (by rw [hTh]; exact hx) n.toNatClampNeg
    rw [hF, hTh] at this
    exact this
  have hrow : ∀ j : Nat, j < n.toNatClampNeg → F.heap[H.size + 1 + j]? = some (vp_cell cy z) := fun j hj => by
    have := Jvm.Free.Multi.fill_inner (T.setVm vm₁) cA cy n.toNatClampNeg k.toNatClampNeg (defaultValue ty) n.toNatClampNeg j hj
    rw [hF, hTh, hz] at this
    exact this
  have hout : Jvm.Free.Multi.outerC cA n.toNatClampNeg H.size n.toNatClampNeg = vp_cell cA (n.toNatClampNeg, .inr (.inr (.inr (.inr (fun i => if i < n.toNatClampNeg then some (H.size + 1 + i) else none))))) := by
    rw [vp_cell_q]
    exact vr_outer cA n.toNatClampNeg H.size n.toNatClampNeg
  rw [hout] at f2
  have hlt : ∀ a, a ∈ L → a < H.size := fun a ha => by
    obtain ⟨k9, hk9⟩ := va_pl_get (X := X) (f := f) ha
    exact (hP k9 _ hk9).lt
  have hnl : ∀ i : Nat, i < n.toNatClampNeg → H.size + 1 + i ∉ L := fun i _ h => by
    have := hlt _ h
    omega
  have hnm : ∀ a, a ∈ (List.range n.toNatClampNeg).map (fun i => H.size + 1 + i) → a ∉ L := fun a ha h => by
    obtain ⟨i, -, rfl⟩ := List.mem_map.mp ha
    have := hlt _ h
    omega
  have hP0 : va_P D cl (X ++ va_pl L f) F.heap := hP.kept (fun k9 x hx => hold x.1 ((hP k9 x hx).lt))
  have hP1 : va_P D cl ((X ++ va_pl L f) ++ [(H.size, .inl (cA, n.toNatClampNeg, .inr (.inr (.inr (.inr (fun i => if i < n.toNatClampNeg then some (H.size + 1 + i) else none))))))]) F.heap := hP0.app (fun k9 x hx => by
    have h0 : k9 < 1 := (List.getElem?_eq_some_iff.mp hx).1
    rw [show k9 = 0 by omega] at hx
    cases hx
    exact f2)
  have hP2 : va_P D cl (((X ++ va_pl L f) ++ [(H.size, .inl (cA, n.toNatClampNeg, .inr (.inr (.inr (.inr (fun i => if i < n.toNatClampNeg then some (H.size + 1 + i) else none))))))]) ++ ((List.range n.toNatClampNeg).map (fun i => H.size + 1 + i)).map (fun a => (a, .inl (cy, z)))) F.heap := hP1.app (fun k9 x hx => by
    obtain ⟨a, ha, rfl⟩ := List.mem_map.mp (List.mem_of_getElem? hx)
    obtain ⟨i, hi, rfl⟩ := List.mem_map.mp ha
    exact hrow i (List.mem_range.mp hi))
  have hD2 : va_D A (((X ++ va_pl L f) ++ [(H.size, .inl (cA, n.toNatClampNeg, .inr (.inr (.inr (.inr (fun i => if i < n.toNatClampNeg then some (H.size + 1 + i) else none))))))]) ++ ((List.range n.toNatClampNeg).map (fun i => H.size + 1 + i)).map (fun a => (a, .inl (cy, z)))) := by
    have hD1 := hD.push (e := .inl (cA, n.toNatClampNeg, .inr (.inr (.inr (.inr (fun i => if i < n.toNatClampNeg then some (H.size + 1 + i) else none)))))) hP rfl (hA _ hS.1)
    generalize hW1 : (X ++ va_pl L f) ++ [(H.size, .inl (cA, n.toNatClampNeg, .inr (.inr (.inr (.inr (fun i => if i < n.toNatClampNeg then some (H.size + 1 + i) else none))))))] = W1 at hD1 hP1 ⊢
    have hle : ∀ (k9 : Nat) (x : Nat × va_E), W1[k9]? = some x → x.1 ≤ H.size := fun k9 x hx => by
      rw [← hW1] at hx
      by_cases hl : k9 < (X ++ va_pl L f).length
      · rw [List.getElem?_append_left hl] at hx
        exact Nat.le_of_lt ((hP k9 x hx).lt)
      · rw [List.getElem?_append_right (by omega)] at hx
        have h0 : k9 - (X ++ va_pl L f).length < 1 := (List.getElem?_eq_some_iff.mp hx).1
        rw [show k9 - (X ++ va_pl L f).length = 0 by omega] at hx
        cases hx
        exact Nat.le_refl _
    have hr : ∀ (k9 : Nat) (x : Nat × va_E), (((List.range n.toNatClampNeg).map (fun i => H.size + 1 + i)).map (fun a => ((a, .inl (cy, z)) : Nat × va_E)))[k9]? = some x → x.1 = H.size + 1 + k9 := fun k9 x hx => by
      rw [List.getElem?_map, List.getElem?_map] at hx
      by_cases h9 : k9 < n.toNatClampNeg
      · rw [List.getElem?_range h9] at hx
        cases hx
        rfl
      · have hn0 : (List.range n.toNatClampNeg)[k9]? = none := List.getElem?_eq_none (by rw [List.length_range]; omega)
        rw [hn0] at hx
        cases hx
    refine ⟨fun i j x y hi hj hxy => ?_, fun k9 x hx => ?_⟩
    · by_cases h1 : i < W1.length <;> by_cases h2 : j < W1.length
      · rw [List.getElem?_append_left h1] at hi
        rw [List.getElem?_append_left h2] at hj
        exact hD1.1 i j x y hi hj hxy
      · rw [List.getElem?_append_left h1] at hi
        rw [List.getElem?_append_right (by omega)] at hj
        have := hle _ _ hi
        have := hr _ _ hj
        omega
      · rw [List.getElem?_append_right (by omega)] at hi
        rw [List.getElem?_append_left h2] at hj
        have := hle _ _ hj
        have := hr _ _ hi
        omega
      · rw [List.getElem?_append_right (by omega)] at hi hj
        have := hr _ _ hi
        have := hr _ _ hj
        omega
    · by_cases h1 : k9 < W1.length
      · rw [List.getElem?_append_left h1] at hx
        exact hD1.2 k9 x hx
      · rw [List.getElem?_append_right (by omega)] at hx
        have := hr _ _ hx
        exact hA _ (by have := hS.1; omega)
  have hAr : ArrOfT s cA (.array ty) := fun N9 z9 => by
    obtain ⟨-, k9, hk9, cm9, hkk9⟩ := (hO 0 0 0).1
    exact ⟨(fun q hq => by cases hq), k9, hk9, cm9, hkk9⟩
  have hK2 : va_K D cl (tys ++ [(cA, .array ty)]) s := ⟨hK.1, fun k9 x hx => by
    by_cases hl : k9 < tys.length
    · rw [List.getElem?_append_left hl] at hx
      exact hK.2 k9 x hx
    · rw [List.getElem?_append_right (by omega)] at hx
      have h0 : k9 - tys.length < 1 := (List.getElem?_eq_some_iff.mp hx).1
      rw [show k9 - tys.length = 0 by omega] at hx
      cases hx
      exact ⟨hAr, fA⟩⟩
  obtain ⟨t, a1, b1⟩ := kk H.size (fun i => H.size + 1 + i) cA F.heap (fun i j _ _ h => by have h9 : H.size + 1 + i = H.size + 1 + j := h; omega) hnl hK2 (by rw [← vr_rows hnm]; exact vr_lay hP2) (by rw [← vr_rows hnm]; exact vr_layD hD2) ⟨by rw [f1]; have := hS.1; omega, fun x h1 h2 => (hold x (Nat.lt_of_lt_of_le h1 hS.1)).trans (hS.2.1 x h1 h2), hS.2.2⟩ F rfl X'
  refine ⟨t, step t ?_, b1⟩
  have e : T.heap.size = H.size := by rw [hT]
  rw [e]
  exact a1
end VGM
/-! ===== END ===== -/

/-! ===== BEGIN exceptions that leave a method, and their catching by the caller (launches without stack traces) ===== -/
section VXA
/-! The laws vx_back, vx_callV, vx_callS, vx_callSW, vx_throw0, vx_throwS follow proofs of the library, with one case more: JvmDerived/Free/Laws.lean (Back.of_free), Shelf42/LK1.lean (callV, callS), Shelf/KitTraced.lean (throwNew0V, throwNewS). -/
/-- where a method has thrown q: the class by its name, the cell, what was written, the world -/
def vx_T (XC : String → State → State → Prop) (st : State) (q : Addr) (t : State) (mc ms : Nat) (free : Addr → Prop) : Prop :=
  ∃ (E : String) (ce : Cell) (L : List Loc), XC E st t ∧ t.heap[q]? = some ce ∧ ce.vm = .none ∧ st.vm.findClass E = some ce.cls ∧ st.WarmedH t.vm ∧ st.sameButNew ({ t with vm := st.vm } : State) L mc ms ∧ ∀ z ∈ L, free z.base
def vx_Q (Qc : Array Value → State → Outcome → State → Prop) (XC : String → State → State → Prop) (mc ms : Nat) (free : Addr → Prop) : Array Value → State → Outcome → State → Prop := fun a st o t =>
  (Qc a st o t ∧ ∃ L, FrameEnd st o t L mc ms ∧ ∀ q ∈ L, free q.base) ∨ ∃ q, o = .threw q ∧ vx_T XC st q t mc ms free
/-- a callee that returns or throws -/
def vx_Met (l : Launch) (y : MethodName) (ws : List Cond) (rm : Room) (Pc : Array Value → State → Prop) (Qc : Array Value → State → Outcome → State → Prop) (XC : String → State → State → Prop) (mc ms : Nat) (free : Addr → Prop) : Prop :=
  MetFree l y (headSpec ws rm) Pc (fun _ _ _ _ _ => True) (vx_Q Qc XC mc ms free)
def vx_Post (XC : String → State → State → Prop) (mc ms : Nat) (free : Addr → Prop) : Pt → Array Value → Addr → Pt → Prop := fun A a q B =>
  ∃ (g : JFrame) (mk : MethodId) (t : State) (L : List Loc) (E : String) (ce : Cell), B.U.heap = t.heap ∧ B.U.vm = t.vm ∧ XC E (A.U.calling g mk a) t ∧ t.heap[q]? = some ce ∧ ce.vm = .none ∧ A.U.vm.findClass E = some ce.cls ∧ B.locs = A.locs ++ L ∧ (∀ z ∈ L, free z.base) ∧ B.cells = A.cells + mc ∧ B.slots = A.slots + ms
def vx_Back (l : Launch) (R : Room) (p : Program) (e : Env) (below : List Frame) (s : State) (sargs : Array Value) (y : MethodName) (len W9 : Nat)
    (Pre : Pt → Array Value → Prop) (Post : Pt → Array Value → Option Value → Pt → Prop) (PostX : Pt → Array Value → Addr → Pt → Prop) : Prop :=
  ∀ (m : MethodId) (meth : Method) (c : Code) (A : Pt) (g : JFrame) (ig : Instr) (mk : MethodId) (a : Array Value),
    Stand p l e R s m sargs below meth c A.U A.locs A.cells A.slots → g.method = m → g.locals.size = c.maxLocals → decode c.code g.pc = .ok (ig, len) →
    2 * g.monitorRoom + (g.stack.map fun v => v.category).sum ≤ W9 → A.U.methodNamed? y = some mk → Pre A a →
    (∃ (v : Option Value) (B : Pt), Stand p l e R s m sargs below meth c B.U B.locs B.cells B.slots ∧ Post A a v B ∧
      Steps p.tables e below (doInvoke e (A.U.setTop g) [] mk a).1 (B.U.setTop { g with pc := g.pc + len, stack := v.toList ++ g.stack })) ∨
    (∃ (q : Addr) (B : Pt), Stand p l e R s m sargs below meth c B.U B.locs B.cells B.slots ∧ PostX A a q B ∧
      Steps p.tables e below (doInvoke e (A.U.setTop g) [] mk a).1 ((B.U.setTop g).pushFrame (.throwing q)))
section Payer
variable {l : Launch} {R : Room} {p : Program} {e : Env} {below : List Frame} {s : State} {sargs : Array Value} {y : MethodName} {len W9 : Nat}
theorem vx_back {ws : List Cond} {rm : Room} {Pc : Array Value → State → Prop} {Qc : Array Value → State → Outcome → State → Prop} {XC : String → State → State → Prop} {mc ms : Nat} {free : Addr → Prop} {bytes : ByteArray} {maxL : Nat} {ret : Option FieldType}
    (hM : vx_Met l y ws rm Pc Qc XC mc ms free) (hblind : FrameBlind Pc) (hrc : rm.cells = mc) (hrs : rm.slots = ms)
    (hframes : rm.frames + 1 ≤ R.frames) (hlocals : W9 + (maxL + 11) + rm.locals ≤ R.locals)
    (hws : ∀ w ∈ ws, ∀ a' U, s.WarmedH U.vm → w.before a' U = true) (hcode : Cond.code y bytes maxL ret ∈ ws) (hinit : ∀ a' U, s.WarmedH U.vm → (Cond.initialized y.cls).before a' U = true) :
    vx_Back l R p e below s sargs y len W9 (PreOf R mc ms Pc) (PostOf Qc mc ms free) (vx_Post XC mc ms free) := by
  intro m meth c A g ig mk a X hg hsize hdg hW hn hp
  have h1 : (headSpec ws rm).pre.before a A.U = true := atoms_intro fun w hw => hws w hw _ _ X.warmed
  have h2 : (Cond.code y bytes maxL ret).before a A.U = true := hws _ hcode _ _ X.warmed
  have h3 : (Cond.initialized y.cls).before a A.U = true := hinit _ _ X.warmed
  have h4 : A.cells + (headSpec ws rm).room.cells ≤ R.cells := by rw [show (headSpec ws rm).room.cells = mc from hrc]; exact hp.1
  have h5 : A.slots + (headSpec ws rm).room.slots ≤ R.slots := by rw [show (headSpec ws rm).room.slots = ms from hrs]; exact hp.2.1
  have hPc : Pc a (A.U.calling g mk a) := hblind _ _ _ _ hp.2.2
  obtain ⟨U, Ls, c0, s0⟩ := A
  dsimp only [Pt.U, Pt.locs, Pt.cells, Pt.slots] at h1 h2 h3 h4 h5 X hn hPc ⊢
  obtain ⟨methY, cY, hmY, hcY, -, hlY, -, -, -, -⟩ := Cond.code_spec hn h2
  obtain ⟨kY, hkY, -⟩ := className_of_methodNamed hn
  have hinitY : kY.init = .initialized := Cond.initialized_spec (findClass_of_methodNamed hn) hkY h3
  have h : At U g.method c below := by rw [hg]; exact X.here
  have hlocals9 : W9 + (maxL + 11) + (headSpec ws rm).room.locals ≤ R.locals := hlocals
  have happ : (headSpec ws rm).appliesLoose y e.platform (U.calling g mk a) = true :=
    Spec.appliesLoose_calling (g := g) h hdg hn hkY hinitY
      (X.room_calling (g := g) (R' := (headSpec ws rm).room) hsize hmY hcY hframes (by rw [hlY]; omega) h4 h5) h1
  obtain ⟨mid, hmid⟩ := h.above
  have hfr : (U.setTop g).frames = (.java g :: mid) ++ below := by rw [State.frames_setTop' g h.top, hmid]; rfl
  obtain ⟨o, s₂, hsteps, -, hend, hq⟩ := Steps.callFree hM p X.admits X.cas X.clock (acts := []) hfr happ hPc trivial
  have hq' : vx_Q Qc XC mc ms free a (U.calling g mk a) o s₂ := hq
  rw [State.frames_setTop' g h.top] at hend
  obtain ⟨g₀, hg0⟩ := Option.isSome_iff_exists.mp h.top
  obtain ⟨r, hr⟩ := State.topJava?_eq_some.mp hg0
  have hr' : (({ U with heap := s₂.heap, slotsUsed := s₂.slotsUsed } : State).setVm s₂.vm).frames = .java g₀ :: r := hr
  rcases hq' with ⟨hqc, L, hfe, hL⟩ | ⟨q, rfl, E, ce, L, hx, hce, hcv, hcl, hW₂, hsm, hL⟩
  · obtain ⟨⟨v, rfl⟩, hW₂, e2, q2, q3, q4, q5, q6⟩ := id hfe
    have e3 : s₂ = ({ (U.calling g mk a).setFrames s₂.frames with heap := s₂.heap, slotsUsed := s₂.slotsUsed } : State).setVm s₂.vm := by
      have : s₂ = ({ s₂ with vm := (U.calling g mk a).vm } : State).setVm s₂.vm := rfl
      rw [e2] at this
      exact this
    obtain ⟨c₂, i₂, len₂, hc₂, hd₂, hf₂⟩ := hend
    have hW' : U.WarmedH s₂.vm := hW₂
    have hcc : c₂ = c := by
      have h1 : s₂.code? g.method = U.code? g.method := by
        rw [State.code?_eq, State.code?_eq, hW'.alike.method?]
      exact Option.some.inj (hc₂.symm.trans (h1.trans h.code))
    subst hcc
    have hlen : len₂ = len := by rw [hdg] at hd₂; cases hd₂; rfl
    subst hlen
    have hs₂ : s₂ = (({ U with heap := s₂.heap, slotsUsed := s₂.slotsUsed } : State).setVm s₂.vm).setTop { g with pc := g.pc + len₂, stack := v.toList ++ g.stack } := by
      refine e3.trans ?_
      rw [hf₂, State.calling_eq h.top, State.setFrames_setFrames, State.setTop_of_frames _ hr', hr]
      rfl
    have hsame : U.sameButNew ({ U with heap := s₂.heap, slotsUsed := s₂.slotsUsed } : State) L mc ms := by
      refine ⟨?_, q2, q3, q4, q5, q6⟩
      obtain ⟨t, ht, -⟩ := State.frames_cons hr
      show ({ U with heap := s₂.heap, slotsUsed := s₂.slotsUsed } : State) = { U.setFrames U.frames with heap := s₂.heap, slotsUsed := s₂.slotsUsed }
      rw [State.setFrames_self ht]
    subst hg
    refine Or.inl ⟨v, ⟨(({ U with heap := s₂.heap, slotsUsed := s₂.slotsUsed } : State).setVm s₂.vm), Ls ++ L, c0 + mc, s0 + ms⟩,
      ⟨X.admits, X.cas, X.clock, X.frames, X.room, X.hears, X.method, X.code, (X.here.setHeapUsed s₂.heap s₂.slotsUsed).setVm hW'.alike, X.tail, State.WarmedH.trans X.warmed hW', X.limits, X.bytes, X.same.trans (hsame.setVm s.vm)⟩,
      ⟨g, mk, s₂, L, rfl, rfl, hqc, rfl, hL, rfl, rfl⟩, ?_⟩
    show Steps p.tables e below _ ((({ U with heap := s₂.heap, slotsUsed := s₂.slotsUsed } : State).setVm s₂.vm).setTop { g with pc := g.pc + len₂, stack := v.toList ++ g.stack })
    rw [← hs₂]
    exact hsteps
  · obtain ⟨e2, q2, q3, q4, q5, q6⟩ := id hsm
    have e3 : s₂ = ({ (U.calling g mk a).setFrames s₂.frames with heap := s₂.heap, slotsUsed := s₂.slotsUsed } : State).setVm s₂.vm := by
      have : s₂ = ({ s₂ with vm := (U.calling g mk a).vm } : State).setVm s₂.vm := rfl
      rw [e2] at this
      exact this
    have hf₂ : s₂.frames = .throwing q :: .java g :: U.frames.tail := hend
    have hW' : U.WarmedH s₂.vm := hW₂
    have hs₂ : s₂ = ((({ U with heap := s₂.heap, slotsUsed := s₂.slotsUsed } : State).setVm s₂.vm).setTop g).pushFrame (.throwing q) := by
      refine e3.trans ?_
      rw [hf₂, State.calling_eq h.top, State.setFrames_setFrames, State.pushFrame, State.frames_setTop _ hr', State.setTop_of_frames _ hr', State.setFrames_setFrames, hr]
      rfl
    have hsame : U.sameButNew ({ U with heap := s₂.heap, slotsUsed := s₂.slotsUsed } : State) L mc ms := by
      refine ⟨?_, q2, q3, q4, q5, q6⟩
      obtain ⟨t, ht, -⟩ := State.frames_cons hr
      show ({ U with heap := s₂.heap, slotsUsed := s₂.slotsUsed } : State) = { U.setFrames U.frames with heap := s₂.heap, slotsUsed := s₂.slotsUsed }
      rw [State.setFrames_self ht]
    subst hg
    refine Or.inr ⟨q, ⟨(({ U with heap := s₂.heap, slotsUsed := s₂.slotsUsed } : State).setVm s₂.vm), Ls ++ L, c0 + mc, s0 + ms⟩,
      ⟨X.admits, X.cas, X.clock, X.frames, X.room, X.hears, X.method, X.code, (X.here.setHeapUsed s₂.heap s₂.slotsUsed).setVm hW'.alike, X.tail, State.WarmedH.trans X.warmed hW', X.limits, X.bytes, X.same.trans (hsame.setVm s.vm)⟩,
      ⟨g, mk, s₂, L, E, ce, rfl, rfl, hx, hce, hcv, hcl, rfl, hL, rfl, rfl⟩, ?_⟩
    show Steps p.tables e below _ (((({ U with heap := s₂.heap, slotsUsed := s₂.slotsUsed } : State).setVm s₂.vm).setTop g).pushFrame (.throwing q))
    rw [← hs₂]
    exact hsteps
end Payer
section Calls
variable {p : Program} {l : Launch} {e : Env} {R : Room} {s : State} {m : MethodId} {args : Array Value} {below : List Frame} {meth : Method} {c : Code} {T : State} {locs : List Loc} {cells slots : Nat}
theorem vx_callV (X : Stand p l e R s m args below meth c T locs cells slots) (hexec : p.tables.exec = Jvm.exec) {own C : String} {index : Nat} {y : MethodName} {bytes : ByteArray} {maxL : Nat} {ret : Option FieldType}
    (hown : s.vm.findClass own = some m.cls) (hlink : (Cond.methodLink own index y).before args s = true) (hinst : (Cond.instanceMethod y).before args s = true) (hsel : (Cond.selects C y y).before args s = true)
    (hcode : (Cond.code y bytes maxL ret).before args s = true) (hy : y.cls ≠ "java/lang/invoke/MethodHandle" ∧ y.cls ≠ "java/lang/invoke/VarHandle")
    {W9 : Nat} {Pre : Pt → Array Value → Prop} {Post : Pt → Array Value → Option Value → Pt → Prop} {PostX : Pt → Array Value → Addr → Pt → Prop} (hK : vx_Back l R p e below s args y 3 W9 Pre Post PostX)
    {b : Addr} {cellB : Cell} (hcell : T.heap[b]? = some cellB) (hobj : cellB.vm.isStatics = false) (hcls : s.vm.findClass C = some cellB.cls)
    {g : JFrame} (hg : g.method = m) (hsize : g.locals.size = c.maxLocals) {argsL rest : List Value} (hlen : ∀ sig, parseMethodDescriptor y.desc = some sig → argsL.length = sig.parameters.length)
    (hstack : g.stack = argsL.reverse ++ .ref b :: rest) (hW : 2 * g.monitorRoom + (rest.map fun v => v.category).sum ≤ W9) (hdg : decode c.code g.pc = .ok (.invokevirtual index, 3))
    (hpre : ∀ vm₁, s.WarmedH vm₁ → Pre ⟨T.setVm vm₁, locs, cells, slots⟩ (Value.ref b :: argsL).toArray) :
    (∃ (v : Option Value) (vm₁ : Vm) (B : Pt), s.WarmedH vm₁ ∧ Stand p l e R s m args below meth c B.U B.locs B.cells B.slots ∧ Post ⟨T.setVm vm₁, locs, cells, slots⟩ (Value.ref b :: argsL).toArray v B ∧
      ∀ target, Steps p.tables e below (B.U.setTop { g with pc := g.pc + 3, stack := v.toList ++ rest }) target → Steps p.tables e below (T.setTop g) target) ∨
    (∃ (q : Addr) (vm₁ : Vm) (B : Pt), s.WarmedH vm₁ ∧ Stand p l e R s m args below meth c B.U B.locs B.cells B.slots ∧ PostX ⟨T.setVm vm₁, locs, cells, slots⟩ (Value.ref b :: argsL).toArray q B ∧
      Steps p.tables e below (T.setTop g) ((B.U.setTop { g with stack := rest }).pushFrame (.throwing q))) := by
  obtain ⟨mk, methM, hnamed, hmethM, hstM, habM⟩ := Cond.instanceMethod_spec hinst
  obtain ⟨methM', cM, hmethM', -, -, -, -, -, -, hsigM⟩ := Cond.code_spec hnamed hcode
  cases hmethM.symm.trans hmethM'
  obtain ⟨c2, r2, m2, q1, q2, q3, q4, kP, hkP, hkPi⟩ := Cond.selects_spec hsel
  cases hcls.symm.trans q1
  cases (State.methodFound?_of_named hnamed hy).symm.trans q2
  cases hnamed.symm.trans q3
  have hselP : selectMethod e.platform s.vm cellB.cls mk = .method mk := by rw [Launch.admits_selectMethod X.admits]; exact q4
  obtain ⟨vm₁, X₁, hstep₁⟩ := X.invokevirtual hexec hown hlink hnamed hmethM hstM hkP hkPi hy (a := b) (cell := cellB) hcell
    (fun z h => by rw [h] at hobj; cases hobj) hselP hmethM habM hkP hkPi (g := g) hg (argsL := argsL) (rest := rest) (hlen _ hsigM) hstack hdg
  rcases hK m meth c ⟨T.setVm vm₁, locs, cells, slots⟩ { g with stack := rest } (.invokevirtual index) mk (Value.ref b :: argsL).toArray X₁ hg hsize hdg hW (X₁.named hnamed) (hpre vm₁ X₁.warmed) with ⟨v, B, X', hpost, hsteps⟩ | ⟨q, B, X', hpost, hsteps⟩
  · exact Or.inl ⟨v, vm₁, B, X₁.warmed, X', hpost, fun target h => hstep₁ _ fun acts => by rw [doInvoke_state]; exact hsteps.trans h⟩
  · exact Or.inr ⟨q, vm₁, B, X₁.warmed, X', hpost, hstep₁ _ fun acts => by rw [doInvoke_state]; exact hsteps⟩
theorem vx_callS (X : Stand p l e R s m args below meth c T locs cells slots) (hexec : p.tables.exec = Jvm.exec) {own : String} {index : Nat} {y : MethodName} {bytes : ByteArray} {maxL : Nat} {ret : Option FieldType}
    (hown : s.vm.findClass own = some m.cls) (hlink : (Cond.methodLink own index y).before args s = true) (hstat : (Cond.static y).before args s = true) (hinit : (Cond.initialized y.cls).before args s = true)
    (hcode : (Cond.code y bytes maxL ret).before args s = true) (hy : y.cls ≠ "java/lang/invoke/MethodHandle" ∧ y.cls ≠ "java/lang/invoke/VarHandle")
    {W9 : Nat} {Pre : Pt → Array Value → Prop} {Post : Pt → Array Value → Option Value → Pt → Prop} {PostX : Pt → Array Value → Addr → Pt → Prop} (hK : vx_Back l R p e below s args y 3 W9 Pre Post PostX)
    {g : JFrame} (hg : g.method = m) (hsize : g.locals.size = c.maxLocals) {argsL rest : List Value} (hlen : ∀ sig, parseMethodDescriptor y.desc = some sig → argsL.length = sig.parameters.length)
    (hstack : g.stack = argsL.reverse ++ rest) (hW : 2 * g.monitorRoom + (rest.map fun v => v.category).sum ≤ W9) (hdg : decode c.code g.pc = .ok (.invokestatic index, 3))
    (hpre : ∀ vm₁, s.WarmedH vm₁ → Pre ⟨T.setVm vm₁, locs, cells, slots⟩ argsL.toArray) :
    (∃ (v : Option Value) (vm₁ : Vm) (B : Pt), s.WarmedH vm₁ ∧ Stand p l e R s m args below meth c B.U B.locs B.cells B.slots ∧ Post ⟨T.setVm vm₁, locs, cells, slots⟩ argsL.toArray v B ∧
      ∀ target, Steps p.tables e below (B.U.setTop { g with pc := g.pc + 3, stack := v.toList ++ rest }) target → Steps p.tables e below (T.setTop g) target) ∨
    (∃ (q : Addr) (vm₁ : Vm) (B : Pt), s.WarmedH vm₁ ∧ Stand p l e R s m args below meth c B.U B.locs B.cells B.slots ∧ PostX ⟨T.setVm vm₁, locs, cells, slots⟩ argsL.toArray q B ∧
      Steps p.tables e below (T.setTop g) ((B.U.setTop { g with stack := rest }).pushFrame (.throwing q))) := by
  obtain ⟨mk, hnamed⟩ := Cond.code_named hcode
  obtain ⟨methM, cM, hmethM, -, -, -, -, -, -, hsigM⟩ := Cond.code_spec hnamed hcode
  have hstatic : methM.isStatic = true := Cond.static_spec hnamed hmethM hstat
  obtain ⟨kP, hkP, -⟩ := className_of_methodNamed hnamed
  have hinitP : kP.init = .initialized := Cond.initialized_spec (findClass_of_methodNamed hnamed) hkP hinit
  obtain ⟨vm₁, X₁, hstep₁⟩ := X.invokestatic hexec hown hlink hnamed hmethM hstatic hkP hinitP hy (g := g) hg (argsL := argsL) (rest := rest) (hlen _ hsigM) hstack hdg
  rcases hK m meth c ⟨T.setVm vm₁, locs, cells, slots⟩ { g with stack := rest } (.invokestatic index) mk argsL.toArray X₁ hg hsize hdg hW (X₁.named hnamed) (hpre vm₁ X₁.warmed) with ⟨v, B, X', hpost, hsteps⟩ | ⟨q, B, X', hpost, hsteps⟩
  · exact Or.inl ⟨v, vm₁, B, X₁.warmed, X', hpost, fun target h => hstep₁ _ fun acts => by rw [doInvoke_state]; exact hsteps.trans h⟩
  · exact Or.inr ⟨q, vm₁, B, X₁.warmed, X', hpost, hstep₁ _ fun acts => by rw [doInvoke_state]; exact hsteps⟩
end Calls
theorem vx_cls {s : State} {T : State} {vm₁ : Vm} {E : String} {k : ClassId} (hW : s.WarmedH vm₁) (h : (T.setVm vm₁).vm.findClass E = some k) : s.vm.findClass E = some k := by
  have h1 : vm₁.findClass E = some k := h
  rw [hW.alike.findClass] at h1
  exact h1
/-- the method's frame g, with q thrown over it -/
def vx_W (p : Program) (l : Launch) (e : Env) (R : Room) (s : State) (m : MethodId) (args : Array Value) (below : List Frame) (meth : Method) (c : Code) (H : Heap) (locs : List Loc) (cells slots : Nat) (Q : State → Prop) (g : JFrame) (q : Addr) : Prop :=
  ∀ T : State, T.heap = H → Stand p l e R s m args below meth c T locs cells slots → ∃ t, Steps p.tables e below ((T.setTop g).pushFrame (.throwing q)) t ∧ Q t
def vx_Run (p : Program) (l : Launch) (e : Env) (R : Room) (s : State) (m : MethodId) (args : Array Value) (below : List Frame) (meth : Method) (c : Code) (H : Heap) (locs : List Loc) (cells slots mc ms : Nat) (g : JFrame) (rest : List Value) (Qa : State → Outcome → State → Prop) (XC : String → State → State → Prop) (free : Addr → Prop) : Prop :=
  ∀ T : State, T.heap = H → Stand p l e R s m args below meth c T locs cells slots →
    (∃ (v : Option Value) (st₀ t T' : State) (L : List Loc), st₀.heap = H ∧ Stand p l e R s m args below meth c T' (locs ++ L) (cells + mc) (slots + ms) ∧ (∀ q ∈ L, free q.base) ∧ T'.heap = t.heap ∧ T'.vm = t.vm ∧ Qa st₀ (.returned v) t ∧
      Goes p e below T g T' { g with pc := g.pc + 3, stack := v.toList ++ rest }) ∨
    (∃ (q : Addr) (st₀ t T' : State) (L : List Loc) (E : String) (ce : Cell), st₀.heap = H ∧ Stand p l e R s m args below meth c T' (locs ++ L) (cells + mc) (slots + ms) ∧ (∀ z ∈ L, free z.base) ∧ T'.heap = t.heap ∧ T'.vm = t.vm ∧ XC E st₀ t ∧ t.heap[q]? = some ce ∧ ce.vm = .none ∧ s.vm.findClass E = some ce.cls ∧
      Steps p.tables e below (T.setTop g) ((T'.setTop { g with stack := rest }).pushFrame (.throwing q)))
def vx_X {S : Type} (px : S → Prop) (B : String → S → State → Prop) (A : Nat → Prop) : String → State → State → Prop := fun E st t => ∃ u : S, px u ∧ B E u t ∧ va_F A st t
section Runs
variable {p : Program} {l : Launch} {e : Env} {R : Room} {s : State} {m : MethodId} {args : Array Value} {below : List Frame} {meth : Method} {c : Code} {H : Heap} {locs : List Loc} {cells slots : Nat}
variable {y : MethodName} {bytes cc : ByteArray} {maxL nL mc ms n index : Nat} {ret : Option FieldType} {ws : List Cond} {rm : Room} {Pc : Array Value → State → Prop} {Qc : Array Value → State → Outcome → State → Prop} {XC : String → State → State → Prop} {free : Addr → Prop} {Ts : List Cond} {own C : String} {b : Addr} {As rest : List Value} {g : JFrame}
theorem vx_callBack (cb : CallB R s args own index y bytes maxL ret ws rm mc ms n) (hM : vx_Met l y ws rm Pc Qc XC mc ms free) (hbl : FrameBlind Pc) : vx_Back l R p e below s args y 3 8 (PreOf R mc ms Pc) (PostOf Qc mc ms free) (vx_Post XC mc ms free) := by
  obtain ⟨hrc, hrs, hfr, hlo, hws, hcw, -, hini, -⟩ := cb
  exact vx_back (bytes := bytes) (maxL := maxL) (ret := ret) hM hbl hrc hrs hfr hlo hws hcw (fun a' U hW => word_at hW (Or.inl (by first | rfl | simp [Cond.onTables, Cond.keeps, Cond.steady])) hini)
theorem vx_runV (S : CallFix p m c cc nL s args Ts own) (hM : vx_Met l y ws rm Pc Qc XC mc ms free) (cw : CallW R s args own C index y bytes maxL ret ws rm mc ms n) (hp : PreV s H C b Pc As)
    (hg : g.method = m) (hn : As.length = n) (hsize : g.locals.size = nL) (hstack : g.stack = As.reverse ++ .ref b :: rest) (hW : 2 * g.monitorRoom + (rest.map fun v => v.category).sum ≤ 8) (hdg : decode cc g.pc = .ok (.invokevirtual index, 3)) (hf : cells + mc ≤ R.cells ∧ slots + ms ≤ R.slots) :
    vx_Run p l e R s m args below meth c H locs cells slots mc ms g rest (Qc (Value.ref b :: As).toArray) XC free := by
  have hK : vx_Back l R p e below s args y 3 8 (PreOf R mc ms Pc) (PostOf Qc mc ms free) (vx_Post XC mc ms free) := vx_callBack cw.1 hM hp.1
  obtain ⟨⟨-, -, -, -, -, -, hcode, -, hy, hlen, hl⟩, hin, hse⟩ := cw
  obtain ⟨hx, hb, hml, ho, -⟩ := S
  obtain ⟨-, ⟨cellB, hcB, hoB, hclB⟩, hPc⟩ := hp
  intro T hT X
  rcases vx_callV X hx (C := C) (bytes := bytes) (maxL := maxL) (ret := ret) ho hl hin hse hcode hy hK (by rw [hT]; exact hcB) hoB hclB hg (hsize.trans hml.symm) (argsL := As) (rest := rest) (fun sig h => hn.trans (hlen sig h)) hstack hW (by rw [hb]; exact hdg)
    (fun vm₁ hW₁ => ⟨hf.1, hf.2, hPc (T.setVm vm₁) hT hW₁⟩) with ⟨v, vm₁, ⟨U', l2, c2, s2⟩, hW₁, X', ⟨g', mk, t, L, e1, e2, hq, h1, hL, h2, h3⟩, st⟩ | ⟨q, vm₁, ⟨U', l2, c2, s2⟩, hW₁, X', ⟨g', mk, t, L, E, ce, e1, e2, hq, hce, hcv, hcl, h1, hL, h2, h3⟩, st⟩
  · dsimp only [Pt.U, Pt.locs, Pt.cells, Pt.slots] at X' e1 e2 h1 h2 h3 st
    subst h1; subst h2; subst h3
    exact Or.inl ⟨v, (T.setVm vm₁).calling g' mk (Value.ref b :: As).toArray, t, U', L, hT, X', hL, e1, e2, hq, st⟩
  · dsimp only [Pt.U, Pt.locs, Pt.cells, Pt.slots] at X' e1 e2 h1 h2 h3 st hcl
    subst h1; subst h2; subst h3
    exact Or.inr ⟨q, (T.setVm vm₁).calling g' mk (Value.ref b :: As).toArray, t, U', L, E, ce, hT, X', hL, e1, e2, hq, hce, hcv, vx_cls hW₁ hcl, st⟩
theorem vx_runS (S : CallFix p m c cc nL s args Ts own) (hM : vx_Met l y ws rm Pc Qc XC mc ms free) (cw : CallB R s args own index y bytes maxL ret ws rm mc ms n ∧ (Cond.static y).before args s = true) (hp : PreS s H Pc As)
    (hg : g.method = m) (hn : As.length = n) (hsize : g.locals.size = nL) (hstack : g.stack = As.reverse ++ rest) (hW : 2 * g.monitorRoom + (rest.map fun v => v.category).sum ≤ 8) (hdg : decode cc g.pc = .ok (.invokestatic index, 3)) (hf : cells + mc ≤ R.cells ∧ slots + ms ≤ R.slots) :
    vx_Run p l e R s m args below meth c H locs cells slots mc ms g rest (Qc As.toArray) XC free := by
  have hK : vx_Back l R p e below s args y 3 8 (PreOf R mc ms Pc) (PostOf Qc mc ms free) (vx_Post XC mc ms free) := vx_callBack cw.1 hM hp.1
  obtain ⟨⟨-, -, -, -, -, -, hcode, hini, hy, hlen, hl⟩, hstt⟩ := cw
  obtain ⟨hx, hb, hml, ho, -⟩ := S
  intro T hT X
  rcases vx_callS X hx (bytes := bytes) (maxL := maxL) (ret := ret) ho hl hstt hini hcode hy hK hg (hsize.trans hml.symm) (argsL := As) (rest := rest) (fun sig h => hn.trans (hlen sig h)) hstack hW (by rw [hb]; exact hdg)
    (fun vm₁ hW₁ => ⟨hf.1, hf.2, hp.2 (T.setVm vm₁) hT hW₁⟩) with ⟨v, vm₁, ⟨U', l2, c2, s2⟩, hW₁, X', ⟨g', mk, t, L, e1, e2, hq, h1, hL, h2, h3⟩, st⟩ | ⟨q, vm₁, ⟨U', l2, c2, s2⟩, hW₁, X', ⟨g', mk, t, L, E, ce, e1, e2, hq, hce, hcv, hcl, h1, hL, h2, h3⟩, st⟩
  · dsimp only [Pt.U, Pt.locs, Pt.cells, Pt.slots] at X' e1 e2 h1 h2 h3 st
    subst h1; subst h2; subst h3
    exact Or.inl ⟨v, (T.setVm vm₁).calling g' mk As.toArray, t, U', L, hT, X', hL, e1, e2, hq, st⟩
  · dsimp only [Pt.U, Pt.locs, Pt.cells, Pt.slots] at X' e1 e2 h1 h2 h3 st hcl
    subst h1; subst h2; subst h3
    exact Or.inr ⟨q, (T.setVm vm₁).calling g' mk As.toArray, t, U', L, E, ce, hT, X', hL, e1, e2, hq, hce, hcv, vx_cls hW₁ hcl, st⟩
end Runs
section Rows
variable {p : Program} {l : Launch} {e : Env} {R : Room} {s : State} {m : MethodId} {args : Array Value} {below : List Frame} {meth : Method} {c : Code} {H : Heap} {locs : List Loc} {cells slots : Nat} {Q : State → Prop}
variable {mc ms : Nat} {free : Addr → Prop} {A0 A1 : Nat → Prop} {H0 : Heap} {a : Array Value} {pc : Nat} {ls : Array Slot} {st0 rest : List Value}
theorem vx_keep {st₀ t T' : State} {L : List Loc} (h0 : st₀.heap = H) (e1 : T'.heap = t.heap) (hS : va_S A0 H0 H locs) (hA : ∀ q, q < H.size → A1 q → A0 q) (hf : ∀ q, free q → A0 q) (hL : ∀ q ∈ L, free q.base) (hF : va_F A1 st₀ t) :
    H.size ≤ T'.heap.size ∧ (∀ q : Nat, q < H.size → ¬ A1 q → T'.heap[q]? = H[q]?) ∧ va_S A0 H0 T'.heap (locs ++ L) := by
  obtain ⟨hz, hk⟩ := hF
  rw [h0] at hz hk
  exact ⟨by rw [e1]; exact hz, fun q h1 h2 => by rw [e1]; exact hk q h1 h2,
    ⟨Nat.le_trans hS.1 (by rw [e1]; exact hz), fun q h1 h2 => by rw [e1, hk q (Nat.lt_of_lt_of_le h1 hS.1) (fun z => h2 (hA q (Nat.lt_of_lt_of_le h1 hS.1) z))]; exact hS.2.1 q h1 h2, fun q hq => by
      rcases List.mem_append.mp hq with h | h
      · exact hS.2.2 q h
      · exact hf _ (hL q h)⟩⟩
theorem vx_calli {S SX : Type} {post : Int32 → S → Prop} {px : SX → Prop} {B : S → State → Prop} {BX : String → SX → State → Prop} {AX : Nat → Prop} (hr : vx_Run p l e R s m args below meth c H locs cells slots mc ms (F0 m pc ls st0) rest (va_Qi post B A1 a) (vx_X px BX AX) free) (hS : va_S A0 H0 H locs) (hA : ∀ q, q < H.size → A1 q → A0 q) (hf : ∀ q, free q → A0 q) (hAX : ∀ q, q < H.size → AX q → A0 q)
    (kx : ∀ (E : String) (ce : Cell) (q9 : Addr) (u : SX) (t : State) (H1 : Heap) (locs1 : List Loc), t.heap = H1 → s.vm.Alike t.vm → px u → BX E u t → H.size ≤ H1.size → (∀ q : Nat, q < H.size → ¬ AX q → H1[q]? = H[q]?) → va_S A0 H0 H1 locs1 → H1[q9]? = some ce → ce.vm = .none → s.vm.findClass E = some ce.cls → vx_W p l e R s m args below meth c H1 locs1 (cells + mc) (slots + ms) Q (F0 m pc ls rest) q9)
    (kk : ∀ (r : Int32) (u : S) (t : State) (H1 : Heap) (locs1 : List Loc), t.heap = H1 → s.vm.Alike t.vm → post r u → B u t → H.size ≤ H1.size → (∀ q : Nat, q < H.size → ¬ A1 q → H1[q]? = H[q]?) → va_S A0 H0 H1 locs1 → W p l e R s m args below meth c H1 locs1 (cells + mc) (slots + ms) Q (F0 m (pc + 3) ls (.int r :: rest))) : W p l e R s m args below meth c H locs cells slots Q (F0 m pc ls st0) := by
  intro T hT X
  rcases hr T hT X with ⟨v, st₀, t, T', L, h0, X', hL, e1, e2, ⟨⟨r, u, hv, hp, hb⟩, hF⟩, st⟩ | ⟨q, st₀, t, T', L, E, ce, h0, X', hL, e1, e2, ⟨u, hp, hb, hF⟩, hce, hcv, hcl, st⟩
  · cases hv
    obtain ⟨k1, k2, k3⟩ := vx_keep h0 e1 hS hA hf hL hF
    obtain ⟨t2, a1, b1⟩ := kk r u t T'.heap (locs ++ L) e1.symm (by rw [← e2]; exact X'.warmed.alike) hp hb k1 k2 k3 T' rfl X'
    exact ⟨t2, st t2 a1, b1⟩
  · obtain ⟨k1, k2, k3⟩ := vx_keep h0 e1 hS hAX hf hL hF
    obtain ⟨t2, a1, b1⟩ := kx E ce q u t T'.heap (locs ++ L) e1.symm (by rw [← e2]; exact X'.warmed.alike) hp hb k1 k2 k3 (by rw [e1]; exact hce) hcv hcl T' rfl X'
    exact ⟨t2, st.trans a1, b1⟩
theorem vx_calll {S SX : Type} {post : Int64 → S → Prop} {px : SX → Prop} {B : S → State → Prop} {BX : String → SX → State → Prop} {AX : Nat → Prop} (hr : vx_Run p l e R s m args below meth c H locs cells slots mc ms (F0 m pc ls st0) rest (va_Ql post B A1 a) (vx_X px BX AX) free) (hS : va_S A0 H0 H locs) (hA : ∀ q, q < H.size → A1 q → A0 q) (hf : ∀ q, free q → A0 q) (hAX : ∀ q, q < H.size → AX q → A0 q)
    (kx : ∀ (E : String) (ce : Cell) (q9 : Addr) (u : SX) (t : State) (H1 : Heap) (locs1 : List Loc), t.heap = H1 → s.vm.Alike t.vm → px u → BX E u t → H.size ≤ H1.size → (∀ q : Nat, q < H.size → ¬ AX q → H1[q]? = H[q]?) → va_S A0 H0 H1 locs1 → H1[q9]? = some ce → ce.vm = .none → s.vm.findClass E = some ce.cls → vx_W p l e R s m args below meth c H1 locs1 (cells + mc) (slots + ms) Q (F0 m pc ls rest) q9)
    (kk : ∀ (r : Int64) (u : S) (t : State) (H1 : Heap) (locs1 : List Loc), t.heap = H1 → s.vm.Alike t.vm → post r u → B u t → H.size ≤ H1.size → (∀ q : Nat, q < H.size → ¬ A1 q → H1[q]? = H[q]?) → va_S A0 H0 H1 locs1 → W p l e R s m args below meth c H1 locs1 (cells + mc) (slots + ms) Q (F0 m (pc + 3) ls (.long r :: rest))) : W p l e R s m args below meth c H locs cells slots Q (F0 m pc ls st0) := by
  intro T hT X
  rcases hr T hT X with ⟨v, st₀, t, T', L, h0, X', hL, e1, e2, ⟨⟨r, u, hv, hp, hb⟩, hF⟩, st⟩ | ⟨q, st₀, t, T', L, E, ce, h0, X', hL, e1, e2, ⟨u, hp, hb, hF⟩, hce, hcv, hcl, st⟩
  · cases hv
    obtain ⟨k1, k2, k3⟩ := vx_keep h0 e1 hS hA hf hL hF
    obtain ⟨t2, a1, b1⟩ := kk r u t T'.heap (locs ++ L) e1.symm (by rw [← e2]; exact X'.warmed.alike) hp hb k1 k2 k3 T' rfl X'
    exact ⟨t2, st t2 a1, b1⟩
  · obtain ⟨k1, k2, k3⟩ := vx_keep h0 e1 hS hAX hf hL hF
    obtain ⟨t2, a1, b1⟩ := kx E ce q u t T'.heap (locs ++ L) e1.symm (by rw [← e2]; exact X'.warmed.alike) hp hb k1 k2 k3 (by rw [e1]; exact hce) hcv hcl T' rfl X'
    exact ⟨t2, st.trans a1, b1⟩
theorem vx_callf {S SX : Type} {post : UInt32 → S → Prop} {px : SX → Prop} {B : S → State → Prop} {BX : String → SX → State → Prop} {AX : Nat → Prop} (hr : vx_Run p l e R s m args below meth c H locs cells slots mc ms (F0 m pc ls st0) rest (va_Qf post B A1 a) (vx_X px BX AX) free) (hS : va_S A0 H0 H locs) (hA : ∀ q, q < H.size → A1 q → A0 q) (hf : ∀ q, free q → A0 q) (hAX : ∀ q, q < H.size → AX q → A0 q)
    (kx : ∀ (E : String) (ce : Cell) (q9 : Addr) (u : SX) (t : State) (H1 : Heap) (locs1 : List Loc), t.heap = H1 → s.vm.Alike t.vm → px u → BX E u t → H.size ≤ H1.size → (∀ q : Nat, q < H.size → ¬ AX q → H1[q]? = H[q]?) → va_S A0 H0 H1 locs1 → H1[q9]? = some ce → ce.vm = .none → s.vm.findClass E = some ce.cls → vx_W p l e R s m args below meth c H1 locs1 (cells + mc) (slots + ms) Q (F0 m pc ls rest) q9)
    (kk : ∀ (r : UInt32) (u : S) (t : State) (H1 : Heap) (locs1 : List Loc), t.heap = H1 → s.vm.Alike t.vm → post r u → B u t → H.size ≤ H1.size → (∀ q : Nat, q < H.size → ¬ A1 q → H1[q]? = H[q]?) → va_S A0 H0 H1 locs1 → W p l e R s m args below meth c H1 locs1 (cells + mc) (slots + ms) Q (F0 m (pc + 3) ls (.float r :: rest))) : W p l e R s m args below meth c H locs cells slots Q (F0 m pc ls st0) := by
  intro T hT X
  rcases hr T hT X with ⟨v, st₀, t, T', L, h0, X', hL, e1, e2, ⟨⟨r, u, hv, hp, hb⟩, hF⟩, st⟩ | ⟨q, st₀, t, T', L, E, ce, h0, X', hL, e1, e2, ⟨u, hp, hb, hF⟩, hce, hcv, hcl, st⟩
  · cases hv
    obtain ⟨k1, k2, k3⟩ := vx_keep h0 e1 hS hA hf hL hF
    obtain ⟨t2, a1, b1⟩ := kk r u t T'.heap (locs ++ L) e1.symm (by rw [← e2]; exact X'.warmed.alike) hp hb k1 k2 k3 T' rfl X'
    exact ⟨t2, st t2 a1, b1⟩
  · obtain ⟨k1, k2, k3⟩ := vx_keep h0 e1 hS hAX hf hL hF
    obtain ⟨t2, a1, b1⟩ := kx E ce q u t T'.heap (locs ++ L) e1.symm (by rw [← e2]; exact X'.warmed.alike) hp hb k1 k2 k3 (by rw [e1]; exact hce) hcv hcl T' rfl X'
    exact ⟨t2, st.trans a1, b1⟩
theorem vx_calld {S SX : Type} {post : UInt64 → S → Prop} {px : SX → Prop} {B : S → State → Prop} {BX : String → SX → State → Prop} {AX : Nat → Prop} (hr : vx_Run p l e R s m args below meth c H locs cells slots mc ms (F0 m pc ls st0) rest (va_Qd post B A1 a) (vx_X px BX AX) free) (hS : va_S A0 H0 H locs) (hA : ∀ q, q < H.size → A1 q → A0 q) (hf : ∀ q, free q → A0 q) (hAX : ∀ q, q < H.size → AX q → A0 q)
    (kx : ∀ (E : String) (ce : Cell) (q9 : Addr) (u : SX) (t : State) (H1 : Heap) (locs1 : List Loc), t.heap = H1 → s.vm.Alike t.vm → px u → BX E u t → H.size ≤ H1.size → (∀ q : Nat, q < H.size → ¬ AX q → H1[q]? = H[q]?) → va_S A0 H0 H1 locs1 → H1[q9]? = some ce → ce.vm = .none → s.vm.findClass E = some ce.cls → vx_W p l e R s m args below meth c H1 locs1 (cells + mc) (slots + ms) Q (F0 m pc ls rest) q9)
    (kk : ∀ (r : UInt64) (u : S) (t : State) (H1 : Heap) (locs1 : List Loc), t.heap = H1 → s.vm.Alike t.vm → post r u → B u t → H.size ≤ H1.size → (∀ q : Nat, q < H.size → ¬ A1 q → H1[q]? = H[q]?) → va_S A0 H0 H1 locs1 → W p l e R s m args below meth c H1 locs1 (cells + mc) (slots + ms) Q (F0 m (pc + 3) ls (.double r :: rest))) : W p l e R s m args below meth c H locs cells slots Q (F0 m pc ls st0) := by
  intro T hT X
  rcases hr T hT X with ⟨v, st₀, t, T', L, h0, X', hL, e1, e2, ⟨⟨r, u, hv, hp, hb⟩, hF⟩, st⟩ | ⟨q, st₀, t, T', L, E, ce, h0, X', hL, e1, e2, ⟨u, hp, hb, hF⟩, hce, hcv, hcl, st⟩
  · cases hv
    obtain ⟨k1, k2, k3⟩ := vx_keep h0 e1 hS hA hf hL hF
    obtain ⟨t2, a1, b1⟩ := kk r u t T'.heap (locs ++ L) e1.symm (by rw [← e2]; exact X'.warmed.alike) hp hb k1 k2 k3 T' rfl X'
    exact ⟨t2, st t2 a1, b1⟩
  · obtain ⟨k1, k2, k3⟩ := vx_keep h0 e1 hS hAX hf hL hF
    obtain ⟨t2, a1, b1⟩ := kx E ce q u t T'.heap (locs ++ L) e1.symm (by rw [← e2]; exact X'.warmed.alike) hp hb k1 k2 k3 (by rw [e1]; exact hce) hcv hcl T' rfl X'
    exact ⟨t2, st.trans a1, b1⟩
theorem vx_callv {S SX : Type} {post : S → Prop} {px : SX → Prop} {B : S → State → Prop} {BX : String → SX → State → Prop} {AX : Nat → Prop} (hr : vx_Run p l e R s m args below meth c H locs cells slots mc ms (F0 m pc ls st0) rest (va_Qv post B A1 a) (vx_X px BX AX) free) (hS : va_S A0 H0 H locs) (hA : ∀ q, q < H.size → A1 q → A0 q) (hf : ∀ q, free q → A0 q) (hAX : ∀ q, q < H.size → AX q → A0 q)
    (kx : ∀ (E : String) (ce : Cell) (q9 : Addr) (u : SX) (t : State) (H1 : Heap) (locs1 : List Loc), t.heap = H1 → s.vm.Alike t.vm → px u → BX E u t → H.size ≤ H1.size → (∀ q : Nat, q < H.size → ¬ AX q → H1[q]? = H[q]?) → va_S A0 H0 H1 locs1 → H1[q9]? = some ce → ce.vm = .none → s.vm.findClass E = some ce.cls → vx_W p l e R s m args below meth c H1 locs1 (cells + mc) (slots + ms) Q (F0 m pc ls rest) q9)
    (kk : ∀ (u : S) (t : State) (H1 : Heap) (locs1 : List Loc), t.heap = H1 → s.vm.Alike t.vm → post u → B u t → H.size ≤ H1.size → (∀ q : Nat, q < H.size → ¬ A1 q → H1[q]? = H[q]?) → va_S A0 H0 H1 locs1 → W p l e R s m args below meth c H1 locs1 (cells + mc) (slots + ms) Q (F0 m (pc + 3) ls (rest))) : W p l e R s m args below meth c H locs cells slots Q (F0 m pc ls st0) := by
  intro T hT X
  rcases hr T hT X with ⟨v, st₀, t, T', L, h0, X', hL, e1, e2, ⟨⟨u, hv, hp, hb⟩, hF⟩, st⟩ | ⟨q, st₀, t, T', L, E, ce, h0, X', hL, e1, e2, ⟨u, hp, hb, hF⟩, hce, hcv, hcl, st⟩
  · cases hv
    obtain ⟨k1, k2, k3⟩ := vx_keep h0 e1 hS hA hf hL hF
    obtain ⟨t2, a1, b1⟩ := kk u t T'.heap (locs ++ L) e1.symm (by rw [← e2]; exact X'.warmed.alike) hp hb k1 k2 k3 T' rfl X'
    exact ⟨t2, st t2 a1, b1⟩
  · obtain ⟨k1, k2, k3⟩ := vx_keep h0 e1 hS hAX hf hL hF
    obtain ⟨t2, a1, b1⟩ := kx E ce q u t T'.heap (locs ++ L) e1.symm (by rw [← e2]; exact X'.warmed.alike) hp hb k1 k2 k3 (by rw [e1]; exact hce) hcv hcl T' rfl X'
    exact ⟨t2, st.trans a1, b1⟩
/-- caught by the row x of this method's table; the rows ahead don't take it -/
theorem vx_catch {own name : String} {E : String} {ce : Cell} {q : Addr} (hown : s.vm.findClass own = some m.cls) (pre : List ExceptionTableEntry) (x : ExceptionTableEntry) (suf : List ExceptionTableEntry) (hsplit : c.exceptionTable.toList = pre ++ x :: suf)
    (hpass : ∀ z ∈ pre, covers z pc = false ∨ (z.catchType ≠ 0 ∧ ∃ nm : String, (Cond.classLink own z.catchType nm).before args s = true ∧ va_Nc E nm s)) (hx : covers x pc = true) (h0 : x.catchType ≠ 0)
    (hlink : (Cond.classLink own x.catchType name).before args s = true) (hcast : (Cond.castable E name).before args s = true) (hcell : H[q]? = some ce) (hv : ce.vm = .none) (hcl : s.vm.findClass E = some ce.cls)
    (kk : W p l e R s m args below meth c H locs cells slots Q (F0 m x.handlerPc ls [.ref q])) : vx_W p l e R s m args below meth c H locs cells slots Q (F0 m pc ls rest) q := by
  intro T hT X
  have hpl : e.platform.magicAccessors = ({} : Platform).magicAccessors := by rw [X.admits.platform]
  obtain ⟨c3, c4, hc3, hc4, hasg⟩ := Cond.castable_spec hcast
  cases Option.some.inj (hc3.symm.trans hcl)
  obtain ⟨c5, hc5, hcl5⟩ := Cond.classLink_spec hown hlink e.platform hpl
  cases Option.some.inj (hc4.symm.trans hc5)
  obtain ⟨vm', X', st⟩ := X.thenCaughtThrough q (g := F0 m pc ls rest) rfl (Steps.refl _) (by rw [hT]; exact hcell) (by rw [hv]; rfl) (by obtain ⟨k9, h9, -⟩ := Vm.findClass_spec hcl; exact ⟨k9, h9⟩) pre x suf hsplit
    (fun z hz => by
      rcases hpass z hz with h | ⟨hz0, nm, hl1, hn1⟩
      · exact Or.inl h
      · obtain ⟨c6, hc6, hcl6⟩ := Cond.classLink_spec hown hl1 e.platform hpl
        obtain ⟨a8, b8, h1, h2, h3⟩ := hn1
        cases Option.some.inj (h1.symm.trans hcl)
        cases Option.some.inj (h2.symm.trans hc6)
        exact Or.inr ⟨hz0, _, hcl6, h3⟩) hx (Or.inr ⟨h0, c4, hcl5, hasg⟩)
  obtain ⟨t, a1, b1⟩ := kk (T.setVm vm') hT X'
  exact ⟨t, st.trans a1, b1⟩
end Rows
section Ends
variable {p : Program} {l : Launch} {e : Env} {R : Room} {s : State} {m : MethodId} {args : Array Value} {below : List Frame} {meth : Method} {c : Code} {H : Heap} {locs : List Loc} {cells slots : Nat} {Q : State → Prop}
variable {mc ms : Nat} {free : Addr → Prop} {A0 A1 : Nat → Prop} {H0 : Heap} {a : Array Value} {ls : Array Slot} {st0 rest : List Value}
variable {Qc : Array Value → State → Outcome → State → Prop} {XC : String → State → State → Prop}
/-- what a body that may throw owes at its end -/
def vx_MQ (below : List Frame) (Qc : Array Value → State → Outcome → State → Prop) (XC : String → State → State → Prop) (a : Array Value) (s : State) (mc ms : Nat) (free : Addr → Prop) : State → Prop := fun t =>
  ∃ o, t.status = .running ∧ Ended t below o ∧ vx_Q Qc XC mc ms free a s o t
theorem vx_ret {g : JFrame} {mc ms : Nat} (k : W p l e R s m args below meth c H locs cells slots (MQ below Qc args s mc ms free) g) : W p l e R s m args below meth c H locs cells slots (vx_MQ below Qc XC args s mc ms free) g := by
  intro T hT X
  obtain ⟨t, a1, o, b1, b2, b3, b4⟩ := k T hT X
  exact ⟨t, a1, o, b1, b2, Or.inl ⟨b3, b4⟩⟩
/-- not caught here: it goes on to the caller -/
theorem vx_widen {g : JFrame} {q : Addr} {k n : Nat} (h1 : cells ≤ k) (h2 : slots ≤ n) (kk : vx_W p l e R s m args below meth c H locs k n Q g q) : vx_W p l e R s m args below meth c H locs cells slots Q g q := fun T hT X => kk T hT (stand_widen X h1 h2)
theorem vx_out {pc : Nat} {E : String} {ce : Cell} {q : Addr} {mc ms : Nat} (hout : ∀ x ∈ c.exceptionTable.toList, covers x pc = false) (hlocks : meth.locks = false) (hcell : H[q]? = some ce) (hv : ce.vm = .none) (hcl : s.vm.findClass E = some ce.cls)
    (hx : ∀ t : State, t.heap = H → s.vm.Alike t.vm → XC E s t) (hf : ∀ z ∈ locs, free z.base) (hc : cells ≤ mc) (hs : slots ≤ ms) :
    vx_W p l e R s m args below meth c H locs cells slots (vx_MQ below Qc XC args s mc ms free) (F0 m pc ls rest) q := by
  intro T hT X
  obtain ⟨st1, hrun, hend, hW, hsm⟩ := X.leaveThrown q (g := F0 m pc ls rest) rfl rfl rfl hout hlocks
  have hcell9 : (T.setFrames (.throwing q :: below)).heap[q]? = some ce := by
    show T.heap[q]? = some ce
    rw [hT]; exact hcell
  exact ⟨_, st1, .threw q, hrun, hend, Or.inr ⟨q, rfl, E, ce, locs, hx _ hT hW.alike, hcell9, hv, hcl, hW, hsm.mono hc hs, hf⟩⟩
theorem vx_frame {U : State} {k n : Nat} (h : s.sameButNew ({ U with vm := s.vm } : State) locs k n) : s.heap.size ≤ U.heap.size ∧ ∀ q : Nat, q < s.heap.size → (∀ z ∈ locs, z.base ≠ q) → U.heap[q]? = s.heap[q]? := by
  obtain ⟨-, h2, -, -, -, h6⟩ := h
  refine ⟨h2, fun q hq hz => ?_⟩
  obtain ⟨c9, e1, e2, e3, e4⟩ := h6 q _ (Array.getElem?_eq_getElem hq)
  have hs : c9.slots = (s.heap[q]).slots := Array.ext_getElem? fun i => e4 i fun hm => hz _ hm rfl
  have h9 : c9 = s.heap[q] := by
    rw [hs] at e2
    exact e2
  have e5 : U.heap[q]? = some c9 := e1
  rw [e5, h9, Array.getElem?_eq_getElem hq]
/-- the words of a throw but the four that speak of the heap -/
def vx_no (w : Cond) : Bool := decide (w ≠ .isRef (.static Bundle.tN "UNASSIGNED_STACK" Bundle.steD)) && decide (w ≠ .isRef (.static Bundle.tN "SUPPRESSED_SENTINEL" Bundle.listD)) && decide (w ≠ .laysStatic Bundle.tN "UNASSIGNED_STACK" Bundle.steD) && decide (w ≠ .laysStatic Bundle.tN "SUPPRESSED_SENTINEL" Bundle.listD)
def vx_at0 (own : String) (ic : Nat) (X : String) (names : List String) : List Cond := (Bundle.ownAtoms0 own ic X names).filter vx_no
def vx_atS (own : String) (ic : Nat) (X : String) (names : List String) : List Cond := (Bundle.ownAtoms own ic X names).filter vx_no
/-- a word that the tables alone decide, or a good one -/
def vx_ot (w : Cond) : Bool := w.onTables || goodWord w
theorem vx_ot_at {args a' : Array Value} {s U : State} {w : Cond} (hW : s.WarmedH U.vm) (hvm : s.vm = U.vm) (hg : vx_ot w = true) (h : w.before args s = true) : w.before a' U = true := by
  simp only [vx_ot, Bool.or_eq_true] at hg
  rcases hg with hg | hg
  · exact va_tabs hg hvm h
  · exact word_at hW (good_of_word hg) h
/-- a list's words: the good ones out of the method's own list, the others by premises of their own -/
theorem vx_hat {args : Array Value} {s : State} {L B : List Cond} (h1 : ∀ w ∈ L.filter goodWord, w.before args s = true) (h2 : ∀ w ∈ L.filter (fun w => !goodWord w), w ∈ B) (h3 : ∀ w ∈ B, w.before args s = true) : ∀ w ∈ L, w.before args s = true := by
  intro w hw
  by_cases g : goodWord w = true
  · exact h1 w (List.mem_filter.mpr ⟨hw, g⟩)
  · refine h3 w (h2 w (List.mem_filter.mpr ⟨hw, ?_⟩))
    show (!goodWord w) = true
    cases hgw : goodWord w
    · rfl
    · exact absurd hgw g
theorem vx_c {args : Array Value} {s : State} {w : Cond} {B : List Cond} (h : w.before args s = true) (t : ∀ w ∈ B, w.before args s = true) : ∀ w' ∈ w :: B, w'.before args s = true := fun w' h' => (List.mem_cons.mp h').elim (fun e => by rw [e]; exact h) (t w')
theorem vx_n {args : Array Value} {s : State} : ∀ w ∈ ([] : List Cond), w.before args s = true := fun _ h => nomatch h
theorem vx_own {args : Array Value} {s : State} {L : List Cond} (h1 : ∀ w ∈ L.filter vx_no, w.before args s = true)
    (hU : (Cond.isRef (.static Bundle.tN "UNASSIGNED_STACK" Bundle.steD)).before args s = true) (hN : (Cond.isRef (.static Bundle.tN "SUPPRESSED_SENTINEL" Bundle.listD)).before args s = true)
    (lU : (Cond.laysStatic Bundle.tN "UNASSIGNED_STACK" Bundle.steD).before args s = true) (lN : (Cond.laysStatic Bundle.tN "SUPPRESSED_SENTINEL" Bundle.listD).before args s = true) : ∀ w ∈ L, w.before args s = true := by
  intro w hw
  by_cases e1 : w = .isRef (.static Bundle.tN "UNASSIGNED_STACK" Bundle.steD)
  · rw [e1]; exact hU
  · by_cases e2 : w = .isRef (.static Bundle.tN "SUPPRESSED_SENTINEL" Bundle.listD)
    · rw [e2]; exact hN
    · by_cases e3 : w = .laysStatic Bundle.tN "UNASSIGNED_STACK" Bundle.steD
      · rw [e3]; exact lU
      · by_cases e4 : w = .laysStatic Bundle.tN "SUPPRESSED_SENTINEL" Bundle.listD
        · rw [e4]; exact lN
        · exact h1 w (List.mem_filter.mpr ⟨hw, by unfold vx_no; rw [decide_eq_true e1, decide_eq_true e2, decide_eq_true e3, decide_eq_true e4]; rfl⟩)
/-- where a static field lies, its class's statics cell in H -/
def vx_L (C n d : String) (A : Nat → Prop) (U : State) (H : Heap) : Prop := ∃ (c : ClassId) (k : Class) (i : Nat) (f : Field) (a : Nat) (cell : Cell), U.vm.findClass C = some c ∧ U.fieldFound? C n d = some (c, k, i, f) ∧ f.isStatic = true ∧ k.statics = some a ∧ H[a]? = some cell ∧ cell.vm.isStatics = true ∧ cell.cls = c ∧ f.slot < cell.slots.size ∧ k.staticTypes[f.slot]? = some f.type ∧ ¬ A a
theorem vx_L.moved {C n d : String} {A : Nat → Prop} {u U : State} {H : Heap} (hvm : u.vm.Alike U.vm) (h : vx_L C n d A u H) : vx_L C n d A U H := by
  obtain ⟨c, k, i, f, a, cell, h1, h2, h3, h4, h5, h6, h7, h8, h9, h10⟩ := h
  obtain ⟨k', hi', he⟩ := State.fieldFound?_setVm hvm h2
  exact ⟨c, k', i, f, a, cell, by rw [hvm.findClass]; exact h1, hi', h3, by rw [he]; exact h4, h5, h6, h7, h8, by rw [he]; exact h9, h10⟩
theorem vx_L.kept {C n d : String} {A : Nat → Prop} {U : State} {H H1 : Heap} (h : vx_L C n d A U H) (hq : ∀ a : Nat, a < H.size → ¬ A a → H1[a]? = H[a]?) : vx_L C n d A U H1 := by
  obtain ⟨c, k, i, f, a, cell, h1, h2, h3, h4, h5, h6, h7, h8, h9, h10⟩ := h
  exact ⟨c, k, i, f, a, cell, h1, h2, h3, h4, by rw [hq a (Array.getElem?_eq_some_iff.mp h5).1 h10]; exact h5, h6, h7, h8, h9, h10⟩
theorem vx_L.narrow {C n d : String} {A B : Nat → Prop} {U : State} {H : Heap} (h : vx_L C n d A U H) (hAB : ∀ q, B q → A q) : vx_L C n d B U H := by
  obtain ⟨c, k, i, f, a, cell, h1, h2, h3, h4, h5, h6, h7, h8, h9, h10⟩ := h
  exact ⟨c, k, i, f, a, cell, h1, h2, h3, h4, h5, h6, h7, h8, h9, fun z => h10 (hAB _ z)⟩
theorem vx_L.word {C n d : String} {A : Nat → Prop} {s : State} {args : Array Value} (h : vx_L C n d A s s.heap) : (Cond.laysStatic C n d).before args s = true := by
  obtain ⟨c, k, i, f, a, cell, h1, h2, h3, h4, h5, h6, h7, h8, h9, -⟩ := h
  show (Cond.laysStatic C n d).holds args s none s [] = true
  exact Cond.laysStatic_of h1 h2 h3 h4 h5 h6 h7 h8 h9
/-- .. and what it holds: null or some reference -/
def vx_Zq (C n d : String) (A : Nat → Prop) (U : State) (H : Heap) : Prop := va_Zq C n d A U H ∧ vx_L C n d A U H
theorem vx_Zq.moved {C n d : String} {A : Nat → Prop} {u U : State} {H : Heap} (hvm : u.vm.Alike U.vm) (h : vx_Zq C n d A u H) : vx_Zq C n d A U H := ⟨va_Zq.moved hvm h.1, vx_L.moved hvm h.2⟩
theorem vx_Zq.kept {C n d : String} {A : Nat → Prop} {U : State} {H H1 : Heap} (h : vx_Zq C n d A U H) (hq : ∀ a : Nat, a < H.size → ¬ A a → H1[a]? = H[a]?) : vx_Zq C n d A U H1 := ⟨va_Zq.kept h.1 hq, vx_L.kept h.2 hq⟩
theorem vx_Zq.narrow {C n d : String} {A B : Nat → Prop} {U : State} {H : Heap} (h : vx_Zq C n d A U H) (hAB : ∀ q, B q → A q) : vx_Zq C n d B U H := ⟨va_Zq.narrow h.1 hAB, vx_L.narrow h.2 hAB⟩
theorem vx_Zqof {args : Array Value} {s : State} {C n d : String} {A : Nat → Prop} (hl : (Cond.laysStatic C n d).before args s = true) (hini : (Cond.initialized C).before args s = true) (h : (Cond.isRef (.static C n d)).before args s = true) (hA : ∀ a : Nat, a < s.heap.size → ¬ A a) : vx_Zq C n d A s s.heap := by
  refine ⟨va_Zqof hl hini h hA, ?_⟩
  obtain ⟨c, k, i, f, a, cell, h1, h2, h3, h4, h5, h6, h7, h8, h9⟩ := Cond.laysStatic_spec hl
  exact ⟨c, k, i, f, a, cell, h1, h2, h3, h4, h5, h6, h7, h8, h9, hA a (Array.getElem?_eq_some_iff.mp h5).1⟩
theorem vx_isRef {C n d : String} {v : Value} {A : Nat → Prop} {s : State} {args : Array Value} (h : va_Z C n d v A s s.heap) (hv : v.isRef = true) : (Cond.isRef (.static C n d)).before args s = true := by
  obtain ⟨cf, kf, fi, f, a, cell, h1, h2, h3, h4, h5, h6, h7, -⟩ := h
  have he : (Term.static C n d).eval args s none [] s = some v := by
    simp [Term.eval, State.fieldNamed?, h1, h2, h4, h5, h6, h7]
  simp only [Cond.before, Cond.holds, Cond.value, he]
  cases v <;> simp_all [Value.isRef]
theorem vx_isRefq {C n d : String} {A : Nat → Prop} {s : State} {args : Array Value} (h : va_Zq C n d A s s.heap) : (Cond.isRef (.static C n d)).before args s = true := by
  rcases h with h | ⟨t, h⟩
  · exact vx_isRef h rfl
  · exact vx_isRef h rfl
/-- the same frame, seen from here: as if the method were called anew in this heap -/
theorem vx_rebase {T : State} (X : Stand p l e R s m args below meth c T locs cells slots) {R' : Room} (hf : R'.frames ≤ R.frames) (hl : R'.locals ≤ R.locals) (hc : cells + R'.cells ≤ R.cells) (hs : slots + R'.slots ≤ R.slots) :
    Stand p l e R' ((T.setVm s.vm).setFrames (.invoking m args :: below)) m args below meth c T [] 0 0 := by
  have htop : (T.setVm s.vm).topJava?.isSome := X.here.top
  have hF : ((T.setVm s.vm).setFrames (.invoking m args :: below)).frames = .invoking m args :: below := State.frames_setFrames _ (State.cur_lt_of_top htop)
  obtain ⟨g₀, hg0⟩ := Option.isSome_iff_exists.mp htop
  obtain ⟨r, hr⟩ := State.topJava?_eq_some.mp hg0
  have hl9 : e.platform.stackLimits (T.setVm s.vm).me = e.platform.stackLimits s.me := X.limits
  have hb9 : (T.setVm s.vm).me.stackBytes = s.me.stackBytes := X.bytes
  refine ⟨X.admits, X.cas, X.clock, hF, ?_, X.hears, X.method, X.code, X.here, X.tail, X.warmed, ?_, ?_, ?_⟩
  · have h := X.room
    have hU : ((T.setVm s.vm).setFrames (.invoking m args :: below)).localsInUse = s.localsInUse := by
      rw [State.localsInUse_invoking hF (meth := meth) (c := c) X.method X.code, State.localsInUse_invoking X.frames X.method X.code]
    simp only [State.hasRoom, Bool.and_eq_true, decide_eq_true_eq] at h ⊢
    obtain ⟨⟨⟨⟨h1, h2, h3, h4, h5, h6⟩, h7⟩, h8⟩, h9⟩ := h
    rw [X.frames, List.length_cons] at h2 h3
    have q1 := X.heapSize
    have q2 := X.used
    simp only [hF, hU, List.length_cons, State.stackLimits_setFrames, State.stackBytes_setFrames, hl9, hb9]
    refine ⟨⟨⟨⟨by omega, by omega, by omega, by omega, by omega, h6⟩, ?_⟩, ?_⟩, X.book⟩
    · show T.heap.size + R'.cells ≤ e.platform.maxCells
      omega
    · show T.slotsUsed + R'.slots ≤ e.platform.maxSlots
      omega
  · rw [State.stackLimits_setFrames]; rfl
  · rw [State.stackBytes_setFrames]; rfl
  · refine ⟨?_, Nat.le_refl _, Nat.le_refl _, ?_, ?_, fun a c9 h9 => ⟨c9, h9, rfl, rfl, fun _ _ => rfl⟩⟩
    · obtain ⟨t, ht, -⟩ := State.frames_cons hr
      show T.setVm s.vm = { ((T.setVm s.vm).setFrames (.invoking m args :: below)).setFrames (T.setVm s.vm).frames with heap := T.heap, slotsUsed := T.slotsUsed }
      rw [State.setFrames_setFrames, State.setFrames_self ht]
      rfl
    · show T.slotsUsed = T.slotsUsed + ((T.heap.toList.drop T.heap.size).map (·.slots.size)).sum
      rw [List.drop_eq_nil_of_le (Nat.le_of_eq Array.length_toList)]
      rfl
    · show ((T.heap.toList.drop T.heap.size).map (·.slots.size)).sum ≤ 0
      rw [List.drop_eq_nil_of_le (Nat.le_of_eq Array.length_toList)]
      exact Nat.le_refl _
/-- 'throw new E()': new; dup; invokespecial; athrow -/
theorem vx_throw0 {cc : ByteArray} {pc : Nat} (hexec : p.tables.exec = Jvm.exec) (hb : c.code = cc) (hl : l.stackTraces = false) {own cls : String} {names : List String} {ik ic mc ms : Nat} {A : Nat → Prop}
    (hown : s.vm.findClass own = some m.cls) (hcls : Bundle.fit cls = true) (hnames : ∀ n ∈ names, Bundle.fit n = true)
    (hk : (Cond.classLink own ik cls).before args s = true) (hini : (Cond.initialized cls).before args s = true) (hat : ∀ w ∈ vx_at0 own ic cls names, w.before args s = true)
    (hgood : ∀ w ∈ Cond.classLink own ik cls :: Cond.initialized cls :: vx_at0 own ic cls names, vx_ot w = true)
    (hU : vx_Zq Bundle.tN "UNASSIGNED_STACK" Bundle.steD A s s.heap) (hN : vx_Zq Bundle.tN "SUPPRESSED_SENTINEL" Bundle.listD A s s.heap) (hS : va_S A s.heap H locs) (hsize : ls.size = c.maxLocals)
    (d0 : decode cc pc = .ok (.new ik, 3)) (d3 : decode cc (pc + 3) = .ok (.dup, 1)) (d4 : decode cc (pc + 4) = .ok (.invokespecial ic, 3)) (d7 : decode cc (pc + 7) = .ok (.athrow, 1))
    (hout : ∀ x ∈ c.exceptionTable.toList, covers x (pc + 7) = false)
    (hRframes : names.length + 3 < R.frames) (hRlocals : (rest.map fun v => v.category).sum + (13 * (names.length + 1) + 42) ≤ R.locals) (hRcells : cells + 1 ≤ R.cells) (hRslots : slots + 6 ≤ R.slots) (hlocks : meth.locks = false)
    (hx : ∀ t : State, s.vm.Alike t.vm → H.size ≤ t.heap.size → (∀ q : Nat, q < H.size → t.heap[q]? = H[q]?) → XC cls s t)
    (hf : ∀ z ∈ locs, free z.base) (hc : cells + 1 ≤ mc) (hs : slots + 6 ≤ ms) :
    W p l e R s m args below meth c H locs cells slots (vx_MQ below Qc XC args s mc ms free) (F0 m pc ls rest) := by
  intro T hT X
  have htr : e.platform.stackTraces = false := (show e.platform.stackTraces = l.stackTraces by rw [X.admits.platform]).trans hl
  have Y := vx_rebase X (R' := { frames := R.frames, locals := R.locals, cells := 1, slots := 6 }) (Nat.le_refl _) (Nat.le_refl _) hRcells hRslots
  obtain ⟨s', hA⟩ : ∃ z, z = (T.setVm s.vm).setFrames (.invoking m args :: below) := ⟨_, rfl⟩
  rw [← hA] at Y
  have hvm : s'.vm = s.vm := by rw [hA]; rfl
  have hhp : s'.heap = H := by rw [hA]; exact hT
  have hW0 : s.WarmedH s'.vm := by rw [hvm]; exact State.WarmedH.refl s
  have hat' : ∀ w ∈ vx_at0 own ic cls names, w.before args s' = true := fun w hw => vx_ot_at hW0 hvm.symm (hgood w (List.mem_cons_of_mem _ (List.mem_cons_of_mem _ hw))) (hat w hw)
  have hk' : (Cond.classLink own ik cls).before args s' = true := vx_ot_at hW0 hvm.symm (hgood _ List.mem_cons_self) hk
  have hini' : (Cond.initialized cls).before args s' = true := vx_ot_at hW0 hvm.symm (hgood _ (List.mem_cons_of_mem _ List.mem_cons_self)) hini
  have hU' : vx_Zq Bundle.tN "UNASSIGNED_STACK" Bundle.steD A s' s'.heap := by rw [hhp]; exact vx_Zq.moved hW0.alike (hU.kept hS.2.1)
  have hN' : vx_Zq Bundle.tN "SUPPRESSED_SENTINEL" Bundle.listD A s' s'.heap := by rw [hhp]; exact vx_Zq.moved hW0.alike (hN.kept hS.2.1)
  have h : ∀ w ∈ Bundle.ownAtoms0 own ic cls names, w.before args s' = true := vx_own hat' (vx_isRefq hU'.1) (vx_isRefq hN'.1) hU'.2.word hN'.2.word
  have hown' : s'.vm.findClass own = some m.cls := by rw [hvm]; exact hown
  have hins : (Cond.instantiable cls 6).before args s' = true := h _ (by simp [Bundle.ownAtoms0])
  obtain ⟨vm₁, cX, kX, hfX, hkX, -, -, X₁, st1⟩ := Y.newCold hexec (own := own) (C := cls) (index := ik) (n := 6) hown' hk' hins hini'
    (g := F0 m pc ls rest) rfl (by rw [hb]; exact d0) (Nat.le_refl _) (Nat.le_refl _)
  generalize hT1 : (T.setVm vm₁).pushCell { cls := cX, slots := kX.instanceTypes.map defaultValue, vm := .none } = T1 at X₁ st1
  have hcat : (Value.ref T.heap.size).category = 1 := rfl
  have hcellA : T1.heap[T.heap.size]? = some (freshCell cX kX) := by rw [← hT1]; exact State.heap_pushCell_size _ _
  have d3' : decode c.code (pc + 3) = .ok (.dup, 1) := by rw [hb]; exact d3
  obtain ⟨U, hsteps, hrun, hend, hW, hsame, ce, hce, hO⟩ := X₁.ctorThrow0 hexec htr (own := own) (cls := cls) (names := names) (ic := ic) hown' hcls hnames h (fun x hx => nomatch hx) hfX hkX hcellA (by rw [hhp, hT]; exact Nat.le_refl _)
    (g := { method := m, pc := pc + 4, locals := ls, stack := .ref T.heap.size :: .ref T.heap.size :: rest, locked := none }) rfl hsize rfl rfl (rest := rest) rfl
    (by rw [hb]; exact d4) (by rw [hb]; exact d7) hout hRframes (by simp only [List.map_cons, List.sum_cons, hcat]; omega) hlocks
  obtain ⟨f1, f2⟩ := vx_frame hsame
  rw [hhp] at f1 f2
  have hWs : s.WarmedH U.vm := State.WarmedH.trans hW0 hW
  have hcl : s.vm.findClass cls = some ce.cls := by
    have h9 := hO.cls
    rw [hvm] at h9
    exact h9
  have hall : s.sameButNew ({ U with vm := s.vm } : State) locs mc ms := by
    subst hA
    obtain ⟨e1, e2⟩ := hsame
    rw [State.setFrames_setFrames] at e1
    have h2 : (T.setVm s.vm).sameButNew ({ U with vm := s.vm } : State) [] (0 + 1) (0 + 6) := ⟨e1, e2⟩
    have h3 := X.same.trans h2
    rw [List.append_nil] at h3
    exact h3.mono hc hs
  refine ⟨U, ?_, .threw T.heap.size, hrun, hend, Or.inr ⟨T.heap.size, rfl, cls, ce, locs, hx U hWs.alike f1 (fun q hq => f2 q hq (fun z hz => nomatch hz)), hce, hO.vm, hcl, hWs, hall, hf⟩⟩
  refine st1 _ ?_
  show Steps p.tables e below (T1.setTop { method := m, pc := pc + 3, locals := ls, stack := .ref T.heap.size :: rest, locked := none }) _
  jvm_step X₁.here [X₁.here.top, hexec, d3', Value.category]
  exact hsteps
/-- 'throw new E("text")': new; dup; ldc; invokespecial; athrow -/
theorem vx_throwS {cc : ByteArray} {pc : Nat} (hexec : p.tables.exec = Jvm.exec) (hb : c.code = cc) (hl : l.stackTraces = false) {own cls text : String} {names : List String} {ik is ic mc ms sa : Nat} {A : Nat → Prop}
    (hown : s.vm.findClass own = some m.cls) (hcls : Bundle.fit cls = true) (hnames : ∀ n ∈ names, Bundle.fit n = true)
    (hk : (Cond.classLink own ik cls).before args s = true) (hini : (Cond.initialized cls).before args s = true) (hstr : vk_R own is text sa s) (hat : ∀ w ∈ vx_atS own ic cls names, w.before args s = true)
    (hgood : ∀ w ∈ Cond.classLink own ik cls :: Cond.initialized cls :: vx_atS own ic cls names, vx_ot w = true)
    (hU : vx_Zq Bundle.tN "UNASSIGNED_STACK" Bundle.steD A s s.heap) (hN : vx_Zq Bundle.tN "SUPPRESSED_SENTINEL" Bundle.listD A s s.heap) (hS : va_S A s.heap H locs) (hsize : ls.size = c.maxLocals)
    (d0 : decode cc pc = .ok (.new ik, 3)) (d3 : decode cc (pc + 3) = .ok (.dup, 1)) (d4 : decode cc (pc + 4) = .ok (.ldc is, 2)) (d6 : decode cc (pc + 6) = .ok (.invokespecial ic, 3)) (d9 : decode cc (pc + 9) = .ok (.athrow, 1))
    (hout : ∀ x ∈ c.exceptionTable.toList, covers x (pc + 9) = false)
    (hRframes : names.length + 3 < R.frames) (hRlocals : (rest.map fun v => v.category).sum + (13 * (names.length + 1) + 43) ≤ R.locals) (hRcells : cells + 1 ≤ R.cells) (hRslots : slots + 6 ≤ R.slots) (hlocks : meth.locks = false)
    (hx : ∀ t : State, s.vm.Alike t.vm → H.size ≤ t.heap.size → (∀ q : Nat, q < H.size → t.heap[q]? = H[q]?) → XC cls s t)
    (hf : ∀ z ∈ locs, free z.base) (hc : cells + 1 ≤ mc) (hs : slots + 6 ≤ ms) :
    W p l e R s m args below meth c H locs cells slots (vx_MQ below Qc XC args s mc ms free) (F0 m pc ls rest) := by
  intro T hT X
  have htr : e.platform.stackTraces = false := (show e.platform.stackTraces = l.stackTraces by rw [X.admits.platform]).trans hl
  have Y := vx_rebase X (R' := { frames := R.frames, locals := R.locals, cells := 1, slots := 6 }) (Nat.le_refl _) (Nat.le_refl _) hRcells hRslots
  obtain ⟨s', hA⟩ : ∃ z, z = (T.setVm s.vm).setFrames (.invoking m args :: below) := ⟨_, rfl⟩
  rw [← hA] at Y
  have hvm : s'.vm = s.vm := by rw [hA]; rfl
  have hhp : s'.heap = H := by rw [hA]; exact hT
  have hW0 : s.WarmedH s'.vm := by rw [hvm]; exact State.WarmedH.refl s
  have hat' : ∀ w ∈ vx_atS own ic cls names, w.before args s' = true := fun w hw => vx_ot_at hW0 hvm.symm (hgood w (List.mem_cons_of_mem _ (List.mem_cons_of_mem _ hw))) (hat w hw)
  have hk' : (Cond.classLink own ik cls).before args s' = true := vx_ot_at hW0 hvm.symm (hgood _ List.mem_cons_self) hk
  have hini' : (Cond.initialized cls).before args s' = true := vx_ot_at hW0 hvm.symm (hgood _ (List.mem_cons_of_mem _ List.mem_cons_self)) hini
  have hU' : vx_Zq Bundle.tN "UNASSIGNED_STACK" Bundle.steD A s' s'.heap := by rw [hhp]; exact vx_Zq.moved hW0.alike (hU.kept hS.2.1)
  have hN' : vx_Zq Bundle.tN "SUPPRESSED_SENTINEL" Bundle.listD A s' s'.heap := by rw [hhp]; exact vx_Zq.moved hW0.alike (hN.kept hS.2.1)
  have h : ∀ w ∈ Bundle.ownAtoms own ic cls names, w.before args s' = true := vx_own hat' (vx_isRefq hU'.1) (vx_isRefq hN'.1) hU'.2.word hN'.2.word
  have hown' : s'.vm.findClass own = some m.cls := by rw [hvm]; exact hown
  have hins : (Cond.instantiable cls 6).before args s' = true := h _ (by simp [Bundle.ownAtoms])
  obtain ⟨vm₁, cX, kX, hfX, hkX, -, -, X₁, st1⟩ := Y.newCold hexec (own := own) (C := cls) (index := ik) (n := 6) hown' hk' hins hini'
    (g := F0 m pc ls rest) rfl (by rw [hb]; exact d0) (Nat.le_refl _) (Nat.le_refl _)
  generalize hT1 : (T.setVm vm₁).pushCell { cls := cX, slots := kX.instanceTypes.map defaultValue, vm := .none } = T1 at X₁ st1
  have hcat : (Value.ref T.heap.size).category = 1 := rfl
  have hcellA : T1.heap[T.heap.size]? = some (freshCell cX kX) := by rw [← hT1]; exact State.heap_pushCell_size _ _
  have d3' : decode c.code (pc + 3) = .ok (.dup, 1) := by rw [hb]; exact d3
  have d4' : decode c.code (pc + 4) = .ok (.ldc is, 2) := by rw [hb]; exact d4
  have hstr' : vk_R own is text sa s' := vk_R.warm hW0 hstr
  obtain ⟨U, hsteps, hrun, hend, hW, hsame, ce, hce, hO⟩ := X₁.ctorThrowS hexec htr (own := own) (cls := cls) (names := names) (ic := ic) hown' hcls hnames h (fun x hx => nomatch hx) hfX hkX hcellA (by rw [hhp, hT]; exact Nat.le_refl _) (msg := .ref sa) rfl
    (g := { method := m, pc := pc + 6, locals := ls, stack := .ref sa :: .ref T.heap.size :: .ref T.heap.size :: rest, locked := none }) rfl hsize rfl rfl (rest := rest) rfl
    (by rw [hb]; exact d6) (by rw [hb]; exact d9) hout hRframes (by simp only [List.map_cons, List.sum_cons, hcat]; omega) hlocks
  obtain ⟨f1, f2⟩ := vx_frame hsame
  rw [hhp] at f1 f2
  have hWs : s.WarmedH U.vm := State.WarmedH.trans hW0 hW
  have hcl : s.vm.findClass cls = some ce.cls := by
    have h9 := hO.cls
    rw [hvm] at h9
    exact h9
  have hall : s.sameButNew ({ U with vm := s.vm } : State) locs mc ms := by
    subst hA
    obtain ⟨e1, e2⟩ := hsame
    rw [State.setFrames_setFrames] at e1
    have h2 : (T.setVm s.vm).sameButNew ({ U with vm := s.vm } : State) [] (0 + 1) (0 + 6) := ⟨e1, e2⟩
    have h3 := X.same.trans h2
    rw [List.append_nil] at h3
    exact h3.mono hc hs
  refine ⟨U, ?_, .threw T.heap.size, hrun, hend, Or.inr ⟨T.heap.size, rfl, cls, ce, locs, hx U hWs.alike f1 (fun q hq => f2 q hq (fun z hz => nomatch hz)), hce, hO.vm, hcl, hWs, hall, hf⟩⟩
  refine st1 _ ?_
  show Steps p.tables e below (T1.setTop { method := m, pc := pc + 3, locals := ls, stack := .ref T.heap.size :: rest, locked := none }) _
  jvm_step X₁.here [X₁.here.top, hexec, d3', Value.category]
  exact X₁.ldcString hexec (own := own) (text := text) (index := is) (a := sa) hown' hstr'.1 hstr'.2
    (g := { method := m, pc := pc + 4, locals := ls, stack := .ref T.heap.size :: .ref T.heap.size :: rest, locked := none }) rfl d4' _ hsteps
/-- 'throw new E("text")', the text by a wide index -/
theorem vx_throwSW {cc : ByteArray} {pc : Nat} (hexec : p.tables.exec = Jvm.exec) (hb : c.code = cc) (hl : l.stackTraces = false) {own cls text : String} {names : List String} {ik is ic mc ms sa : Nat} {A : Nat → Prop}
    (hown : s.vm.findClass own = some m.cls) (hcls : Bundle.fit cls = true) (hnames : ∀ n ∈ names, Bundle.fit n = true)
    (hk : (Cond.classLink own ik cls).before args s = true) (hini : (Cond.initialized cls).before args s = true) (hstr : vk_R own is text sa s) (hat : ∀ w ∈ vx_atS own ic cls names, w.before args s = true)
    (hgood : ∀ w ∈ Cond.classLink own ik cls :: Cond.initialized cls :: vx_atS own ic cls names, vx_ot w = true)
    (hU : vx_Zq Bundle.tN "UNASSIGNED_STACK" Bundle.steD A s s.heap) (hN : vx_Zq Bundle.tN "SUPPRESSED_SENTINEL" Bundle.listD A s s.heap) (hS : va_S A s.heap H locs) (hsize : ls.size = c.maxLocals)
    (d0 : decode cc pc = .ok (.new ik, 3)) (d3 : decode cc (pc + 3) = .ok (.dup, 1)) (d4 : decode cc (pc + 4) = .ok (.ldc_w is, 3)) (d7 : decode cc (pc + 7) = .ok (.invokespecial ic, 3)) (d10 : decode cc (pc + 10) = .ok (.athrow, 1))
    (hout : ∀ x ∈ c.exceptionTable.toList, covers x (pc + 10) = false)
    (hRframes : names.length + 3 < R.frames) (hRlocals : (rest.map fun v => v.category).sum + (13 * (names.length + 1) + 43) ≤ R.locals) (hRcells : cells + 1 ≤ R.cells) (hRslots : slots + 6 ≤ R.slots) (hlocks : meth.locks = false)
    (hx : ∀ t : State, s.vm.Alike t.vm → H.size ≤ t.heap.size → (∀ q : Nat, q < H.size → t.heap[q]? = H[q]?) → XC cls s t)
    (hf : ∀ z ∈ locs, free z.base) (hc : cells + 1 ≤ mc) (hs : slots + 6 ≤ ms) :
    W p l e R s m args below meth c H locs cells slots (vx_MQ below Qc XC args s mc ms free) (F0 m pc ls rest) := by
  intro T hT X
  have htr : e.platform.stackTraces = false := (show e.platform.stackTraces = l.stackTraces by rw [X.admits.platform]).trans hl
  have Y := vx_rebase X (R' := { frames := R.frames, locals := R.locals, cells := 1, slots := 6 }) (Nat.le_refl _) (Nat.le_refl _) hRcells hRslots
  obtain ⟨s', hA⟩ : ∃ z, z = (T.setVm s.vm).setFrames (.invoking m args :: below) := ⟨_, rfl⟩
  rw [← hA] at Y
  have hvm : s'.vm = s.vm := by rw [hA]; rfl
  have hhp : s'.heap = H := by rw [hA]; exact hT
  have hW0 : s.WarmedH s'.vm := by rw [hvm]; exact State.WarmedH.refl s
  have hat' : ∀ w ∈ vx_atS own ic cls names, w.before args s' = true := fun w hw => vx_ot_at hW0 hvm.symm (hgood w (List.mem_cons_of_mem _ (List.mem_cons_of_mem _ hw))) (hat w hw)
  have hk' : (Cond.classLink own ik cls).before args s' = true := vx_ot_at hW0 hvm.symm (hgood _ List.mem_cons_self) hk
  have hini' : (Cond.initialized cls).before args s' = true := vx_ot_at hW0 hvm.symm (hgood _ (List.mem_cons_of_mem _ List.mem_cons_self)) hini
  have hU' : vx_Zq Bundle.tN "UNASSIGNED_STACK" Bundle.steD A s' s'.heap := by rw [hhp]; exact vx_Zq.moved hW0.alike (hU.kept hS.2.1)
  have hN' : vx_Zq Bundle.tN "SUPPRESSED_SENTINEL" Bundle.listD A s' s'.heap := by rw [hhp]; exact vx_Zq.moved hW0.alike (hN.kept hS.2.1)
  have h : ∀ w ∈ Bundle.ownAtoms own ic cls names, w.before args s' = true := vx_own hat' (vx_isRefq hU'.1) (vx_isRefq hN'.1) hU'.2.word hN'.2.word
  have hown' : s'.vm.findClass own = some m.cls := by rw [hvm]; exact hown
  have hins : (Cond.instantiable cls 6).before args s' = true := h _ (by simp [Bundle.ownAtoms])
  obtain ⟨vm₁, cX, kX, hfX, hkX, -, -, X₁, st1⟩ := Y.newCold hexec (own := own) (C := cls) (index := ik) (n := 6) hown' hk' hins hini'
    (g := F0 m pc ls rest) rfl (by rw [hb]; exact d0) (Nat.le_refl _) (Nat.le_refl _)
  generalize hT1 : (T.setVm vm₁).pushCell { cls := cX, slots := kX.instanceTypes.map defaultValue, vm := .none } = T1 at X₁ st1
  have hcat : (Value.ref T.heap.size).category = 1 := rfl
  have hcellA : T1.heap[T.heap.size]? = some (freshCell cX kX) := by rw [← hT1]; exact State.heap_pushCell_size _ _
  have d3' : decode c.code (pc + 3) = .ok (.dup, 1) := by rw [hb]; exact d3
  have d4' : decode c.code (pc + 4) = .ok (.ldc_w is, 3) := by rw [hb]; exact d4
  have hstr' : vk_R own is text sa s' := vk_R.warm hW0 hstr
  obtain ⟨U, hsteps, hrun, hend, hW, hsame, ce, hce, hO⟩ := X₁.ctorThrowS hexec htr (own := own) (cls := cls) (names := names) (ic := ic) hown' hcls hnames h (fun x hx => nomatch hx) hfX hkX hcellA (by rw [hhp, hT]; exact Nat.le_refl _) (msg := .ref sa) rfl
    (g := { method := m, pc := pc + 7, locals := ls, stack := .ref sa :: .ref T.heap.size :: .ref T.heap.size :: rest, locked := none }) rfl hsize rfl rfl (rest := rest) rfl
    (by rw [hb]; exact d7) (by rw [hb]; exact d10) hout hRframes (by simp only [List.map_cons, List.sum_cons, hcat]; omega) hlocks
  obtain ⟨f1, f2⟩ := vx_frame hsame
  rw [hhp] at f1 f2
  have hWs : s.WarmedH U.vm := State.WarmedH.trans hW0 hW
  have hcl : s.vm.findClass cls = some ce.cls := by
    have h9 := hO.cls
    rw [hvm] at h9
    exact h9
  have hall : s.sameButNew ({ U with vm := s.vm } : State) locs mc ms := by
    subst hA
    obtain ⟨e1, e2⟩ := hsame
    rw [State.setFrames_setFrames] at e1
    have h2 : (T.setVm s.vm).sameButNew ({ U with vm := s.vm } : State) [] (0 + 1) (0 + 6) := ⟨e1, e2⟩
    have h3 := X.same.trans h2
    rw [List.append_nil] at h3
    exact h3.mono hc hs
  refine ⟨U, ?_, .threw T.heap.size, hrun, hend, Or.inr ⟨T.heap.size, rfl, cls, ce, locs, hx U hWs.alike f1 (fun q hq => f2 q hq (fun z hz => nomatch hz)), hce, hO.vm, hcl, hWs, hall, hf⟩⟩
  refine st1 _ ?_
  show Steps p.tables e below (T1.setTop { method := m, pc := pc + 3, locals := ls, stack := .ref T.heap.size :: rest, locked := none }) _
  jvm_step X₁.here [X₁.here.top, hexec, d3', Value.category]
  exact X₁.ldcStringW hexec (own := own) (text := text) (index := is) (a := sa) hown' hstr'.1 hstr'.2
    (g := { method := m, pc := pc + 4, locals := ls, stack := .ref T.heap.size :: .ref T.heap.size :: rest, locked := none }) rfl d4' _ hsteps
end Ends
section Bodies
variable {l : Launch}
theorem vx_ofW {y : MethodName} {ws ws' : List Cond} {rm : Room} {Pc : Array Value → State → Prop} {Qc : Array Value → State → Outcome → State → Prop} {XC : String → State → State → Prop} {mc ms : Nat} {free : Addr → Prop} {cc : ByteArray} {maxL : Nat} {ret : Option FieldType}
    (hy : plainName y.cls = true) (hw : ws = Cond.code y cc maxL ret :: ws')
    (body : ∀ p e s m args below meth c s₁, BodyLoose p l y (headSpec ws rm) cc maxL ret e s m args below meth c s₁ → c.maxLocals = maxL → (∀ x ∈ c.exceptionTable.toList, False) → Pc args s →
      W p l e (headSpec ws rm).room s m args below meth c s.heap [] 0 0 (vx_MQ below Qc XC args s mc ms free) (entryFrame m args maxL)) : vx_Met l y ws rm Pc Qc XC mc ms free := by
  refine MetFree.of_bodyS (code := cc) (maxLocals := maxL) (ret := ret) hy ?_ ?_
  · intro args s m h hn
    obtain ⟨meth, c, h1, h2, h3, h4, h5, h6, -, -⟩ := Cond.code_spec hn (atoms_spec (ws := ws) h _ (by rw [hw]; exact List.mem_cons_self))
    exact ⟨meth, c, h1, h2, h3, h4, h5, h6⟩
  · intro p e s m args below meth c s₁ B hml hP _
    have hh0 : s₁.heap = s.heap := by rw [B.state]; rfl
    have ht : ∀ x ∈ c.exceptionTable.toList, False := by
      obtain ⟨meth9, c9, h1, h2, -, -, -, -, h7, -⟩ := Cond.code_spec B.named (atoms_spec (ws := ws) B.pre _ (by rw [hw]; exact List.mem_cons_self))
      cases Option.some.inj (h1.symm.trans B.method)
      cases Option.some.inj (h2.symm.trans (Stand.of_body B).code)
      intro x hx
      rw [Array.isEmpty_iff.mp h7] at hx
      cases hx
    obtain ⟨t, a1, o, b1, b2, b3⟩ := body p e s m args below meth c s₁ B hml ht hP s₁ hh0 (Stand.of_body B)
    exact ⟨t, o, a1, b1, b2, b3⟩
/-- the table of a body with handlers -/
theorem vx_table {p : Program} {x y : MethodName} {S : Spec} {cc bytes : ByteArray} {maxL maxL' : Nat} {ret ret' : Option FieldType} {e : Env} {s s₁ : State} {m : MethodId} {args : Array Value} {below : List Frame} {meth : Method} {c : Code} {hh : List (Nat × Nat × Nat × Nat)}
    (B : BodyLoose p l y S cc maxL ret e s m args below meth c s₁) (h : (Cond.codeWith y bytes maxL' ret' hh).before args s = true) : c.exceptionTable.toList = tableOf hh := by
  obtain ⟨m9, meth9, c9, hn9, h1, h2, -, -, h6, -⟩ := Cond.codeWith_spec h
  cases Option.some.inj (hn9.symm.trans B.named)
  cases Option.some.inj (h1.symm.trans B.method)
  cases Option.some.inj (h2.symm.trans (Stand.of_body B).code)
  rw [← h6, table_eq]
end Bodies
end VXA
/-! ===== END ===== -/
/-! ===== BEGIN a static call of a method with an exception table ===== -/
section VXS
variable {p : Program} {l : Launch} {e : Env} {R : Room} {s : State} {m : MethodId} {args : Array Value} {below : List Frame} {meth : Method} {c : Code} {T : State} {H : Heap} {locs : List Loc} {cells slots : Nat}
abbrev vx_CSW (R : Room) (s : State) (args : Array Value) (own : String) (index : Nat) (y : MethodName) (bytes : ByteArray) (maxL : Nat) (ret : Option FieldType) (hh : List (Nat × Nat × Nat × Nat)) (ws : List Cond) (rm : Room) (mc ms n : Nat) : Prop :=
  (rm.cells = mc ∧ rm.slots = ms ∧ rm.frames + 1 ≤ R.frames ∧ 8 + (maxL + 11) + rm.locals ≤ R.locals ∧ (∀ w ∈ ws, ∀ (a' : Array Value) (U : State), s.WarmedH U.vm → w.before a' U = true) ∧ Cond.codeWith y bytes maxL ret hh ∈ ws) ∧
  (Cond.codeWith y bytes maxL ret hh).before args s = true ∧ (Cond.initialized y.cls).before args s = true ∧ (y.cls ≠ "java/lang/invoke/MethodHandle" ∧ y.cls ≠ "java/lang/invoke/VarHandle") ∧
  (∀ sig, parseMethodDescriptor y.desc = some sig → n = sig.parameters.length) ∧ (Cond.methodLink own index y).before args s = true ∧ (Cond.static y).before args s = true
theorem vx_cwSW {own : String} {index maxL mc ms : Nat} {y : MethodName} {bytes : ByteArray} {ret : Option FieldType} {hh : List (Nat × Nat × Nat × Nat)} {Ts ws ws' : List Cond} {rm : Room} (n : Nat) (ht : ∀ w ∈ Ts, w.before args s = true) (hT : GoodIn Ts (va_wsS own index y ws)) (hw : ws = Cond.codeWith y bytes maxL ret hh :: ws') (hrc : rm.cells = mc) (hrs : rm.slots = ms)
    (hd : y.cls ≠ "java/lang/invoke/MethodHandle" ∧ y.cls ≠ "java/lang/invoke/VarHandle" ∧ (parseMethodDescriptor y.desc).map (fun d => d.parameters.length) = some n) (hR : rm.frames + 1 ≤ R.frames ∧ 8 + (maxL + 11) + rm.locals ≤ R.locals) :
    vx_CSW R s args own index y bytes maxL ret hh ws rm mc ms n := by
  have ok : ∀ w ∈ va_wsS own index y ws, w.before args s = true := fun w h => ht w (hT w h).1
  have hG : GoodIn Ts ws := fun w h => hT w (by unfold va_wsS; exact List.mem_append_right _ h)
  have hc : Cond.codeWith y bytes maxL ret hh ∈ ws := by rw [hw]; exact List.mem_cons_self
  refine ⟨⟨hrc, hrs, hR.1, hR.2, pay_in ht hG, hc⟩, ht _ (hG _ hc).1, ok _ (by simp [va_wsS]), ⟨hd.1, hd.2.1⟩, fun sig h => ?_, ok _ (by simp [va_wsS]), ok _ (by simp [va_wsS])⟩
  have h2 := hd.2.2
  rw [h] at h2
  exact (Option.some.inj h2).symm
theorem vx_callSW (X : Stand p l e R s m args below meth c T locs cells slots) (hexec : p.tables.exec = Jvm.exec) {own : String} {index : Nat} {y : MethodName} {bytes : ByteArray} {maxL : Nat} {ret : Option FieldType} {hh : List (Nat × Nat × Nat × Nat)}
    (hown : s.vm.findClass own = some m.cls) (hlink : (Cond.methodLink own index y).before args s = true) (hstat : (Cond.static y).before args s = true) (hinit : (Cond.initialized y.cls).before args s = true)
    (hcode : (Cond.codeWith y bytes maxL ret hh).before args s = true) (hy : y.cls ≠ "java/lang/invoke/MethodHandle" ∧ y.cls ≠ "java/lang/invoke/VarHandle")
    {W9 : Nat} {Pre : Pt → Array Value → Prop} {Post : Pt → Array Value → Option Value → Pt → Prop} (hK : Back l R p e below s args y 3 W9 Pre Post)
    {g : JFrame} (hg : g.method = m) (hsize : g.locals.size = c.maxLocals) {argsL rest : List Value} (hlen : ∀ sig, parseMethodDescriptor y.desc = some sig → argsL.length = sig.parameters.length)
    (hstack : g.stack = argsL.reverse ++ rest) (hW : 2 * g.monitorRoom + (rest.map fun v => v.category).sum ≤ W9) (hdg : decode c.code g.pc = .ok (.invokestatic index, 3))
    (hpre : ∀ vm₁, s.WarmedH vm₁ → Pre ⟨T.setVm vm₁, locs, cells, slots⟩ argsL.toArray) :
    ∃ (v : Option Value) (vm₁ : Vm) (B : Pt), s.WarmedH vm₁ ∧ Stand p l e R s m args below meth c B.U B.locs B.cells B.slots ∧ Post ⟨T.setVm vm₁, locs, cells, slots⟩ argsL.toArray v B ∧
      ∀ target, Steps p.tables e below (B.U.setTop { g with pc := g.pc + 3, stack := v.toList ++ rest }) target → Steps p.tables e below (T.setTop g) target := by
  obtain ⟨mk, methM, cM, hnamed, hmethM, -, -, -, -, -, -, hsigM⟩ := Cond.codeWith_spec hcode
  have hstatic : methM.isStatic = true := Cond.static_spec hnamed hmethM hstat
  obtain ⟨kP, hkP, -⟩ := className_of_methodNamed hnamed
  have hinitP : kP.init = .initialized := Cond.initialized_spec (findClass_of_methodNamed hnamed) hkP hinit
  obtain ⟨vm₁, X₁, hstep₁⟩ := X.invokestatic hexec hown hlink hnamed hmethM hstatic hkP hinitP hy (g := g) hg (argsL := argsL) (rest := rest) (hlen _ hsigM) hstack hdg
  obtain ⟨v, B, X', hpost, hsteps⟩ := hK m meth c ⟨T.setVm vm₁, locs, cells, slots⟩ { g with stack := rest } (.invokestatic index) mk argsL.toArray X₁ hg hsize hdg hW (X₁.named hnamed) (hpre vm₁ X₁.warmed)
  exact ⟨v, vm₁, B, X₁.warmed, X', hpost, fun target h => hstep₁ _ fun acts => by rw [doInvoke_state]; exact hsteps.trans h⟩
theorem vx_runSW {y : MethodName} {bytes cc : ByteArray} {maxL nL mc ms n index : Nat} {ret : Option FieldType} {hh : List (Nat × Nat × Nat × Nat)} {ws : List Cond} {rm : Room} {Pc : Array Value → State → Prop} {Qc : Array Value → State → Outcome → State → Prop} {free : Addr → Prop} {Ts : List Cond} {own : String} {As rest : List Value} {g : JFrame}
    (S : CallFix p m c cc nL s args Ts own) (hM : Met l y ws rm Pc Qc mc ms free) (cw : vx_CSW R s args own index y bytes maxL ret hh ws rm mc ms n) (hp : PreS s H Pc As)
    (hg : g.method = m) (hn : As.length = n) (hsize : g.locals.size = nL) (hstack : g.stack = As.reverse ++ rest) (hW : 2 * g.monitorRoom + (rest.map fun v => v.category).sum ≤ 8) (hdg : decode cc g.pc = .ok (.invokestatic index, 3)) (hf : cells + mc ≤ R.cells ∧ slots + ms ≤ R.slots) :
    va_Run p l e R s m args below meth c H locs cells slots mc ms g rest (Qc As.toArray) (free) := by
  obtain ⟨⟨hrc, hrs, hfr, hlo, hws, hcw⟩, hcode, hini, hy, hlen, hl, hstt⟩ := cw
  have hK : Back l R p e below s args y 3 8 (PreOf R mc ms Pc) (PostOf Qc mc ms free) := va_backW (hh := hh) (bytes := bytes) (maxL := maxL) (ret := ret) hM hp.1 hrc hrs hfr hlo hws hcw (fun a' U hW => word_at hW (Or.inl (by first | rfl | simp [Cond.onTables, Cond.keeps, Cond.steady])) hini)
  obtain ⟨hx, hb, hml, ho, -⟩ := S
  intro T hT X
  obtain ⟨v, vm₁, ⟨U', l2, c2, s2⟩, hW₁, X', ⟨g', mk, t, L, e1, e2, hq, h1, hL, h2, h3⟩, st⟩ := vx_callSW X hx (hh := hh) (bytes := bytes) (maxL := maxL) (ret := ret) ho hl hstt hini hcode hy hK hg (hsize.trans hml.symm) (argsL := As) (rest := rest) (fun sig h => hn.trans (hlen sig h)) hstack hW (by rw [hb]; exact hdg)
    (fun vm₁ hW₁ => ⟨hf.1, hf.2, hp.2 (T.setVm vm₁) hT hW₁⟩)
  dsimp only [Pt.U, Pt.locs, Pt.cells, Pt.slots] at X' e1 e2 h1 h2 h3 st
  subst h1; subst h2; subst h3
  exact ⟨v, (T.setVm vm₁).calling g' mk As.toArray, t, U', L, hT, X', hL, e1, e2, hq, st⟩
/-- not caught here, past rows that name other classes: it goes on to the caller -/
theorem vx_outP {p : Program} {l : Launch} {e : Env} {R : Room} {s : State} {m : MethodId} {args : Array Value} {below : List Frame} {meth : Method} {c : Code} {H : Heap} {locs : List Loc} {cells slots : Nat} {free : Addr → Prop} {ls : Array Slot} {rest : List Value} {Qc : Array Value → State → Outcome → State → Prop} {XC : String → State → State → Prop}
    {pc : Nat} {own E : String} {ce : Cell} {q : Addr} {mc ms : Nat} (hown : s.vm.findClass own = some m.cls) (hlocks : meth.locks = false)
    (hpass : ∀ z ∈ c.exceptionTable.toList, covers z pc = false ∨ (z.catchType ≠ 0 ∧ ∃ nm : String, (Cond.classLink own z.catchType nm).before args s = true ∧ va_Nc E nm s)) (hcell : H[q]? = some ce) (hv : ce.vm = .none) (hcl : s.vm.findClass E = some ce.cls)
    (hx : ∀ t : State, t.heap = H → s.vm.Alike t.vm → XC E s t) (hf : ∀ z ∈ locs, free z.base) (hc : cells ≤ mc) (hs : slots ≤ ms) :
    vx_W p l e R s m args below meth c H locs cells slots (vx_MQ below Qc XC args s mc ms free) (F0 m pc ls rest) q := by
  intro T hT X
  have hpl : e.platform.magicAccessors = ({} : Platform).magicAccessors := by rw [X.admits.platform]
  obtain ⟨vm', hW', X', st⟩ := X.outThrough hlocks q (g := F0 m pc ls rest) rfl rfl rfl (cell := ce) (by rw [hT]; exact hcell) (by rw [hv]; rfl)
    (by obtain ⟨k9, h9, -⟩ := Vm.findClass_spec hcl; exact ⟨k9, h9⟩) (fun z hz => by
      rcases hpass z hz with h | ⟨hz0, nm, hl1, hn1⟩
      · exact Or.inl h
      · obtain ⟨c6, hc6, hcl6⟩ := Cond.classLink_spec hown hl1 e.platform hpl
        obtain ⟨a8, b8, h1, h2, h3⟩ := hn1
        cases Option.some.inj (h1.symm.trans hcl)
        cases Option.some.inj (h2.symm.trans hc6)
        exact Or.inr ⟨hz0, _, hcl6, h3⟩)
  obtain ⟨g₀, hfr⟩ := X'.frames_eq
  have hcell9 : ((T.setVm vm').setFrames (.throwing q :: below)).heap[q]? = some ce := by
    show T.heap[q]? = some ce
    rw [hT]; exact hcell
  have hend : Ended ((T.setVm vm').setFrames (.throwing q :: below)) below (.threw q) := State.frames_setFrames _ (State.cur_lt_of_frames hfr)
  refine ⟨(T.setVm vm').setFrames (.throwing q :: below), ?_, .threw q, X'.here.running, hend, Or.inr ⟨q, rfl, E, ce, locs, hx _ hT (X'.ends _).1.alike, hcell9, hv, hcl, (X'.ends _).1, (X'.ends _).2.mono hc hs, hf⟩⟩
  rw [X.pushThrowing_eq]
  exact st
/-- a thing of a world lies in the heap -/
theorem vx_lt {D : va_G} {cl : List vw_C} {ws : va_W} {H1 : Heap} (h : va_P D cl ws H1) {k : Nat} {q : Nat × va_E} (hk : ws[k]? = some q) : q.1 < H1.size := (h k q hk).lt
end VXS
/-! ===== END ===== -/
/-! ===== BEGIN methods with a table of their own: called by a name, returning or throwing ===== -/
section VXH
/-! vx_backW, vx_callVX, vx_callSX, vx_callVW, vx_runVW, vx_runVX, vx_runSX, vx_ofWH follow the same proofs as their sisters above (Free/Laws.lean, Shelf42/LK1.lean); vx_outP calls Shelf42/NT130.lean (outThrough). -/
section
variable {l : Launch} {R : Room} {p : Program} {e : Env} {below : List Frame} {s : State} {sargs : Array Value} {y : MethodName} {len W9 : Nat}
theorem vx_backW {ws : List Cond} {rm : Room} {Pc : Array Value → State → Prop} {Qc : Array Value → State → Outcome → State → Prop} {XC : String → State → State → Prop} {mc ms : Nat} {free : Addr → Prop} {bytes : ByteArray} {maxL : Nat} {ret : Option FieldType} {hh : List (Nat × Nat × Nat × Nat)}
    (hM : vx_Met l y ws rm Pc Qc XC mc ms free) (hblind : FrameBlind Pc) (hrc : rm.cells = mc) (hrs : rm.slots = ms)
    (hframes : rm.frames + 1 ≤ R.frames) (hlocals : W9 + (maxL + 11) + rm.locals ≤ R.locals)
    (hws : ∀ w ∈ ws, ∀ a' U, s.WarmedH U.vm → w.before a' U = true) (hcode : Cond.codeWith y bytes maxL ret hh ∈ ws) (hinit : ∀ a' U, s.WarmedH U.vm → (Cond.initialized y.cls).before a' U = true) :
    vx_Back l R p e below s sargs y len W9 (PreOf R mc ms Pc) (PostOf Qc mc ms free) (vx_Post XC mc ms free) := by
  intro m meth c A g ig mk a X hg hsize hdg hW hn hp
  have h1 : (headSpec ws rm).pre.before a A.U = true := atoms_intro fun w hw => hws w hw _ _ X.warmed
  have h2 : (Cond.codeWith y bytes maxL ret hh).before a A.U = true := hws _ hcode _ _ X.warmed
  have h3 : (Cond.initialized y.cls).before a A.U = true := hinit _ _ X.warmed
  have h4 : A.cells + (headSpec ws rm).room.cells ≤ R.cells := by rw [show (headSpec ws rm).room.cells = mc from hrc]; exact hp.1
  have h5 : A.slots + (headSpec ws rm).room.slots ≤ R.slots := by rw [show (headSpec ws rm).room.slots = ms from hrs]; exact hp.2.1
  have hPc : Pc a (A.U.calling g mk a) := hblind _ _ _ _ hp.2.2
  obtain ⟨U, Ls, c0, s0⟩ := A
  dsimp only [Pt.U, Pt.locs, Pt.cells, Pt.slots] at h1 h2 h3 h4 h5 X hn hPc ⊢
  obtain ⟨m9, methY, cY, hn9, hmY, hcY, -, hlY, -⟩ := Cond.codeWith_spec h2
  cases Option.some.inj (hn9.symm.trans hn)
  obtain ⟨kY, hkY, -⟩ := className_of_methodNamed hn
  have hinitY : kY.init = .initialized := Cond.initialized_spec (findClass_of_methodNamed hn) hkY h3
  have h : At U g.method c below := by rw [hg]; exact X.here
  have hlocals9 : W9 + (maxL + 11) + (headSpec ws rm).room.locals ≤ R.locals := hlocals
  have happ : (headSpec ws rm).appliesLoose y e.platform (U.calling g mk a) = true :=
    Spec.appliesLoose_calling (g := g) h hdg hn hkY hinitY
      (X.room_calling (g := g) (R' := (headSpec ws rm).room) hsize hmY hcY hframes (by rw [hlY]; omega) h4 h5) h1
  obtain ⟨mid, hmid⟩ := h.above
  have hfr : (U.setTop g).frames = (.java g :: mid) ++ below := by rw [State.frames_setTop' g h.top, hmid]; rfl
  obtain ⟨o, s₂, hsteps, -, hend, hq⟩ := Steps.callFree hM p X.admits X.cas X.clock (acts := []) hfr happ hPc trivial
  have hq' : vx_Q Qc XC mc ms free a (U.calling g mk a) o s₂ := hq
  rw [State.frames_setTop' g h.top] at hend
  obtain ⟨g₀, hg0⟩ := Option.isSome_iff_exists.mp h.top
  obtain ⟨r, hr⟩ := State.topJava?_eq_some.mp hg0
  have hr' : (({ U with heap := s₂.heap, slotsUsed := s₂.slotsUsed } : State).setVm s₂.vm).frames = .java g₀ :: r := hr
  rcases hq' with ⟨hqc, L, hfe, hL⟩ | ⟨q, rfl, E, ce, L, hx, hce, hcv, hcl, hW₂, hsm, hL⟩
  · obtain ⟨⟨v, rfl⟩, hW₂, e2, q2, q3, q4, q5, q6⟩ := id hfe
    have e3 : s₂ = ({ (U.calling g mk a).setFrames s₂.frames with heap := s₂.heap, slotsUsed := s₂.slotsUsed } : State).setVm s₂.vm := by
      have : s₂ = ({ s₂ with vm := (U.calling g mk a).vm } : State).setVm s₂.vm := rfl
      rw [e2] at this
      exact this
    obtain ⟨c₂, i₂, len₂, hc₂, hd₂, hf₂⟩ := hend
    have hW' : U.WarmedH s₂.vm := hW₂
    have hcc : c₂ = c := by
      have h1 : s₂.code? g.method = U.code? g.method := by
        rw [State.code?_eq, State.code?_eq, hW'.alike.method?]
      exact Option.some.inj (hc₂.symm.trans (h1.trans h.code))
    subst hcc
    have hlen : len₂ = len := by rw [hdg] at hd₂; cases hd₂; rfl
    subst hlen
    have hs₂ : s₂ = (({ U with heap := s₂.heap, slotsUsed := s₂.slotsUsed } : State).setVm s₂.vm).setTop { g with pc := g.pc + len₂, stack := v.toList ++ g.stack } := by
      refine e3.trans ?_
      rw [hf₂, State.calling_eq h.top, State.setFrames_setFrames, State.setTop_of_frames _ hr', hr]
      rfl
    have hsame : U.sameButNew ({ U with heap := s₂.heap, slotsUsed := s₂.slotsUsed } : State) L mc ms := by
      refine ⟨?_, q2, q3, q4, q5, q6⟩
      obtain ⟨t, ht, -⟩ := State.frames_cons hr
      show ({ U with heap := s₂.heap, slotsUsed := s₂.slotsUsed } : State) = { U.setFrames U.frames with heap := s₂.heap, slotsUsed := s₂.slotsUsed }
      rw [State.setFrames_self ht]
    subst hg
    refine Or.inl ⟨v, ⟨(({ U with heap := s₂.heap, slotsUsed := s₂.slotsUsed } : State).setVm s₂.vm), Ls ++ L, c0 + mc, s0 + ms⟩,
      ⟨X.admits, X.cas, X.clock, X.frames, X.room, X.hears, X.method, X.code, (X.here.setHeapUsed s₂.heap s₂.slotsUsed).setVm hW'.alike, X.tail, State.WarmedH.trans X.warmed hW', X.limits, X.bytes, X.same.trans (hsame.setVm s.vm)⟩,
      ⟨g, mk, s₂, L, rfl, rfl, hqc, rfl, hL, rfl, rfl⟩, ?_⟩
    show Steps p.tables e below _ ((({ U with heap := s₂.heap, slotsUsed := s₂.slotsUsed } : State).setVm s₂.vm).setTop { g with pc := g.pc + len₂, stack := v.toList ++ g.stack })
    rw [← hs₂]
    exact hsteps
  · obtain ⟨e2, q2, q3, q4, q5, q6⟩ := id hsm
    have e3 : s₂ = ({ (U.calling g mk a).setFrames s₂.frames with heap := s₂.heap, slotsUsed := s₂.slotsUsed } : State).setVm s₂.vm := by
      have : s₂ = ({ s₂ with vm := (U.calling g mk a).vm } : State).setVm s₂.vm := rfl
      rw [e2] at this
      exact this
    have hf₂ : s₂.frames = .throwing q :: .java g :: U.frames.tail := hend
    have hW' : U.WarmedH s₂.vm := hW₂
    have hs₂ : s₂ = ((({ U with heap := s₂.heap, slotsUsed := s₂.slotsUsed } : State).setVm s₂.vm).setTop g).pushFrame (.throwing q) := by
      refine e3.trans ?_
      rw [hf₂, State.calling_eq h.top, State.setFrames_setFrames, State.pushFrame, State.frames_setTop _ hr', State.setTop_of_frames _ hr', State.setFrames_setFrames, hr]
      rfl
    have hsame : U.sameButNew ({ U with heap := s₂.heap, slotsUsed := s₂.slotsUsed } : State) L mc ms := by
      refine ⟨?_, q2, q3, q4, q5, q6⟩
      obtain ⟨t, ht, -⟩ := State.frames_cons hr
      show ({ U with heap := s₂.heap, slotsUsed := s₂.slotsUsed } : State) = { U.setFrames U.frames with heap := s₂.heap, slotsUsed := s₂.slotsUsed }
      rw [State.setFrames_self ht]
    subst hg
    refine Or.inr ⟨q, ⟨(({ U with heap := s₂.heap, slotsUsed := s₂.slotsUsed } : State).setVm s₂.vm), Ls ++ L, c0 + mc, s0 + ms⟩,
      ⟨X.admits, X.cas, X.clock, X.frames, X.room, X.hears, X.method, X.code, (X.here.setHeapUsed s₂.heap s₂.slotsUsed).setVm hW'.alike, X.tail, State.WarmedH.trans X.warmed hW', X.limits, X.bytes, X.same.trans (hsame.setVm s.vm)⟩,
      ⟨g, mk, s₂, L, E, ce, rfl, rfl, hx, hce, hcv, hcl, rfl, hL, rfl, rfl⟩, ?_⟩
    show Steps p.tables e below _ (((({ U with heap := s₂.heap, slotsUsed := s₂.slotsUsed } : State).setVm s₂.vm).setTop g).pushFrame (.throwing q))
    rw [← hs₂]
    exact hsteps
end
variable {p : Program} {l : Launch} {e : Env} {R : Room} {s : State} {m : MethodId} {args : Array Value} {below : List Frame} {meth : Method} {c : Code} {T : State} {H : Heap} {locs : List Loc} {cells slots : Nat}
theorem vx_callVX (X : Stand p l e R s m args below meth c T locs cells slots) (hexec : p.tables.exec = Jvm.exec) {own C : String} {index : Nat} {y : MethodName} {bytes : ByteArray} {maxL : Nat} {ret : Option FieldType} {hh : List (Nat × Nat × Nat × Nat)}
    (hown : s.vm.findClass own = some m.cls) (hlink : (Cond.methodLink own index y).before args s = true) (hinst : (Cond.instanceMethod y).before args s = true) (hsel : (Cond.selects C y y).before args s = true)
    (hcode : (Cond.codeWith y bytes maxL ret hh).before args s = true) (hy : y.cls ≠ "java/lang/invoke/MethodHandle" ∧ y.cls ≠ "java/lang/invoke/VarHandle")
    {W9 : Nat} {Pre : Pt → Array Value → Prop} {Post : Pt → Array Value → Option Value → Pt → Prop} {PostX : Pt → Array Value → Addr → Pt → Prop} (hK : vx_Back l R p e below s args y 3 W9 Pre Post PostX)
    {b : Addr} {cellB : Cell} (hcell : T.heap[b]? = some cellB) (hobj : cellB.vm.isStatics = false) (hcls : s.vm.findClass C = some cellB.cls)
    {g : JFrame} (hg : g.method = m) (hsize : g.locals.size = c.maxLocals) {argsL rest : List Value} (hlen : ∀ sig, parseMethodDescriptor y.desc = some sig → argsL.length = sig.parameters.length)
    (hstack : g.stack = argsL.reverse ++ .ref b :: rest) (hW : 2 * g.monitorRoom + (rest.map fun v => v.category).sum ≤ W9) (hdg : decode c.code g.pc = .ok (.invokevirtual index, 3))
    (hpre : ∀ vm₁, s.WarmedH vm₁ → Pre ⟨T.setVm vm₁, locs, cells, slots⟩ (Value.ref b :: argsL).toArray) :
    (∃ (v : Option Value) (vm₁ : Vm) (B : Pt), s.WarmedH vm₁ ∧ Stand p l e R s m args below meth c B.U B.locs B.cells B.slots ∧ Post ⟨T.setVm vm₁, locs, cells, slots⟩ (Value.ref b :: argsL).toArray v B ∧
      ∀ target, Steps p.tables e below (B.U.setTop { g with pc := g.pc + 3, stack := v.toList ++ rest }) target → Steps p.tables e below (T.setTop g) target) ∨
    (∃ (q : Addr) (vm₁ : Vm) (B : Pt), s.WarmedH vm₁ ∧ Stand p l e R s m args below meth c B.U B.locs B.cells B.slots ∧ PostX ⟨T.setVm vm₁, locs, cells, slots⟩ (Value.ref b :: argsL).toArray q B ∧
      Steps p.tables e below (T.setTop g) ((B.U.setTop { g with stack := rest }).pushFrame (.throwing q))) := by
  obtain ⟨mk, methM, hnamed, hmethM, hstM, habM⟩ := Cond.instanceMethod_spec hinst
  obtain ⟨m8, methM', cM, hn8, hmethM', -, -, -, -, -, -, hsigM⟩ := Cond.codeWith_spec hcode
  cases Option.some.inj (hn8.symm.trans hnamed)
  cases hmethM.symm.trans hmethM'
  obtain ⟨c2, r2, m2, q1, q2, q3, q4, kP, hkP, hkPi⟩ := Cond.selects_spec hsel
  cases hcls.symm.trans q1
  cases (State.methodFound?_of_named hnamed hy).symm.trans q2
  cases hnamed.symm.trans q3
  have hselP : selectMethod e.platform s.vm cellB.cls mk = .method mk := by rw [Launch.admits_selectMethod X.admits]; exact q4
  obtain ⟨vm₁, X₁, hstep₁⟩ := X.invokevirtual hexec hown hlink hnamed hmethM hstM hkP hkPi hy (a := b) (cell := cellB) hcell
    (fun z h => by rw [h] at hobj; cases hobj) hselP hmethM habM hkP hkPi (g := g) hg (argsL := argsL) (rest := rest) (hlen _ hsigM) hstack hdg
  rcases hK m meth c ⟨T.setVm vm₁, locs, cells, slots⟩ { g with stack := rest } (.invokevirtual index) mk (Value.ref b :: argsL).toArray X₁ hg hsize hdg hW (X₁.named hnamed) (hpre vm₁ X₁.warmed) with ⟨v, B, X', hpost, hsteps⟩ | ⟨q, B, X', hpost, hsteps⟩
  · exact Or.inl ⟨v, vm₁, B, X₁.warmed, X', hpost, fun target h => hstep₁ _ fun acts => by rw [doInvoke_state]; exact hsteps.trans h⟩
  · exact Or.inr ⟨q, vm₁, B, X₁.warmed, X', hpost, hstep₁ _ fun acts => by rw [doInvoke_state]; exact hsteps⟩
theorem vx_callSX (X : Stand p l e R s m args below meth c T locs cells slots) (hexec : p.tables.exec = Jvm.exec) {own : String} {index : Nat} {y : MethodName} {bytes : ByteArray} {maxL : Nat} {ret : Option FieldType} {hh : List (Nat × Nat × Nat × Nat)}
    (hown : s.vm.findClass own = some m.cls) (hlink : (Cond.methodLink own index y).before args s = true) (hstat : (Cond.static y).before args s = true) (hinit : (Cond.initialized y.cls).before args s = true)
    (hcode : (Cond.codeWith y bytes maxL ret hh).before args s = true) (hy : y.cls ≠ "java/lang/invoke/MethodHandle" ∧ y.cls ≠ "java/lang/invoke/VarHandle")
    {W9 : Nat} {Pre : Pt → Array Value → Prop} {Post : Pt → Array Value → Option Value → Pt → Prop} {PostX : Pt → Array Value → Addr → Pt → Prop} (hK : vx_Back l R p e below s args y 3 W9 Pre Post PostX)
    {g : JFrame} (hg : g.method = m) (hsize : g.locals.size = c.maxLocals) {argsL rest : List Value} (hlen : ∀ sig, parseMethodDescriptor y.desc = some sig → argsL.length = sig.parameters.length)
    (hstack : g.stack = argsL.reverse ++ rest) (hW : 2 * g.monitorRoom + (rest.map fun v => v.category).sum ≤ W9) (hdg : decode c.code g.pc = .ok (.invokestatic index, 3))
    (hpre : ∀ vm₁, s.WarmedH vm₁ → Pre ⟨T.setVm vm₁, locs, cells, slots⟩ argsL.toArray) :
    (∃ (v : Option Value) (vm₁ : Vm) (B : Pt), s.WarmedH vm₁ ∧ Stand p l e R s m args below meth c B.U B.locs B.cells B.slots ∧ Post ⟨T.setVm vm₁, locs, cells, slots⟩ argsL.toArray v B ∧
      ∀ target, Steps p.tables e below (B.U.setTop { g with pc := g.pc + 3, stack := v.toList ++ rest }) target → Steps p.tables e below (T.setTop g) target) ∨
    (∃ (q : Addr) (vm₁ : Vm) (B : Pt), s.WarmedH vm₁ ∧ Stand p l e R s m args below meth c B.U B.locs B.cells B.slots ∧ PostX ⟨T.setVm vm₁, locs, cells, slots⟩ argsL.toArray q B ∧
      Steps p.tables e below (T.setTop g) ((B.U.setTop { g with stack := rest }).pushFrame (.throwing q))) := by
  obtain ⟨mk, methM, cM, hnamed, hmethM, -, -, -, -, -, -, hsigM⟩ := Cond.codeWith_spec hcode
  have hstatic : methM.isStatic = true := Cond.static_spec hnamed hmethM hstat
  obtain ⟨kP, hkP, -⟩ := className_of_methodNamed hnamed
  have hinitP : kP.init = .initialized := Cond.initialized_spec (findClass_of_methodNamed hnamed) hkP hinit
  obtain ⟨vm₁, X₁, hstep₁⟩ := X.invokestatic hexec hown hlink hnamed hmethM hstatic hkP hinitP hy (g := g) hg (argsL := argsL) (rest := rest) (hlen _ hsigM) hstack hdg
  rcases hK m meth c ⟨T.setVm vm₁, locs, cells, slots⟩ { g with stack := rest } (.invokestatic index) mk argsL.toArray X₁ hg hsize hdg hW (X₁.named hnamed) (hpre vm₁ X₁.warmed) with ⟨v, B, X', hpost, hsteps⟩ | ⟨q, B, X', hpost, hsteps⟩
  · exact Or.inl ⟨v, vm₁, B, X₁.warmed, X', hpost, fun target h => hstep₁ _ fun acts => by rw [doInvoke_state]; exact hsteps.trans h⟩
  · exact Or.inr ⟨q, vm₁, B, X₁.warmed, X', hpost, hstep₁ _ fun acts => by rw [doInvoke_state]; exact hsteps⟩
theorem vx_callVW (X : Stand p l e R s m args below meth c T locs cells slots) (hexec : p.tables.exec = Jvm.exec) {own C : String} {index : Nat} {y : MethodName} {bytes : ByteArray} {maxL : Nat} {ret : Option FieldType} {hh : List (Nat × Nat × Nat × Nat)}
    (hown : s.vm.findClass own = some m.cls) (hlink : (Cond.methodLink own index y).before args s = true) (hinst : (Cond.instanceMethod y).before args s = true) (hsel : (Cond.selects C y y).before args s = true)
    (hcode : (Cond.codeWith y bytes maxL ret hh).before args s = true) (hy : y.cls ≠ "java/lang/invoke/MethodHandle" ∧ y.cls ≠ "java/lang/invoke/VarHandle")
    {W9 : Nat} {Pre : Pt → Array Value → Prop} {Post : Pt → Array Value → Option Value → Pt → Prop} (hK : Back l R p e below s args y 3 W9 Pre Post)
    {b : Addr} {cellB : Cell} (hcell : T.heap[b]? = some cellB) (hobj : cellB.vm.isStatics = false) (hcls : s.vm.findClass C = some cellB.cls)
    {g : JFrame} (hg : g.method = m) (hsize : g.locals.size = c.maxLocals) {argsL rest : List Value} (hlen : ∀ sig, parseMethodDescriptor y.desc = some sig → argsL.length = sig.parameters.length)
    (hstack : g.stack = argsL.reverse ++ .ref b :: rest) (hW : 2 * g.monitorRoom + (rest.map fun v => v.category).sum ≤ W9) (hdg : decode c.code g.pc = .ok (.invokevirtual index, 3))
    (hpre : ∀ vm₁, s.WarmedH vm₁ → Pre ⟨T.setVm vm₁, locs, cells, slots⟩ (Value.ref b :: argsL).toArray) :
    ∃ (v : Option Value) (vm₁ : Vm) (B : Pt), s.WarmedH vm₁ ∧ Stand p l e R s m args below meth c B.U B.locs B.cells B.slots ∧ Post ⟨T.setVm vm₁, locs, cells, slots⟩ (Value.ref b :: argsL).toArray v B ∧
      ∀ target, Steps p.tables e below (B.U.setTop { g with pc := g.pc + 3, stack := v.toList ++ rest }) target → Steps p.tables e below (T.setTop g) target := by
  obtain ⟨mk, methM, hnamed, hmethM, hstM, habM⟩ := Cond.instanceMethod_spec hinst
  obtain ⟨m8, methM', cM, hn8, hmethM', -, -, -, -, -, -, hsigM⟩ := Cond.codeWith_spec hcode
  cases Option.some.inj (hn8.symm.trans hnamed)
  cases hmethM.symm.trans hmethM'
  obtain ⟨c2, r2, m2, q1, q2, q3, q4, kP, hkP, hkPi⟩ := Cond.selects_spec hsel
  cases hcls.symm.trans q1
  cases (State.methodFound?_of_named hnamed hy).symm.trans q2
  cases hnamed.symm.trans q3
  have hselP : selectMethod e.platform s.vm cellB.cls mk = .method mk := by rw [Launch.admits_selectMethod X.admits]; exact q4
  obtain ⟨vm₁, X₁, hstep₁⟩ := X.invokevirtual hexec hown hlink hnamed hmethM hstM hkP hkPi hy (a := b) (cell := cellB) hcell
    (fun z h => by rw [h] at hobj; cases hobj) hselP hmethM habM hkP hkPi (g := g) hg (argsL := argsL) (rest := rest) (hlen _ hsigM) hstack hdg
  obtain ⟨v, B, X', hpost, hsteps⟩ := hK m meth c ⟨T.setVm vm₁, locs, cells, slots⟩ { g with stack := rest } (.invokevirtual index) mk (Value.ref b :: argsL).toArray X₁ hg hsize hdg hW (X₁.named hnamed) (hpre vm₁ X₁.warmed)
  exact ⟨v, vm₁, B, X₁.warmed, X', hpost, fun target h => hstep₁ _ fun acts => by rw [doInvoke_state]; exact hsteps.trans h⟩
abbrev vx_CVW (R : Room) (s : State) (args : Array Value) (own C : String) (index : Nat) (y : MethodName) (bytes : ByteArray) (maxL : Nat) (ret : Option FieldType) (hh : List (Nat × Nat × Nat × Nat)) (ws : List Cond) (rm : Room) (mc ms n : Nat) : Prop :=
  (rm.cells = mc ∧ rm.slots = ms ∧ rm.frames + 1 ≤ R.frames ∧ 8 + (maxL + 11) + rm.locals ≤ R.locals ∧ (∀ w ∈ ws, ∀ (a' : Array Value) (U : State), s.WarmedH U.vm → w.before a' U = true) ∧ Cond.codeWith y bytes maxL ret hh ∈ ws) ∧
  (Cond.codeWith y bytes maxL ret hh).before args s = true ∧ (Cond.initialized y.cls).before args s = true ∧ (y.cls ≠ "java/lang/invoke/MethodHandle" ∧ y.cls ≠ "java/lang/invoke/VarHandle") ∧
  (∀ sig, parseMethodDescriptor y.desc = some sig → n = sig.parameters.length) ∧ (Cond.methodLink own index y).before args s = true ∧ (Cond.instanceMethod y).before args s = true ∧ (Cond.selects C y y).before args s = true
theorem vx_cwVW {own C : String} {index maxL mc ms : Nat} {y : MethodName} {bytes : ByteArray} {ret : Option FieldType} {hh : List (Nat × Nat × Nat × Nat)} {Ts ws ws' : List Cond} {rm : Room} (n : Nat) (ht : ∀ w ∈ Ts, w.before args s = true) (hT : GoodIn Ts (wsV own index C y ws)) (hw : ws = Cond.codeWith y bytes maxL ret hh :: ws') (hrc : rm.cells = mc) (hrs : rm.slots = ms)
    (hd : y.cls = C ∧ y.cls ≠ "java/lang/invoke/MethodHandle" ∧ y.cls ≠ "java/lang/invoke/VarHandle" ∧ (parseMethodDescriptor y.desc).map (fun d => d.parameters.length) = some n) (hR : rm.frames + 1 ≤ R.frames ∧ 8 + (maxL + 11) + rm.locals ≤ R.locals) :
    vx_CVW R s args own C index y bytes maxL ret hh ws rm mc ms n := by
  obtain ⟨hC, hd⟩ := hd
  subst hC
  have ok : ∀ w ∈ wsV own index y.cls y ws, w.before args s = true := fun w h => ht w (hT w h).1
  have hG : GoodIn Ts ws := fun w h => hT w (by unfold wsV; exact List.mem_append_right _ h)
  have hc : Cond.codeWith y bytes maxL ret hh ∈ ws := by rw [hw]; exact List.mem_cons_self
  refine ⟨⟨hrc, hrs, hR.1, hR.2, pay_in ht hG, hc⟩, ht _ (hG _ hc).1, ok _ (by simp [wsV]), ⟨hd.1, hd.2.1⟩, fun sig h => ?_, ok _ (by simp [wsV]), ok _ (by simp [wsV]), ok _ (by simp [wsV])⟩
  have h2 := hd.2.2
  rw [h] at h2
  exact (Option.some.inj h2).symm
theorem vx_runVW {y : MethodName} {bytes cc : ByteArray} {maxL nL mc ms n index : Nat} {ret : Option FieldType} {hh : List (Nat × Nat × Nat × Nat)} {ws : List Cond} {rm : Room} {Pc : Array Value → State → Prop} {Qc : Array Value → State → Outcome → State → Prop} {free : Addr → Prop} {Ts : List Cond} {own C : String} {b : Addr} {As rest : List Value} {g : JFrame}
    (S : CallFix p m c cc nL s args Ts own) (hM : Met l y ws rm Pc Qc mc ms free) (cw : vx_CVW R s args own C index y bytes maxL ret hh ws rm mc ms n) (hp : PreV s H C b Pc As)
    (hg : g.method = m) (hn : As.length = n) (hsize : g.locals.size = nL) (hstack : g.stack = As.reverse ++ .ref b :: rest) (hW : 2 * g.monitorRoom + (rest.map fun v => v.category).sum ≤ 8) (hdg : decode cc g.pc = .ok (.invokevirtual index, 3)) (hf : cells + mc ≤ R.cells ∧ slots + ms ≤ R.slots) :
    va_Run p l e R s m args below meth c H locs cells slots mc ms g rest (Qc (Value.ref b :: As).toArray) free := by
  obtain ⟨⟨hrc, hrs, hfr, hlo, hws, hcw⟩, hcode, hini, hy, hlen, hl, hin, hse⟩ := cw
  have hK : Back l R p e below s args y 3 8 (PreOf R mc ms Pc) (PostOf Qc mc ms free) := va_backW (hh := hh) (bytes := bytes) (maxL := maxL) (ret := ret) hM hp.1 hrc hrs hfr hlo hws hcw (fun a' U hW => word_at hW (Or.inl (by first | rfl | simp [Cond.onTables, Cond.keeps, Cond.steady])) hini)
  obtain ⟨hx, hb, hml, ho, -⟩ := S
  obtain ⟨-, ⟨cellB, hcB, hoB, hclB⟩, hPc⟩ := hp
  intro T hT X
  obtain ⟨v, vm₁, ⟨U', l2, c2, s2⟩, hW₁, X', ⟨g', mk, t, L, e1, e2, hq, h1, hL, h2, h3⟩, st⟩ := vx_callVW X hx (C := C) (hh := hh) (bytes := bytes) (maxL := maxL) (ret := ret) ho hl hin hse hcode hy hK (by rw [hT]; exact hcB) hoB hclB hg (hsize.trans hml.symm) (argsL := As) (rest := rest) (fun sig h => hn.trans (hlen sig h)) hstack hW (by rw [hb]; exact hdg)
    (fun vm₁ hW₁ => ⟨hf.1, hf.2, hPc (T.setVm vm₁) hT hW₁⟩)
  dsimp only [Pt.U, Pt.locs, Pt.cells, Pt.slots] at X' e1 e2 h1 h2 h3 st
  subst h1; subst h2; subst h3
  exact ⟨v, (T.setVm vm₁).calling g' mk (Value.ref b :: As).toArray, t, U', L, hT, X', hL, e1, e2, hq, st⟩
section
variable {y : MethodName} {bytes cc : ByteArray} {maxL nL mc ms n index : Nat} {ret : Option FieldType} {ws : List Cond} {rm : Room} {Pc : Array Value → State → Prop} {Qc : Array Value → State → Outcome → State → Prop} {XC : String → State → State → Prop} {free : Addr → Prop} {Ts : List Cond} {own C : String} {b : Addr} {As rest : List Value} {g : JFrame}
theorem vx_runVX {hh : List (Nat × Nat × Nat × Nat)} (S : CallFix p m c cc nL s args Ts own) (hM : vx_Met l y ws rm Pc Qc XC mc ms free) (cw : vx_CVW R s args own C index y bytes maxL ret hh ws rm mc ms n) (hp : PreV s H C b Pc As)
    (hg : g.method = m) (hn : As.length = n) (hsize : g.locals.size = nL) (hstack : g.stack = As.reverse ++ .ref b :: rest) (hW : 2 * g.monitorRoom + (rest.map fun v => v.category).sum ≤ 8) (hdg : decode cc g.pc = .ok (.invokevirtual index, 3)) (hf : cells + mc ≤ R.cells ∧ slots + ms ≤ R.slots) :
    vx_Run p l e R s m args below meth c H locs cells slots mc ms g rest (Qc (Value.ref b :: As).toArray) XC free := by
  obtain ⟨⟨hrc, hrs, hfr, hlo, hws, hcw⟩, hcode, hini, hy, hlen, hl, hin, hse⟩ := cw
  have hK : vx_Back l R p e below s args y 3 8 (PreOf R mc ms Pc) (PostOf Qc mc ms free) (vx_Post XC mc ms free) := vx_backW (hh := hh) (bytes := bytes) (maxL := maxL) (ret := ret) hM hp.1 hrc hrs hfr hlo hws hcw (fun a' U hW => word_at hW (Or.inl (by first | rfl | simp [Cond.onTables, Cond.keeps, Cond.steady])) hini)
  obtain ⟨hx, hb, hml, ho, -⟩ := S
  obtain ⟨-, ⟨cellB, hcB, hoB, hclB⟩, hPc⟩ := hp
  intro T hT X
  rcases vx_callVX X hx (C := C) (hh := hh) (bytes := bytes) (maxL := maxL) (ret := ret) ho hl hin hse hcode hy hK (by rw [hT]; exact hcB) hoB hclB hg (hsize.trans hml.symm) (argsL := As) (rest := rest) (fun sig h => hn.trans (hlen sig h)) hstack hW (by rw [hb]; exact hdg)
    (fun vm₁ hW₁ => ⟨hf.1, hf.2, hPc (T.setVm vm₁) hT hW₁⟩) with ⟨v, vm₁, ⟨U', l2, c2, s2⟩, hW₁, X', ⟨g', mk, t, L, e1, e2, hq, h1, hL, h2, h3⟩, st⟩ | ⟨q, vm₁, ⟨U', l2, c2, s2⟩, hW₁, X', ⟨g', mk, t, L, E, ce, e1, e2, hq, hce, hcv, hcl, h1, hL, h2, h3⟩, st⟩
  · dsimp only [Pt.U, Pt.locs, Pt.cells, Pt.slots] at X' e1 e2 h1 h2 h3 st
    subst h1; subst h2; subst h3
    exact Or.inl ⟨v, (T.setVm vm₁).calling g' mk (Value.ref b :: As).toArray, t, U', L, hT, X', hL, e1, e2, hq, st⟩
  · dsimp only [Pt.U, Pt.locs, Pt.cells, Pt.slots] at X' e1 e2 h1 h2 h3 st hcl
    subst h1; subst h2; subst h3
    exact Or.inr ⟨q, (T.setVm vm₁).calling g' mk (Value.ref b :: As).toArray, t, U', L, E, ce, hT, X', hL, e1, e2, hq, hce, hcv, vx_cls hW₁ hcl, st⟩
theorem vx_runSX {hh : List (Nat × Nat × Nat × Nat)} (S : CallFix p m c cc nL s args Ts own) (hM : vx_Met l y ws rm Pc Qc XC mc ms free) (cw : vx_CSW R s args own index y bytes maxL ret hh ws rm mc ms n) (hp : PreS s H Pc As)
    (hg : g.method = m) (hn : As.length = n) (hsize : g.locals.size = nL) (hstack : g.stack = As.reverse ++ rest) (hW : 2 * g.monitorRoom + (rest.map fun v => v.category).sum ≤ 8) (hdg : decode cc g.pc = .ok (.invokestatic index, 3)) (hf : cells + mc ≤ R.cells ∧ slots + ms ≤ R.slots) :
    vx_Run p l e R s m args below meth c H locs cells slots mc ms g rest (Qc As.toArray) XC free := by
  obtain ⟨⟨hrc, hrs, hfr, hlo, hws, hcw⟩, hcode, hini, hy, hlen, hl, hstt⟩ := cw
  have hK : vx_Back l R p e below s args y 3 8 (PreOf R mc ms Pc) (PostOf Qc mc ms free) (vx_Post XC mc ms free) := vx_backW (hh := hh) (bytes := bytes) (maxL := maxL) (ret := ret) hM hp.1 hrc hrs hfr hlo hws hcw (fun a' U hW => word_at hW (Or.inl (by first | rfl | simp [Cond.onTables, Cond.keeps, Cond.steady])) hini)
  obtain ⟨hx, hb, hml, ho, -⟩ := S
  intro T hT X
  rcases vx_callSX X hx (hh := hh) (bytes := bytes) (maxL := maxL) (ret := ret) ho hl hstt hini hcode hy hK hg (hsize.trans hml.symm) (argsL := As) (rest := rest) (fun sig h => hn.trans (hlen sig h)) hstack hW (by rw [hb]; exact hdg)
    (fun vm₁ hW₁ => ⟨hf.1, hf.2, hp.2 (T.setVm vm₁) hT hW₁⟩) with ⟨v, vm₁, ⟨U', l2, c2, s2⟩, hW₁, X', ⟨g', mk, t, L, e1, e2, hq, h1, hL, h2, h3⟩, st⟩ | ⟨q, vm₁, ⟨U', l2, c2, s2⟩, hW₁, X', ⟨g', mk, t, L, E, ce, e1, e2, hq, hce, hcv, hcl, h1, hL, h2, h3⟩, st⟩
  · dsimp only [Pt.U, Pt.locs, Pt.cells, Pt.slots] at X' e1 e2 h1 h2 h3 st
    subst h1; subst h2; subst h3
    exact Or.inl ⟨v, (T.setVm vm₁).calling g' mk As.toArray, t, U', L, hT, X', hL, e1, e2, hq, st⟩
  · dsimp only [Pt.U, Pt.locs, Pt.cells, Pt.slots] at X' e1 e2 h1 h2 h3 st hcl
    subst h1; subst h2; subst h3
    exact Or.inr ⟨q, (T.setVm vm₁).calling g' mk As.toArray, t, U', L, E, ce, hT, X', hL, e1, e2, hq, hce, hcv, vx_cls hW₁ hcl, st⟩
end
end VXH
theorem vx_ofWH {l : Launch} {y : MethodName} {ws ws' : List Cond} {rm : Room} {Pc : Array Value → State → Prop} {Qc : Array Value → State → Outcome → State → Prop} {XC : String → State → State → Prop} {mc ms : Nat} {free : Addr → Prop} {cc : ByteArray} {maxL : Nat} {ret : Option FieldType} {hh : List (Nat × Nat × Nat × Nat)}
    (hy : plainName y.cls = true) (hw : ws = Cond.codeWith y cc maxL ret hh :: ws')
    (body : ∀ p e s m args below meth c s₁, BodyLoose p l y (headSpec ws rm) cc maxL ret e s m args below meth c s₁ → c.maxLocals = maxL → Pc args s →
      W p l e (headSpec ws rm).room s m args below meth c s.heap [] 0 0 (vx_MQ below Qc XC args s mc ms free) (entryFrame m args maxL)) : vx_Met l y ws rm Pc Qc XC mc ms free := by
  refine MetFree.of_bodyS (code := cc) (maxLocals := maxL) (ret := ret) hy ?_ ?_
  · intro args s m h hn
    obtain ⟨m9, meth, c, hn9, h1, h2, h3, h4, -, h5, h6, -⟩ := Cond.codeWith_spec (atoms_spec (ws := ws) h _ (by rw [hw]; exact List.mem_cons_self))
    cases hn.symm.trans hn9
    exact ⟨meth, c, h1, h2, h3, h4, h5, h6⟩
  · intro p e s m args below meth c s₁ B hml hP _
    have hh0 : s₁.heap = s.heap := by rw [B.state]; rfl
    obtain ⟨t, a1, o, b1, b2, b3⟩ := body p e s m args below meth c s₁ B hml hP s₁ hh0 (Stand.of_body B)
    exact ⟨t, o, a1, b1, b2, b3⟩
/-! ===== END ===== -/

/-! ===== BEGIN what the machine throws by itself, no traces kept ===== -/
section VXM
set_option maxHeartbeats 1000000 in
/-- the machine throws cls with the message text, no traces kept: from its note over the frame g to 'throwing' over the same frame (follows the proofs of Stand.vmThrowsMessage, Shelf/KitTracedVmS.lean, and Stand.throwsMessageColdBareV, StandMessageColdV.lean, without the step out of the frame) -/
theorem vx_vmAt {p : Program} {l : Launch} {e : Env} {R : Room} {s : State} {m₀ : MethodId} {args : Array Value} {below : List Frame} {meth : Method} {c : Code} {W : State} {locs : List Loc} {cells slots : Nat}
    (X : Stand p l e R s m₀ args below meth c W locs cells slots) (hexec : p.tables.exec = Jvm.exec) (htr : e.platform.stackTraces = false) {cls : String} {names : List String} {text : String}
    (hcls : Bundle.fit cls = true) (hnames : ∀ n ∈ names, Bundle.fit n = true) (hsoe : (cls == "java/lang/StackOverflowError") = false) (hoom : (cls == "java/lang/OutOfMemoryError") = false)
    (h : ∀ a ∈ Bundle.messageArmAtoms cls names, a.before args s = true)
    (hlocs : ∀ x ∈ locs, ∀ cell, s.heap[x.base]? = some cell → cell.vm.isStatics = false)
    (htext : (text == notModelled) = false) (hlimit : ¬ (stringBytes (stringToUtf16 text)).size > e.platform.arrayLengthLimit) (hheap : ¬ (stringBytes (stringToUtf16 text)).size * componentBytes .byte > e.platform.maxHeapBytes)
    {g : JFrame} (hg : g.method = m₀) (hsize : g.locals.size = c.maxLocals)
    (hRframes : names.length + 4 < R.frames) (hRlocals : 2 * g.monitorRoom + (g.stack.map fun v => v.category).sum + 10240 ≤ R.locals) (hshort : 13 * names.length + 55 ≤ 10240)
    (hRcells : cells + 3 ≤ R.cells) (hRslots : slots + ((stringBytes (stringToUtf16 text)).size + 4 + 6) ≤ R.slots) (hlocks : meth.locks = false) :
    ∃ (S : State) (q : Addr) (ce : Cell), (∀ target, Steps p.tables e below ((S.setTop g).pushFrame (.throwing q)) target → Steps p.tables e below ((W.setTop g).pushFrame (.throwNew cls (some text) none)) target) ∧
      Stand p l e R s m₀ args below meth c S locs (cells + 3) (slots + ((stringBytes (stringToUtf16 text)).size + 4 + 6)) ∧ S.heap[q]? = some ce ∧ s.vm.findClass cls = some ce.cls ∧ ce.vm = .none := by
  have howns : e.platform.frameOwnsMonitors = true := by rw [X.admits.platform]
  have hfin : e.platform.finalization = false := by rw [X.admits.platform]
  have hpl : e.platform.magicAccessors = ({} : Platform).magicAccessors := by rw [X.admits.platform]
  have a : ∀ x, x ∈ Bundle.messageArmAtoms cls names → x.holds args s none s [] = true := fun x hx => h x hx
  obtain ⟨T, Z0, L, -, Y⟩ := ThrowableC.of_atoms (args := args) howns hfin hpl (fun x hx => h x (by simp [Bundle.messageArmAtoms, hx]))
  obtain ⟨Z, M, LZ, LM, hnZ⟩ := Init0T.ofS_atoms (args := args) hpl L Y (fun x hx => h x (by simp [Bundle.messageArmAtoms, hx]))
  obtain ⟨P1, Ps, hlen, L1, hL, hP1m, hlink1, hlink⟩ := Bundle.chainS (args := args) hpl hnZ names cls hcls hnames (fun x hx => h x (by simp [Bundle.messageArmAtoms, hx]))
  obtain ⟨Zs, LZs, hn4, hfitv, hfitc⟩ := StringT.of_atoms (args := args) (fun x hx => h x (by simp [Bundle.messageArmAtoms, hx]))
  have hfound : s.vm.findClass cls = some P1.m.cls := findClass_of_methodNamed hP1m
  obtain ⟨c1, kX, hc1, hk, hord, -, -, hn6⟩ := Cond.instantiable_spec (a (.instantiable cls 6) (by simp [Bundle.messageArmAtoms]))
  cases Option.some.inj (hc1.symm.trans hfound)
  have hinit := Cond.initialized_spec hfound hk (a (.initialized cls) (by simp [Bundle.messageArmAtoms]))
  have hctor : kX.findMethod "<init>" "(Ljava/lang/String;)V" = some P1.m.idx := findMethod_of_methodNamed hP1m hk
  have hsel0 : selectMethod e.platform s.vm P1.m.cls T.fill0 = .method T.fill0 := by
    obtain ⟨c2, r2, m2, q1, q2, q3, q4, -⟩ := Cond.selects_spec (a (.selects cls Bundle.tFill0 Bundle.tFill0) (by simp [Bundle.messageArmAtoms]))
    cases Option.some.inj (q1.symm.trans hfound)
    cases Option.some.inj (q2.symm.trans (State.methodFound?_of_named Y.fill0 (by decide)))
    cases Option.some.inj (q3.symm.trans Y.fill0)
    rw [Launch.admits_selectMethod X.admits]; exact q4
  have hselF : selectMethod e.platform s.vm P1.m.cls T.fill = .method T.fill := by
    obtain ⟨c2, r2, m2, q1, q2, q3, q4, -⟩ := Cond.selects_spec (a (.selects cls Bundle.tFill Bundle.tFill) (by simp [Bundle.messageArmAtoms]))
    cases Option.some.inj (q1.symm.trans hfound)
    cases Option.some.inj (q2.symm.trans (State.methodFound?_of_named Y.fill (by decide)))
    cases Option.some.inj (q3.symm.trans Y.fill)
    rw [Launch.admits_selectMethod X.admits]; exact q4
  obtain ⟨cellS0, hcS0, hiss⟩ := Y.statics
  obtain ⟨u0, hu0⟩ := Cond.staticRefV Y.unassigned L.unassignedStatic L.statics hcS0 hiss (a (.isRef (.static Bundle.tN "UNASSIGNED_STACK" Bundle.steD)) (by simp [Bundle.messageArmAtoms]))
  obtain ⟨sen, hsen⟩ := Cond.staticRefV Y.sentinel L.sentinelStatic L.statics hcS0 hiss (a (.isRef (.static Bundle.tN "SUPPRESSED_SENTINEL" Bundle.listD)) (by simp [Bundle.messageArmAtoms]))
  obtain ⟨ci198, i198, fB, hk198, hg198, ha198, hsB, -, hnB, htB, hffB⟩ := Cond.ownField (t := .object "java/lang/Object") Y.found L.cls (by decide +kernel) (a (.fieldLink Bundle.tN 198 Bundle.tN "backtrace" "Ljava/lang/Object;") (by simp [Bundle.messageArmAtoms])) (a (.lays Bundle.tN Bundle.tN "backtrace" "Ljava/lang/Object;") (by simp [Bundle.messageArmAtoms])) e.platform hpl
  obtain ⟨cellS, hcS', heS, -, hkeep⟩ := X.same.2.2.2.2.2 T.aS cellS0 hcS0
  have hcellS : W.heap[T.aS]? = some cellS := hcS'
  have hout' : ∀ i, (⟨T.aS, i⟩ : Loc) ∉ locs := fun i hmem => by
    have := hlocs _ hmem cellS0 hcS0
    rw [hiss] at this; cases this
  have hknownS : cellS.vm ≠ .unknown := by
    rw [heS]; intro hu
    rw [show cellS0.vm = .unknown from hu] at hiss
    cases hiss
  have hvU : cellS.slots[T.fUnassigned.slot]? = some u0.v := by rw [hkeep _ (hout' _)]; exact hu0
  have hvSen : cellS.slots[T.fSentinel.slot]? = some sen.v := by rw [hkeep _ (hout' _)]; exact hsen
  obtain ⟨iM, hffM⟩ := Y.msg
  obtain ⟨tyC, dC, hdC, hdnC⟩ := Cond.laysAt hfound hk Y.cause (a (.lays cls Bundle.tN "cause" "Ljava/lang/Throwable;") (by simp [Bundle.messageArmAtoms]))
  obtain ⟨tyS, dS, hdS, hdnS⟩ := Cond.laysAt hfound hk Y.stack (a (.lays cls Bundle.tN "stackTrace" Bundle.steD) (by simp [Bundle.messageArmAtoms]))
  obtain ⟨tyP, dP, hdP, hdnP⟩ := Cond.laysAt hfound hk Y.supp (a (.lays cls Bundle.tN "suppressedExceptions" Bundle.listD) (by simp [Bundle.messageArmAtoms]))
  obtain ⟨tyM, dM, hdM, hdnM⟩ := Cond.laysAt hfound hk hffM (a (.lays cls Bundle.tN "detailMessage" "Ljava/lang/String;") (by simp [Bundle.messageArmAtoms]))
  obtain ⟨tyB, dB, hdB, hdnB⟩ := Cond.laysAt hfound hk hffB (a (.lays cls Bundle.tN "backtrace" "Ljava/lang/Object;") (by simp [Bundle.messageArmAtoms]))
  have bC := Cond.laysApart hdB hdC hdnB hdnC (by rw [hnB, Y.causeName]; decide)
  have bS := Cond.laysApart hdB hdS hdnB hdnS (by rw [hnB, Y.stackName]; decide)
  have bP := Cond.laysApart hdB hdP hdnB hdnP (by rw [hnB, Y.suppName]; decide)
  have hbk : ((preparedCellV T.toThrowableT (freshCell P1.m.cls kX) (W.heap.size + 2) u0 sen).withEntry W.cur).slots[fB.slot]? = some .null := by
    have := fresh_default (c := P1.m.cls) tyB
    rw [htB] at this
    simpa [preparedCellV, Cell.setSlot, Cell.withEntry, Array.getElem?_setIfInBounds, bC, bS, bP, bC.symm, bS.symm, bP.symm, defaultValue] using this
  have tkC := Takes.of_laid (v := .ref (W.heap.size + 2)) hk hord tyC (by rw [Y.causeType]; rfl)
  have tkS := Takes.of_laid (v := u0.v) hk hord tyS (by rw [Y.stackType]; exact fits_refV_array _ u0)
  have tkP := Takes.of_laid (v := sen.v) hk hord tyP (by rw [Y.suppType]; exact fits_refV_object _ sen)
  have tkM := Takes.of_laid (v := .ref (W.heap.size + 1)) hk hord tyM (by rw [Y.msgType]; rfl)
  have hskip : SkipFacts T e.platform s (fun u => u) u0 ((preparedCellV T.toThrowableT (freshCell P1.m.cls kX) (W.heap.size + 2) u0 sen).withEntry W.cur) := ⟨{ ci198 := ci198, i198 := i198, fBack := fB }, ⟨hk198, hg198, ha198, hsB⟩, hbk, fun _ _ => rfl⟩
  have h0 : At W g.method c below := by rw [hg]; exact X.here
  obtain ⟨hbeyond, hfreeW⟩ := X.vmMayThrow hsize (.throwNew cls (some text) none) (fun f hf => by cases hf) rfl hRlocals
  have hfr' : W.frames.length + Ps.length + 4 < (e.platform.stackLimits W.me).1 := by have := X.framesAbove hRframes; omega
  have hwd' : (stackUse (.java g :: W.frames.tail)).2 + 13 * Ps.length + 55 ≤ (e.platform.stackLimits W.me).2 := by have := X.stackAbove hsize (K := 13 * Ps.length + 55) (by omega); omega
  have hslots : W.slotsUsed + (stringBytes (stringToUtf16 text)).size + Zs.kS.instanceTypes.size + kX.instanceTypes.size ≤ e.platform.maxSlots := by
    have := X.slotsAbove hRslots
    rw [hn4, hn6]
    omega
  obtain ⟨vm', hW', st⟩ := Steps.vmThrowsMessageColdByV p (s₀ := s) (S := W) (g := g) h0 hexec T L Z LZ M LM X.warmed (t := W.cur) rfl Zs LZs P1 L1 Ps hL hlink1 hlink hsoe hoom hfound hk hinit hord hctor
    (Launch.admits_hotImplicitExceptions X.admits) hbeyond hfreeW htext hlimit hheap (X.cellsAbove hRcells) hslots (hfitv _) (hfitc _)
    (Nn := fun u => u) heapOnly_id (fun _ _ => rfl) (fun _ => rfl) (fun u x y => setCell_twice _ _ _ _) (fun _ => Nat.le_refl _) (cN := ((preparedCellV T.toThrowableT (freshCell P1.m.cls kX) (W.heap.size + 2) u0 sen).withEntry W.cur))
    hsel0 hcellS hknownS hvU tkS (fun _ hu => hu) (fun _ hu => hu) rfl rfl rfl (by simp [preparedCellV, Cell.setSlot, Cell.withEntry]) hskip (fun _ _ hA hW _ hroom _ hrest => L.nativeOff p htr hA hW hroom hrest) hselF hvSen tkC tkP tkM Y.objLocals rfl hfr' hwd'
  rw [plainBareV_eq T.toThrowableT (W.heap.size + 2) u0 sen (.ref (W.heap.size + 1)) W.cur rfl rfl] at st
  obtain ⟨-, -, w3, w4, -, -, -⟩ := withThrown_facts e.platform W Zs text P1.m.cls kX
  have X3 := ((X.pushed (bytesOf Zs.cB (stringToUtf16 text))).pushed (stringAt Zs.cS Zs.kS Zs.fv Zs.fc (stringToUtf16 text) W.heap.size)).pushed (freshCell P1.m.cls kX)
  rw [← withString_eq] at X3
  have X4 := X3.noted hW'
  have ha : (W.heap.size + 2) < ((withThrown W Zs text P1.m.cls kX).setVm vm').heap.size := by show _ < (withThrown W Zs text P1.m.cls kX).heap.size; rw [w3]; omega
  have hcell : ((withThrown W Zs text P1.m.cls kX).setVm vm').heap[(W.heap.size + 2)]? = some (freshCell P1.m.cls kX) := w4
  have X5 := ((((X4.stored hcell T.fCause.slot (.ref (W.heap.size + 2))).storedAgain ha T.fStack.slot u0.v).storedAgain ha T.fSupp.slot sen.v).storedAgain ha T.fStack.slot u0.v).storedAgain ha T.fMsg.slot (.ref (W.heap.size + 1))
  obtain ⟨g₁, hfrM⟩ := X5.frames_eq
  have hU : ((((withThrown W Zs text P1.m.cls kX).setVm vm').setCell (W.heap.size + 2) (plainBareV T.toThrowableT (freshCell P1.m.cls kX) (W.heap.size + 2) u0 sen (.ref (W.heap.size + 1)))).setTop g).pushFrame (.throwing (W.heap.size + 2)) = (((withThrown W Zs text P1.m.cls kX).setVm vm').setCell (W.heap.size + 2) (plainBareV T.toThrowableT (freshCell P1.m.cls kX) (W.heap.size + 2) u0 sen (.ref (W.heap.size + 1)))).setFrames (.throwing (W.heap.size + 2) :: .java g :: below) := by
    rw [State.pushFrame, State.frames_setTop _ hfrM, State.setTop_of_frames _ hfrM, State.setFrames_setFrames]
  have b1 : (bytesOf Zs.cB (stringToUtf16 text)).slots.size = (stringBytes (stringToUtf16 text)).size := by
    rw [(Cell.writeAll_facts _ _).2.2]; simp [bytes0]
  have b2 : (stringAt Zs.cS Zs.kS Zs.fv Zs.fc (stringToUtf16 text) W.heap.size).slots.size = 4 := by simp [string0, Cell.setSlot, hn4]
  have b3 : (freshCell P1.m.cls kX).slots.size = 6 := by simp [hn6]
  rw [b1, b2, b3] at X5
  have e9 : slots + (stringBytes (stringToUtf16 text)).size + 4 + 6 = slots + ((stringBytes (stringToUtf16 text)).size + 4 + 6) := by omega
  rw [e9] at X5
  simp only [List.append_assoc, List.cons_append, List.nil_append] at X5
  refine ⟨((withThrown W Zs text P1.m.cls kX).setVm vm').setCell (W.heap.size + 2) (plainBareV T.toThrowableT (freshCell P1.m.cls kX) (W.heap.size + 2) u0 sen (.ref (W.heap.size + 1))), W.heap.size + 2, _, fun target ht => st _ (by rw [X.tail, ← hU]; exact ht),
    X5.forget (fun y hy => ?_), heapAt_setCell_self _ ha, hfound, rfl⟩
  simp only [List.mem_cons, List.not_mem_nil, or_false] at hy
  have hge : s.heap.size ≤ W.heap.size := X.same.2.1
  rcases hy with rfl | rfl | rfl | rfl | rfl <;> exact Nat.le_trans hge (Nat.le_add_right _ 2)
set_option maxHeartbeats 1000000 in
/-- the machine throws NullPointerException, no traces kept: from its note over the frame g to 'throwing' over the same frame (follows the proof of Stand.vmThrowsNpe, Shelf42/KT2.lean; throwsNpeColdBareVAt, Shelf42/NT91.lean, called) -/
theorem vx_npeAt {p : Program} {l : Launch} {e : Env} {R : Room} {s : State} {m₀ : MethodId} {args : Array Value} {below : List Frame} {meth : Method} {c : Code} {W : State} {locs : List Loc} {cells slots : Nat}
    (X : Stand p l e R s m₀ args below meth c W locs cells slots) (hexec : p.tables.exec = Jvm.exec) (htr : e.platform.stackTraces = false) {n : Nat}
    (h : ∀ a ∈ Bundle.npeArmAtoms n, a.before args s = true)
    (hlocs : ∀ x ∈ locs, ∀ cell, s.heap[x.base]? = some cell → cell.vm.isStatics = false)
    {g : JFrame} (hg : g.method = m₀) (hsize : g.locals.size = c.maxLocals)
    (hRframes : 7 < R.frames) (hRlocals : 2 * g.monitorRoom + (g.stack.map fun v => v.category).sum + 10240 ≤ R.locals)
    (hRcells : cells + 1 ≤ R.cells) (hRslots : slots + n ≤ R.slots) (hlocks : meth.locks = false) :
    ∃ (S : State) (q : Addr) (ce : Cell), (∀ target, Steps p.tables e below ((S.setTop g).pushFrame (.throwing q)) target → Steps p.tables e below ((W.setTop g).pushFrame (.throwNew "java/lang/NullPointerException" none none)) target) ∧
      Stand p l e R s m₀ args below meth c S locs (cells + 1) (slots + n) ∧ S.heap[q]? = some ce ∧ s.vm.findClass "java/lang/NullPointerException" = some ce.cls ∧ ce.vm = .none := by
  have howns : e.platform.frameOwnsMonitors = true := by rw [X.admits.platform]
  have hfin : e.platform.finalization = false := by rw [X.admits.platform]
  have hpl : e.platform.magicAccessors = ({} : Platform).magicAccessors := by rw [X.admits.platform]
  have hpl2 : e.platform.arrayCloneIsPublic = true := by rw [X.admits.platform]
  have a' : ∀ x, x ∈ Bundle.npeArmAtoms n → x.holds args s none s [] = true := fun x hx => h x hx
  obtain ⟨T, Z, L, LZ, Y⟩ := ThrowableC.of_atoms (args := args) howns hfin hpl (fun x hx => h x (by simp [Bundle.npeArmAtoms, hx]))
  obtain ⟨N, LN, hcN, hnNF, hordN, hffS⟩ := NpeC.of_atoms (args := args) hpl hpl2 L Y (fun x hx => h x (by simp [Bundle.npeArmAtoms, hx]))
  obtain ⟨P1, L1, hP1m, hP1s⟩ := PassC.of_atoms (args := args) (s := s) hpl (X := Bundle.nN) (Y := Bundle.rN) (by decide) (by decide) LibCode.NullPointerException.Init0.at_0 LibCode.NullPointerException.Init0.at_1 LibCode.NullPointerException.Init0.at_4 (fun x hx => h x (by simp [Bundle.npeArmAtoms, hx]))
  obtain ⟨PR, LR, hPRm, hPRs⟩ := PassC.of_atoms (args := args) (s := s) hpl (X := Bundle.rN) (Y := Bundle.eN) (by decide) (by decide) LibCode.RuntimeException.Init0.at_0 LibCode.RuntimeException.Init0.at_1 LibCode.RuntimeException.Init0.at_4 (fun x hx => h x (by simp [Bundle.npeArmAtoms, hx]))
  obtain ⟨PE, LEx, hPEm, hPEs⟩ := PassC.of_atoms (args := args) (s := s) hpl (X := Bundle.eN) (Y := Bundle.tN) (by decide) (by decide) LibCode.Exception.Init0.at_0 LibCode.Exception.Init0.at_1 LibCode.Exception.Init0.at_4 (fun x hx => h x (by simp [Bundle.npeArmAtoms, hx]))
  have hfound : s.vm.findClass Bundle.nN = some P1.m.cls := findClass_of_methodNamed hP1m
  have ecls : N.cN = P1.m.cls := Option.some.inj (hcN.symm.trans hfound)
  have hk : s.vm.classes[P1.m.cls]? = some N.kN := by rw [← ecls]; exact LN.cls
  have hinit := Cond.initialized_spec hfound hk (a' (.initialized Bundle.nN) (by simp [Bundle.npeArmAtoms]))
  have hctor : N.kN.findMethod "<init>" "()V" = some P1.m.idx := findMethod_of_methodNamed hP1m hk
  obtain ⟨c1, k1, hc1, hk1, -, -, -, hn⟩ := Cond.instantiable_spec (a' (.instantiable Bundle.nN n) (by simp [Bundle.npeArmAtoms]))
  cases Option.some.inj (hc1.symm.trans hfound)
  cases Option.some.inj (hk1.symm.trans hk)
  have hfsz : (freshCell P1.m.cls N.kN).slots.size = n := by simp [hn]
  have hlink1 : P1.sup = PR.m := Option.some.inj (hP1s.symm.trans hPRm)
  have hlinkR : PR.sup = PE.m := Option.some.inj (hPRs.symm.trans hPEm)
  have hlinkE : PE.sup = Z.m T.toThrowableT := Option.some.inj (hPEs.symm.trans Y.init0)
  have hLs : ∀ P, P ∈ [PR, PE] → P.Links0 e.platform s := fun P hP => by
    simp only [List.mem_cons, List.not_mem_nil, or_false] at hP
    rcases hP with rfl | rfl
    · exact LR
    · exact LEx
  have hsel0 : selectMethod e.platform s.vm P1.m.cls T.fill0 = .method T.fill0 := by
    obtain ⟨c2, r2, m2, q1, q2, q3, q4, -⟩ := Cond.selects_spec (a' (.selects Bundle.nN Bundle.tFill0 Bundle.tFill0) (by simp [Bundle.npeArmAtoms]))
    cases Option.some.inj (q1.symm.trans hfound)
    cases Option.some.inj (q2.symm.trans (State.methodFound?_of_named Y.fill0 (by decide)))
    cases Option.some.inj (q3.symm.trans Y.fill0)
    rw [Launch.admits_selectMethod X.admits]; exact q4
  have hselF : selectMethod e.platform s.vm P1.m.cls T.fill = .method N.fill := by
    obtain ⟨c2, r2, m2, q1, q2, q3, q4, -⟩ := Cond.selects_spec (a' (.selects Bundle.nN Bundle.tFill Bundle.nFill) (by simp [Bundle.npeArmAtoms]))
    cases Option.some.inj (q1.symm.trans hfound)
    cases Option.some.inj (q2.symm.trans (State.methodFound?_of_named Y.fill (by decide)))
    cases Option.some.inj (q3.symm.trans hnNF)
    rw [Launch.admits_selectMethod X.admits]; exact q4
  obtain ⟨cellS0, hcS0, hiss⟩ := Y.statics
  obtain ⟨u0, hu0⟩ := Cond.staticRefV Y.unassigned L.unassignedStatic L.statics hcS0 hiss (a' (.isRef (.static Bundle.tN "UNASSIGNED_STACK" Bundle.steD)) (by simp [Bundle.npeArmAtoms]))
  obtain ⟨sen, hsen⟩ := Cond.staticRefV Y.sentinel L.sentinelStatic L.statics hcS0 hiss (a' (.isRef (.static Bundle.tN "SUPPRESSED_SENTINEL" Bundle.listD)) (by simp [Bundle.npeArmAtoms]))
  obtain ⟨ci198, i198, fB, hk198, hg198, ha198, hsB, -, hnB, htB, hffB⟩ := Cond.ownField (t := .object "java/lang/Object") Y.found L.cls (by decide +kernel) (a' (.fieldLink Bundle.tN 198 Bundle.tN "backtrace" Bundle.objD) (by simp [Bundle.npeArmAtoms])) (a' (.lays Bundle.tN Bundle.tN "backtrace" Bundle.objD) (by simp [Bundle.npeArmAtoms])) e.platform hpl
  obtain ⟨cellS, hcS', heS, -, hkeep⟩ := X.same.2.2.2.2.2 T.aS cellS0 hcS0
  have hcellS : W.heap[T.aS]? = some cellS := hcS'
  have hout' : ∀ i, (⟨T.aS, i⟩ : Loc) ∉ locs := fun i hmem => by
    have := hlocs _ hmem cellS0 hcS0
    rw [hiss] at this; cases this
  have hknownS : cellS.vm ≠ .unknown := by
    rw [heS]; intro hu
    rw [show cellS0.vm = .unknown from hu] at hiss
    cases hiss
  have hvU : cellS.slots[T.fUnassigned.slot]? = some u0.v := by rw [hkeep _ (hout' _)]; exact hu0
  have hvSen : cellS.slots[T.fSentinel.slot]? = some sen.v := by rw [hkeep _ (hout' _)]; exact hsen
  obtain ⟨tyC, dC, hdC, hdnC⟩ := Cond.laysAt hfound hk Y.cause (a' (.lays Bundle.nN Bundle.tN "cause" "Ljava/lang/Throwable;") (by simp [Bundle.npeArmAtoms]))
  obtain ⟨tyS, dS, hdS, hdnS⟩ := Cond.laysAt hfound hk Y.stack (a' (.lays Bundle.nN Bundle.tN "stackTrace" Bundle.steD) (by simp [Bundle.npeArmAtoms]))
  obtain ⟨tyP, dP, hdP, hdnP⟩ := Cond.laysAt hfound hk Y.supp (a' (.lays Bundle.nN Bundle.tN "suppressedExceptions" Bundle.listD) (by simp [Bundle.npeArmAtoms]))
  obtain ⟨tyX, dX, hdX, hdnX⟩ := Cond.laysAt hfound hk hffS (a' (.lays Bundle.nN Bundle.nN "extendedMessageState" "I") (by simp [Bundle.npeArmAtoms, Bundle.npeAtoms]))
  obtain ⟨hnX, htX⟩ := State.fieldFound?_type hffS (t := .int) (by decide +kernel)
  have xC := Cond.laysApart hdC hdX hdnC hdnX (by rw [hnX, Y.causeName]; decide)
  have xS := Cond.laysApart hdS hdX hdnS hdnX (by rw [hnX, Y.stackName]; decide)
  have xP := Cond.laysApart hdP hdX hdnP hdnX (by rw [hnX, Y.suppName]; decide)
  have hv0 : (freshCell P1.m.cls N.kN).slots[N.fState.slot]? = some (.int 0) := by
    have := fresh_default (c := P1.m.cls) tyX
    rw [htX] at this; exact this
  obtain ⟨tyB, dB, hdB, hdnB⟩ := Cond.laysAt hfound hk hffB (a' (.lays Bundle.nN Bundle.tN "backtrace" Bundle.objD) (by simp [Bundle.npeArmAtoms]))
  have bC := Cond.laysApart hdB hdC hdnB hdnC (by rw [hnB, Y.causeName]; decide)
  have bS := Cond.laysApart hdB hdS hdnB hdnS (by rw [hnB, Y.stackName]; decide)
  have bP := Cond.laysApart hdB hdP hdnB hdnP (by rw [hnB, Y.suppName]; decide)
  have bX := Cond.laysApart hdB hdX hdnB hdnX (by rw [hnB, hnX]; decide)
  have hbk : ((npeCell N.toNpeT (preparedCellV T.toThrowableT (freshCell P1.m.cls N.kN) W.heap.size u0 sen) W.cur).withEntry W.cur).slots[fB.slot]? = some .null := by
    have := fresh_default (c := P1.m.cls) tyB
    rw [htB] at this
    simpa [npeCell, preparedCellV, Cell.setSlot, Cell.withEntry, Array.getElem?_setIfInBounds, bC, bS, bP, bX, bC.symm, bS.symm, bP.symm, bX.symm, defaultValue] using this
  have tkC := Takes.of_laid (v := .ref W.heap.size) hk hordN tyC (by rw [Y.causeType]; rfl)
  have tkS := Takes.of_laid (v := u0.v) hk hordN tyS (by rw [Y.stackType]; exact fits_refV_array _ u0)
  have tkP := Takes.of_laid (v := sen.v) hk hordN tyP (by rw [Y.suppType]; exact fits_refV_object _ sen)
  have tkX := Takes.of_laid (v := .int 1) hk hordN tyX (by rw [htX]; rfl)
  have hskip : SkipFacts T e.platform s (fun u => u) u0 ((npeCell N.toNpeT (preparedCellV T.toThrowableT (freshCell P1.m.cls N.kN) W.heap.size u0 sen) W.cur).withEntry W.cur) := ⟨{ ci198 := ci198, i198 := i198, fBack := fB }, ⟨hk198, hg198, ha198, hsB⟩, hbk, fun _ _ => rfl⟩
  obtain ⟨vm', X3, st, -⟩ := X.throwsNpeColdBareVAt hexec hg hsize T L Z LZ N LN P1 L1 [PR, PE] hLs hlink1 ⟨hlinkR, hlinkE, trivial⟩ hfound hk hinit hordN hctor hsel0 hselF hcellS hknownS hvU hvSen
    hv0 xC xS xP tkC tkS tkP tkX Y.objLocals hskip (fun _ _ hA hW _ hroom _ hrest => L.nativeOff p htr hA hW hroom hrest) (by simpa using hRframes) hRlocals (by simp) hRcells (by rw [hn]; exact hRslots)
  have hlt : W.heap.size < ((W.pushCell (freshCell P1.m.cls N.kN)).setVm vm').heap.size := by
    show W.heap.size < (W.pushCell (freshCell P1.m.cls N.kN)).heap.size
    rw [State.heap_size_pushCell]; omega
  rw [hfsz] at X3
  obtain ⟨g₁, hfrM⟩ := X3.frames_eq
  have hU : ((((W.pushCell (freshCell P1.m.cls N.kN)).setVm vm').setCell W.heap.size (npeBareV T.toThrowableT N.toNpeT (freshCell P1.m.cls N.kN) W.heap.size u0 sen)).setTop g).pushFrame (.throwing W.heap.size) = (((W.pushCell (freshCell P1.m.cls N.kN)).setVm vm').setCell W.heap.size (npeBareV T.toThrowableT N.toNpeT (freshCell P1.m.cls N.kN) W.heap.size u0 sen)).setFrames (.throwing W.heap.size :: .java g :: below) := by
    rw [State.pushFrame, State.frames_setTop _ hfrM, State.setTop_of_frames _ hfrM, State.setFrames_setFrames]
  refine ⟨_, W.heap.size, _, fun target ht => st.trans (by rw [← hU]; exact ht), X3.forget (fun y hy => ?_), heapAt_setCell_self _ hlt, hfound, rfl⟩
  simp only [List.mem_cons, List.not_mem_nil, or_false] at hy
  have hge : s.heap.size ≤ W.heap.size := X.same.2.1
  rcases hy with rfl | rfl | rfl | rfl | rfl <;> exact hge
/-- the words of a machine's NullPointerException, but the four that speak of the heap -/
def vx_atN (n : Nat) : List Cond := (Bundle.npeArmAtoms n).filter vx_no
/-- the words of a machine's throw with a message, but the four that speak of the heap -/
def vx_atM (X : String) (names : List String) : List Cond := (Bundle.messageArmAtoms X names).filter vx_no
section
variable {p : Program} {l : Launch} {e : Env} {R : Room} {s : State} {m : MethodId} {args : Array Value} {below : List Frame} {meth : Method} {c : Code} {H : Heap} {locs : List Loc} {cells slots : Nat}
/-- a frame seen from a rebased start, seen from the first start again -/
theorem vx_back9 {T S : State} {R' : Room} {k n : Nat} (X : Stand p l e R s m args below meth c T locs cells slots) (Y : Stand p l e R' ((T.setVm s.vm).setFrames (.invoking m args :: below)) m args below meth c T [] 0 0) (Z : Stand p l e R' ((T.setVm s.vm).setFrames (.invoking m args :: below)) m args below meth c S [] k n) :
    Stand p l e R s m args below meth c S locs (cells + k) (slots + n) := by
  have hW0 : s.WarmedH ((T.setVm s.vm).setFrames (.invoking m args :: below)).vm := State.WarmedH.refl s
  refine { admits := X.admits, cas := X.cas, clock := X.clock, frames := X.frames, room := X.room, hears := X.hears, method := X.method, code := X.code, here := Z.here, tail := Z.tail, warmed := State.WarmedH.trans hW0 Z.warmed, limits := Z.limits.trans (Y.limits.symm.trans X.limits), bytes := Z.bytes.trans (Y.bytes.symm.trans X.bytes), same := ?_ }
  obtain ⟨e1, e2⟩ := Z.same
  rw [State.setFrames_setFrames] at e1
  have h2 : (T.setVm s.vm).sameButNew (S.setVm s.vm) [] k n := ⟨e1, e2⟩
  have h3 := X.same.trans h2
  rw [List.append_nil] at h3
  exact h3
/-- from the machine's note that E is thrown here with this text -/
def vx_Note (p : Program) (l : Launch) (e : Env) (R : Room) (s : State) (m : MethodId) (args : Array Value) (below : List Frame) (meth : Method) (c : Code) (H : Heap) (locs : List Loc) (cells slots : Nat) (Q : State → Prop) (g : JFrame) (E text : String) : Prop :=
  ∀ T : State, T.heap = H → Stand p l e R s m args below meth c T locs cells slots → ∃ t, Steps p.tables e below ((T.setTop g).pushFrame (.throwNew E (some text) none)) t ∧ Q t
theorem vx_vm {pc : Nat} {ls : Array Slot} {rest : List Value} {Q : State → Prop} (hexec : p.tables.exec = Jvm.exec) (hl : l.stackTraces = false) {cls text : String} {names : List String} {nb : Nat} {A : Nat → Prop}
    (hcls : Bundle.fit cls = true) (hnames : ∀ n ∈ names, Bundle.fit n = true) (hsoe : (cls == "java/lang/StackOverflowError") = false) (hoom : (cls == "java/lang/OutOfMemoryError") = false)
    (hat : ∀ w ∈ vx_atM cls names, w.before args s = true) (hgood : ∀ w ∈ vx_atM cls names, vx_ot w = true)
    (hU : vx_Zq Bundle.tN "UNASSIGNED_STACK" Bundle.steD A s s.heap) (hN : vx_Zq Bundle.tN "SUPPRESSED_SENTINEL" Bundle.listD A s s.heap) (hS : va_S A s.heap H locs) (hsize : ls.size = c.maxLocals)
    (htext : (text == notModelled) = false) (hnb : (stringBytes (stringToUtf16 text)).size ≤ nb) (hnb1 : nb ≤ 1000)
    (hRframes : names.length + 4 < R.frames) (hRlocals : (rest.map fun v => v.category).sum + 10240 ≤ R.locals) (hshort : 13 * names.length + 55 ≤ 10240) (hRcells : cells + 3 ≤ R.cells) (hRslots : slots + (nb + 10) ≤ R.slots) (hlocks : meth.locks = false)
    (k : ∀ (H1 : Heap) (q9 : Addr) (ce : Cell), H.size ≤ H1.size → (∀ q : Nat, q < H.size → H1[q]? = H[q]?) → va_S A s.heap H1 locs → H1[q9]? = some ce → ce.vm = .none → s.vm.findClass cls = some ce.cls → vx_W p l e R s m args below meth c H1 locs (cells + 3) (slots + (nb + 10)) Q (F0 m pc ls rest) q9) :
    vx_Note p l e R s m args below meth c H locs cells slots Q (F0 m pc ls rest) cls text := by
  intro T hT X
  have htr : e.platform.stackTraces = false := (show e.platform.stackTraces = l.stackTraces by rw [X.admits.platform]).trans hl
  have Y := vx_rebase X (R' := { frames := R.frames, locals := R.locals, cells := 3, slots := nb + 10 }) (Nat.le_refl _) (Nat.le_refl _) hRcells hRslots
  have hhp : ((T.setVm s.vm).setFrames (.invoking m args :: below)).heap = H := hT
  have hW0 : s.WarmedH ((T.setVm s.vm).setFrames (.invoking m args :: below)).vm := State.WarmedH.refl s
  have hat' : ∀ w ∈ vx_atM cls names, w.before args ((T.setVm s.vm).setFrames (.invoking m args :: below)) = true := fun w hw => vx_ot_at hW0 rfl (hgood w hw) (hat w hw)
  have hU' : vx_Zq Bundle.tN "UNASSIGNED_STACK" Bundle.steD A ((T.setVm s.vm).setFrames (.invoking m args :: below)) ((T.setVm s.vm).setFrames (.invoking m args :: below)).heap := by rw [hhp]; exact vx_Zq.moved hW0.alike (hU.kept hS.2.1)
  have hN' : vx_Zq Bundle.tN "SUPPRESSED_SENTINEL" Bundle.listD A ((T.setVm s.vm).setFrames (.invoking m args :: below)) ((T.setVm s.vm).setFrames (.invoking m args :: below)).heap := by rw [hhp]; exact vx_Zq.moved hW0.alike (hN.kept hS.2.1)
  obtain ⟨S, q, ce, st, Z, hce, hcl', hv⟩ := vx_vmAt Y hexec htr (cls := cls) (names := names) (text := text) hcls hnames hsoe hoom (vx_own hat' (vx_isRefq hU'.1) (vx_isRefq hN'.1) hU'.2.word hN'.2.word) (fun x hx => nomatch hx) htext
    (by rw [Launch.admits_arrayLengthLimit X.admits]; omega) (by rw [Launch.admits_maxHeapBytes X.admits]; simp only [componentBytes]; omega)
    (g := F0 m pc ls rest) rfl hsize hRframes (by show 2 * 0 + (rest.map fun v => v.category).sum + 10240 ≤ R.locals; omega) hshort (by show 0 + 3 ≤ 3; omega) (by show 0 + (_ + 4 + 6) ≤ nb + 10; omega) hlocks
  obtain ⟨f1, f2⟩ := vx_frame Z.same
  have f1' : H.size ≤ S.heap.size := by rw [← hT]; exact f1
  have f2' : ∀ q : Nat, q < H.size → S.heap[q]? = H[q]? := fun q hq => by
    rw [← hT]
    exact f2 q (by rw [← hT] at hq; exact hq) (fun z hz => nomatch hz)
  have X5 := vx_back9 X Y Z
  have X6 : Stand p l e R s m args below meth c S locs (cells + 3) (slots + (nb + 10)) := { X5 with same := X5.same.mono (by omega) (by omega) }
  obtain ⟨t, a1, b1⟩ := k S.heap q ce f1' f2' ⟨Nat.le_trans hS.1 f1', fun q h1 h2 => (f2' q (Nat.lt_of_lt_of_le h1 hS.1)).trans (hS.2.1 q h1 h2), hS.2.2⟩ hce hv hcl' S rfl X6
  exact ⟨t, st t a1, b1⟩
/-- from the machine's note that NullPointerException is thrown here -/
def vx_NoteN (p : Program) (l : Launch) (e : Env) (R : Room) (s : State) (m : MethodId) (args : Array Value) (below : List Frame) (meth : Method) (c : Code) (H : Heap) (locs : List Loc) (cells slots : Nat) (Q : State → Prop) (g : JFrame) : Prop :=
  ∀ T : State, T.heap = H → Stand p l e R s m args below meth c T locs cells slots → ∃ t, Steps p.tables e below ((T.setTop g).pushFrame (.throwNew "java/lang/NullPointerException" none none)) t ∧ Q t
theorem vx_npe {pc : Nat} {ls : Array Slot} {rest : List Value} {Q : State → Prop} (hexec : p.tables.exec = Jvm.exec) (hl : l.stackTraces = false) {nb : Nat} {A : Nat → Prop}
    (hat : ∀ w ∈ vx_atN nb, w.before args s = true) (hgood : ∀ w ∈ vx_atN nb, vx_ot w = true)
    (hU : vx_Zq Bundle.tN "UNASSIGNED_STACK" Bundle.steD A s s.heap) (hN : vx_Zq Bundle.tN "SUPPRESSED_SENTINEL" Bundle.listD A s s.heap) (hS : va_S A s.heap H locs) (hsize : ls.size = c.maxLocals)
    (hRframes : 7 < R.frames) (hRlocals : (rest.map fun v => v.category).sum + 10240 ≤ R.locals) (hRcells : cells + 1 ≤ R.cells) (hRslots : slots + nb ≤ R.slots) (hlocks : meth.locks = false)
    (k : ∀ (H1 : Heap) (q9 : Addr) (ce : Cell), H.size ≤ H1.size → (∀ q : Nat, q < H.size → H1[q]? = H[q]?) → va_S A s.heap H1 locs → H1[q9]? = some ce → ce.vm = .none → s.vm.findClass "java/lang/NullPointerException" = some ce.cls → vx_W p l e R s m args below meth c H1 locs (cells + 1) (slots + nb) Q (F0 m pc ls rest) q9) :
    vx_NoteN p l e R s m args below meth c H locs cells slots Q (F0 m pc ls rest) := by
  intro T hT X
  have htr : e.platform.stackTraces = false := (show e.platform.stackTraces = l.stackTraces by rw [X.admits.platform]).trans hl
  have Y := vx_rebase X (R' := { frames := R.frames, locals := R.locals, cells := 1, slots := nb }) (Nat.le_refl _) (Nat.le_refl _) hRcells hRslots
  have hhp : ((T.setVm s.vm).setFrames (.invoking m args :: below)).heap = H := hT
  have hW0 : s.WarmedH ((T.setVm s.vm).setFrames (.invoking m args :: below)).vm := State.WarmedH.refl s
  have hat' : ∀ w ∈ vx_atN nb, w.before args ((T.setVm s.vm).setFrames (.invoking m args :: below)) = true := fun w hw => vx_ot_at hW0 rfl (hgood w hw) (hat w hw)
  have hU' : vx_Zq Bundle.tN "UNASSIGNED_STACK" Bundle.steD A ((T.setVm s.vm).setFrames (.invoking m args :: below)) ((T.setVm s.vm).setFrames (.invoking m args :: below)).heap := by rw [hhp]; exact vx_Zq.moved hW0.alike (hU.kept hS.2.1)
  have hN' : vx_Zq Bundle.tN "SUPPRESSED_SENTINEL" Bundle.listD A ((T.setVm s.vm).setFrames (.invoking m args :: below)) ((T.setVm s.vm).setFrames (.invoking m args :: below)).heap := by rw [hhp]; exact vx_Zq.moved hW0.alike (hN.kept hS.2.1)
  obtain ⟨S, q, ce, st, Z, hce, hcl', hv⟩ := vx_npeAt Y hexec htr (n := nb) (vx_own hat' (vx_isRefq hU'.1) (vx_isRefq hN'.1) hU'.2.word hN'.2.word) (fun x hx => nomatch hx)
    (g := F0 m pc ls rest) rfl hsize hRframes (by show 2 * 0 + (rest.map fun v => v.category).sum + 10240 ≤ R.locals; omega) (by show 0 + 1 ≤ 1; omega) (by show 0 + nb ≤ nb; omega) hlocks
  obtain ⟨f1, f2⟩ := vx_frame Z.same
  have f1' : H.size ≤ S.heap.size := by rw [← hT]; exact f1
  have f2' : ∀ q : Nat, q < H.size → S.heap[q]? = H[q]? := fun q hq => by
    rw [← hT]
    exact f2 q (by rw [← hT] at hq; exact hq) (fun z hz => nomatch hz)
  have X5 := vx_back9 X Y Z
  have X6 : Stand p l e R s m args below meth c S locs (cells + 1) (slots + nb) := { X5 with same := X5.same.mono (by omega) (by omega) }
  obtain ⟨t, a1, b1⟩ := k S.heap q ce f1' f2' ⟨Nat.le_trans hS.1 f1', fun q h1 h2 => (f2' q (Nat.lt_of_lt_of_le h1 hS.1)).trans (hS.2.1 q h1 h2), hS.2.2⟩ hce hv hcl' S rfl X6
  exact ⟨t, st t a1, b1⟩
variable {Q : State → Prop} {cc : ByteArray} {pc : Nat} {ls : Array Slot} {rest : List Value}
theorem vx_idivZ (hexec : p.tables.exec = Jvm.exec) (hb : c.code = cc) {a b : Int32} (h0 : b = 0) (d : decode cc pc = .ok (.idiv, 1)) (k : vx_Note p l e R s m args below meth c H locs cells slots Q (F0 m pc ls rest) "java/lang/ArithmeticException" "/ by zero") :
    W p l e R s m args below meth c H locs cells slots Q (F0 m pc ls (.int b :: .int a :: rest)) := by
  intro T hT X
  obtain ⟨t, st, q⟩ := k T hT X
  exact ⟨t, X.idivZero hexec (g := F0 m pc ls (.int b :: .int a :: rest)) rfl (a := a) (rest := rest) (by rw [h0]) (by rw [hb]; exact d) t st, q⟩
theorem vx_iremZ (hexec : p.tables.exec = Jvm.exec) (hb : c.code = cc) {a b : Int32} (h0 : b = 0) (d : decode cc pc = .ok (.irem, 1)) (k : vx_Note p l e R s m args below meth c H locs cells slots Q (F0 m pc ls rest) "java/lang/ArithmeticException" "/ by zero") :
    W p l e R s m args below meth c H locs cells slots Q (F0 m pc ls (.int b :: .int a :: rest)) := by
  intro T hT X
  obtain ⟨t, st, q⟩ := k T hT X
  exact ⟨t, X.iremZero hexec (g := F0 m pc ls (.int b :: .int a :: rest)) rfl (a := a) (rest := rest) (by rw [h0]) (by rw [hb]; exact d) t st, q⟩
theorem vx_ldivZ (hexec : p.tables.exec = Jvm.exec) (hb : c.code = cc) {a b : Int64} (h0 : b = 0) (d : decode cc pc = .ok (.ldiv, 1)) (k : vx_Note p l e R s m args below meth c H locs cells slots Q (F0 m pc ls rest) "java/lang/ArithmeticException" "/ by zero") :
    W p l e R s m args below meth c H locs cells slots Q (F0 m pc ls (.long b :: .long a :: rest)) := by
  intro T hT X
  obtain ⟨t, st, q⟩ := k T hT X
  exact ⟨t, X.ldivZero hexec (g := F0 m pc ls (.long b :: .long a :: rest)) rfl (a := a) (rest := rest) (by rw [h0]) (by rw [hb]; exact d) t st, q⟩
theorem vx_lremZ (hexec : p.tables.exec = Jvm.exec) (hb : c.code = cc) {a b : Int64} (h0 : b = 0) (d : decode cc pc = .ok (.lrem, 1)) (k : vx_Note p l e R s m args below meth c H locs cells slots Q (F0 m pc ls rest) "java/lang/ArithmeticException" "/ by zero") :
    W p l e R s m args below meth c H locs cells slots Q (F0 m pc ls (.long b :: .long a :: rest)) := by
  intro T hT X
  obtain ⟨t, st, q⟩ := k T hT X
  exact ⟨t, X.lremZero hexec (g := F0 m pc ls (.long b :: .long a :: rest)) rfl (a := a) (rest := rest) (by rw [h0]) (by rw [hb]; exact d) t st, q⟩
theorem vx_ialdZ {D : va_G} {cl : List vw_C} {ws : va_W} {tys : List (ClassId × FieldType)} {a : Nat} (hexec : p.tables.exec = Jvm.exec) (hb : c.code = cc) (hK : va_K D cl tys s) (hP : va_P D cl ws H) (q0 t0 : Nat) {cA : ClassId} {n : Nat} {f : Nat → Int32} (ha : ws[q0]? = some (a, .inl (cA, n, .inl f))) (ht : tys[t0]? = some (cA, .int)) {i : Int32} (hout : ¬ vp_in i n) (hdg : decode cc pc = .ok (.iaload, 1))
    (k : ∀ tx : String, tx = (toString "Index " ++ toString i ++ toString " out of bounds for length " ++ toString n : String) → vx_Note p l e R s m args below meth c H locs cells slots Q (F0 m pc ls rest) "java/lang/ArrayIndexOutOfBoundsException" tx) : W p l e R s m args below meth c H locs cells slots Q (F0 m pc ls (.int i :: .ref a :: rest)) := by
  intro T hT X
  obtain ⟨t, st, q⟩ := k _ rfl T hT X
  refine ⟨t, ?_, q⟩
  have h1 := X.ialoadOut hexec (by rw [hT]; exact hP q0 _ ha) ((hK.2 t0 _ ht).1 n (fun j => .int (f j))) (j := i) (by show (i < 0 ∨ (arrV _ _ _).slots.size ≤ _); rw [arrV_size]; exact Classical.byContradiction hout) (g := F0 m pc ls (.int i :: .ref a :: rest)) rfl (rest := rest) rfl (by rw [hb]; exact hdg) t
  simp only [arrV_size] at h1
  exact h1 st
theorem vx_iastZ {D : va_G} {cl : List vw_C} {ws : va_W} {tys : List (ClassId × FieldType)} {a : Nat} (hexec : p.tables.exec = Jvm.exec) (hb : c.code = cc) (hK : va_K D cl tys s) (hP : va_P D cl ws H) (q0 t0 : Nat) {cA : ClassId} {n : Nat} {f : Nat → Int32} (ha : ws[q0]? = some (a, .inl (cA, n, .inl f))) (ht : tys[t0]? = some (cA, .int)) {i : Int32} {x : Int32} (hout : ¬ vp_in i n) (hdg : decode cc pc = .ok (.iastore, 1))
    (k : ∀ tx : String, tx = (toString "Index " ++ toString i ++ toString " out of bounds for length " ++ toString n : String) → vx_Note p l e R s m args below meth c H locs cells slots Q (F0 m pc ls rest) "java/lang/ArrayIndexOutOfBoundsException" tx) : W p l e R s m args below meth c H locs cells slots Q (F0 m pc ls (.int x :: .int i :: .ref a :: rest)) := by
  intro T hT X
  obtain ⟨t, st, q⟩ := k _ rfl T hT X
  refine ⟨t, ?_, q⟩
  have h1 := X.iastoreOut hexec (by rw [hT]; exact hP q0 _ ha) ((hK.2 t0 _ ht).1 n (fun j => .int (f j))) (j := i) (by show (i < 0 ∨ (arrV _ _ _).slots.size ≤ _); rw [arrV_size]; exact Classical.byContradiction hout) (g := F0 m pc ls (.int x :: .int i :: .ref a :: rest)) rfl (rest := rest) rfl (by rw [hb]; exact hdg) t
  simp only [arrV_size] at h1
  exact h1 st
theorem vx_baldZ {D : va_G} {cl : List vw_C} {ws : va_W} {tys : List (ClassId × FieldType)} {a : Nat} (hexec : p.tables.exec = Jvm.exec) (hb : c.code = cc) (hK : va_K D cl tys s) (hP : va_P D cl ws H) (q0 t0 : Nat) {cA : ClassId} {n : Nat} {f : Nat → Int32} (ha : ws[q0]? = some (a, .inl (cA, n, .inl f))) (ht : tys[t0]? = some (cA, .byte)) {i : Int32} (hout : ¬ vp_in i n) (hdg : decode cc pc = .ok (.baload, 1))
    (k : ∀ tx : String, tx = (toString "Index " ++ toString i ++ toString " out of bounds for length " ++ toString n : String) → vx_Note p l e R s m args below meth c H locs cells slots Q (F0 m pc ls rest) "java/lang/ArrayIndexOutOfBoundsException" tx) : W p l e R s m args below meth c H locs cells slots Q (F0 m pc ls (.int i :: .ref a :: rest)) := by
  intro T hT X
  obtain ⟨t, st, q⟩ := k _ rfl T hT X
  refine ⟨t, ?_, q⟩
  have h1 := X.baloadOut hexec (by rw [hT]; exact hP q0 _ ha) ((hK.2 t0 _ ht).1 n (fun j => .int (f j))) (j := i) (by show (i < 0 ∨ (arrV _ _ _).slots.size ≤ _); rw [arrV_size]; exact Classical.byContradiction hout) (g := F0 m pc ls (.int i :: .ref a :: rest)) rfl (rest := rest) rfl (by rw [hb]; exact hdg) t
  simp only [arrV_size] at h1
  exact h1 st
theorem vx_bastZ {D : va_G} {cl : List vw_C} {ws : va_W} {tys : List (ClassId × FieldType)} {a : Nat} (hexec : p.tables.exec = Jvm.exec) (hb : c.code = cc) (hK : va_K D cl tys s) (hP : va_P D cl ws H) (q0 t0 : Nat) {cA : ClassId} {n : Nat} {f : Nat → Int32} (ha : ws[q0]? = some (a, .inl (cA, n, .inl f))) (ht : tys[t0]? = some (cA, .byte)) {i : Int32} {x : Int32} (hout : ¬ vp_in i n) (hdg : decode cc pc = .ok (.bastore, 1))
    (k : ∀ tx : String, tx = (toString "Index " ++ toString i ++ toString " out of bounds for length " ++ toString n : String) → vx_Note p l e R s m args below meth c H locs cells slots Q (F0 m pc ls rest) "java/lang/ArrayIndexOutOfBoundsException" tx) : W p l e R s m args below meth c H locs cells slots Q (F0 m pc ls (.int x :: .int i :: .ref a :: rest)) := by
  intro T hT X
  obtain ⟨t, st, q⟩ := k _ rfl T hT X
  refine ⟨t, ?_, q⟩
  have h1 := X.bastoreOut hexec (by rw [hT]; exact hP q0 _ ha) ((hK.2 t0 _ ht).1 n (fun j => .int (f j))) (j := i) (by show (i < 0 ∨ (arrV _ _ _).slots.size ≤ _); rw [arrV_size]; exact Classical.byContradiction hout) (g := F0 m pc ls (.int x :: .int i :: .ref a :: rest)) rfl (rest := rest) rfl (by rw [hb]; exact hdg) t
  simp only [arrV_size] at h1
  exact h1 st
theorem vx_zaldZ {D : va_G} {cl : List vw_C} {ws : va_W} {tys : List (ClassId × FieldType)} {a : Nat} (hexec : p.tables.exec = Jvm.exec) (hb : c.code = cc) (hK : va_K D cl tys s) (hP : va_P D cl ws H) (q0 t0 : Nat) {cA : ClassId} {n : Nat} {f : Nat → Int32} (ha : ws[q0]? = some (a, .inl (cA, n, .inl f))) (ht : tys[t0]? = some (cA, .boolean)) {i : Int32} (hout : ¬ vp_in i n) (hdg : decode cc pc = .ok (.baload, 1))
    (k : ∀ tx : String, tx = (toString "Index " ++ toString i ++ toString " out of bounds for length " ++ toString n : String) → vx_Note p l e R s m args below meth c H locs cells slots Q (F0 m pc ls rest) "java/lang/ArrayIndexOutOfBoundsException" tx) : W p l e R s m args below meth c H locs cells slots Q (F0 m pc ls (.int i :: .ref a :: rest)) := by
  intro T hT X
  obtain ⟨t, st, q⟩ := k _ rfl T hT X
  refine ⟨t, ?_, q⟩
  have h1 := X.baloadOut hexec (by rw [hT]; exact hP q0 _ ha) ((hK.2 t0 _ ht).1 n (fun j => .int (f j))) (j := i) (by show (i < 0 ∨ (arrV _ _ _).slots.size ≤ _); rw [arrV_size]; exact Classical.byContradiction hout) (g := F0 m pc ls (.int i :: .ref a :: rest)) rfl (rest := rest) rfl (by rw [hb]; exact hdg) t
  simp only [arrV_size] at h1
  exact h1 st
theorem vx_zastZ {D : va_G} {cl : List vw_C} {ws : va_W} {tys : List (ClassId × FieldType)} {a : Nat} (hexec : p.tables.exec = Jvm.exec) (hb : c.code = cc) (hK : va_K D cl tys s) (hP : va_P D cl ws H) (q0 t0 : Nat) {cA : ClassId} {n : Nat} {f : Nat → Int32} (ha : ws[q0]? = some (a, .inl (cA, n, .inl f))) (ht : tys[t0]? = some (cA, .boolean)) {i : Int32} {x : Int32} (hout : ¬ vp_in i n) (hdg : decode cc pc = .ok (.bastore, 1))
    (k : ∀ tx : String, tx = (toString "Index " ++ toString i ++ toString " out of bounds for length " ++ toString n : String) → vx_Note p l e R s m args below meth c H locs cells slots Q (F0 m pc ls rest) "java/lang/ArrayIndexOutOfBoundsException" tx) : W p l e R s m args below meth c H locs cells slots Q (F0 m pc ls (.int x :: .int i :: .ref a :: rest)) := by
  intro T hT X
  obtain ⟨t, st, q⟩ := k _ rfl T hT X
  refine ⟨t, ?_, q⟩
  have h1 := X.bastoreOut hexec (by rw [hT]; exact hP q0 _ ha) ((hK.2 t0 _ ht).1 n (fun j => .int (f j))) (j := i) (by show (i < 0 ∨ (arrV _ _ _).slots.size ≤ _); rw [arrV_size]; exact Classical.byContradiction hout) (g := F0 m pc ls (.int x :: .int i :: .ref a :: rest)) rfl (rest := rest) rfl (by rw [hb]; exact hdg) t
  simp only [arrV_size] at h1
  exact h1 st
theorem vx_caldZ {D : va_G} {cl : List vw_C} {ws : va_W} {tys : List (ClassId × FieldType)} {a : Nat} (hexec : p.tables.exec = Jvm.exec) (hb : c.code = cc) (hK : va_K D cl tys s) (hP : va_P D cl ws H) (q0 t0 : Nat) {cA : ClassId} {n : Nat} {f : Nat → Int32} (ha : ws[q0]? = some (a, .inl (cA, n, .inl f))) (ht : tys[t0]? = some (cA, .char)) {i : Int32} (hout : ¬ vp_in i n) (hdg : decode cc pc = .ok (.caload, 1))
    (k : ∀ tx : String, tx = (toString "Index " ++ toString i ++ toString " out of bounds for length " ++ toString n : String) → vx_Note p l e R s m args below meth c H locs cells slots Q (F0 m pc ls rest) "java/lang/ArrayIndexOutOfBoundsException" tx) : W p l e R s m args below meth c H locs cells slots Q (F0 m pc ls (.int i :: .ref a :: rest)) := by
  intro T hT X
  obtain ⟨t, st, q⟩ := k _ rfl T hT X
  refine ⟨t, ?_, q⟩
  have h1 := X.caloadOut hexec (by rw [hT]; exact hP q0 _ ha) ((hK.2 t0 _ ht).1 n (fun j => .int (f j))) (j := i) (by show (i < 0 ∨ (arrV _ _ _).slots.size ≤ _); rw [arrV_size]; exact Classical.byContradiction hout) (g := F0 m pc ls (.int i :: .ref a :: rest)) rfl (rest := rest) rfl (by rw [hb]; exact hdg) t
  simp only [arrV_size] at h1
  exact h1 st
theorem vx_castZ {D : va_G} {cl : List vw_C} {ws : va_W} {tys : List (ClassId × FieldType)} {a : Nat} (hexec : p.tables.exec = Jvm.exec) (hb : c.code = cc) (hK : va_K D cl tys s) (hP : va_P D cl ws H) (q0 t0 : Nat) {cA : ClassId} {n : Nat} {f : Nat → Int32} (ha : ws[q0]? = some (a, .inl (cA, n, .inl f))) (ht : tys[t0]? = some (cA, .char)) {i : Int32} {x : Int32} (hout : ¬ vp_in i n) (hdg : decode cc pc = .ok (.castore, 1))
    (k : ∀ tx : String, tx = (toString "Index " ++ toString i ++ toString " out of bounds for length " ++ toString n : String) → vx_Note p l e R s m args below meth c H locs cells slots Q (F0 m pc ls rest) "java/lang/ArrayIndexOutOfBoundsException" tx) : W p l e R s m args below meth c H locs cells slots Q (F0 m pc ls (.int x :: .int i :: .ref a :: rest)) := by
  intro T hT X
  obtain ⟨t, st, q⟩ := k _ rfl T hT X
  refine ⟨t, ?_, q⟩
  have h1 := X.castoreOut hexec (by rw [hT]; exact hP q0 _ ha) ((hK.2 t0 _ ht).1 n (fun j => .int (f j))) (j := i) (by show (i < 0 ∨ (arrV _ _ _).slots.size ≤ _); rw [arrV_size]; exact Classical.byContradiction hout) (g := F0 m pc ls (.int x :: .int i :: .ref a :: rest)) rfl (rest := rest) rfl (by rw [hb]; exact hdg) t
  simp only [arrV_size] at h1
  exact h1 st
theorem vx_saldZ {D : va_G} {cl : List vw_C} {ws : va_W} {tys : List (ClassId × FieldType)} {a : Nat} (hexec : p.tables.exec = Jvm.exec) (hb : c.code = cc) (hK : va_K D cl tys s) (hP : va_P D cl ws H) (q0 t0 : Nat) {cA : ClassId} {n : Nat} {f : Nat → Int32} (ha : ws[q0]? = some (a, .inl (cA, n, .inl f))) (ht : tys[t0]? = some (cA, .short)) {i : Int32} (hout : ¬ vp_in i n) (hdg : decode cc pc = .ok (.saload, 1))
    (k : ∀ tx : String, tx = (toString "Index " ++ toString i ++ toString " out of bounds for length " ++ toString n : String) → vx_Note p l e R s m args below meth c H locs cells slots Q (F0 m pc ls rest) "java/lang/ArrayIndexOutOfBoundsException" tx) : W p l e R s m args below meth c H locs cells slots Q (F0 m pc ls (.int i :: .ref a :: rest)) := by
  intro T hT X
  obtain ⟨t, st, q⟩ := k _ rfl T hT X
  refine ⟨t, ?_, q⟩
  have h1 := X.saloadOut hexec (by rw [hT]; exact hP q0 _ ha) ((hK.2 t0 _ ht).1 n (fun j => .int (f j))) (j := i) (by show (i < 0 ∨ (arrV _ _ _).slots.size ≤ _); rw [arrV_size]; exact Classical.byContradiction hout) (g := F0 m pc ls (.int i :: .ref a :: rest)) rfl (rest := rest) rfl (by rw [hb]; exact hdg) t
  simp only [arrV_size] at h1
  exact h1 st
theorem vx_sastZ {D : va_G} {cl : List vw_C} {ws : va_W} {tys : List (ClassId × FieldType)} {a : Nat} (hexec : p.tables.exec = Jvm.exec) (hb : c.code = cc) (hK : va_K D cl tys s) (hP : va_P D cl ws H) (q0 t0 : Nat) {cA : ClassId} {n : Nat} {f : Nat → Int32} (ha : ws[q0]? = some (a, .inl (cA, n, .inl f))) (ht : tys[t0]? = some (cA, .short)) {i : Int32} {x : Int32} (hout : ¬ vp_in i n) (hdg : decode cc pc = .ok (.sastore, 1))
    (k : ∀ tx : String, tx = (toString "Index " ++ toString i ++ toString " out of bounds for length " ++ toString n : String) → vx_Note p l e R s m args below meth c H locs cells slots Q (F0 m pc ls rest) "java/lang/ArrayIndexOutOfBoundsException" tx) : W p l e R s m args below meth c H locs cells slots Q (F0 m pc ls (.int x :: .int i :: .ref a :: rest)) := by
  intro T hT X
  obtain ⟨t, st, q⟩ := k _ rfl T hT X
  refine ⟨t, ?_, q⟩
  have h1 := X.sastoreOut hexec (by rw [hT]; exact hP q0 _ ha) ((hK.2 t0 _ ht).1 n (fun j => .int (f j))) (j := i) (by show (i < 0 ∨ (arrV _ _ _).slots.size ≤ _); rw [arrV_size]; exact Classical.byContradiction hout) (g := F0 m pc ls (.int x :: .int i :: .ref a :: rest)) rfl (rest := rest) rfl (by rw [hb]; exact hdg) t
  simp only [arrV_size] at h1
  exact h1 st
theorem vx_laldZ {D : va_G} {cl : List vw_C} {ws : va_W} {tys : List (ClassId × FieldType)} {a : Nat} (hexec : p.tables.exec = Jvm.exec) (hb : c.code = cc) (hK : va_K D cl tys s) (hP : va_P D cl ws H) (q0 t0 : Nat) {cA : ClassId} {n : Nat} {f : Nat → Int64} (ha : ws[q0]? = some (a, .inl (cA, n, .inr (.inl f)))) (ht : tys[t0]? = some (cA, .long)) {i : Int32} (hout : ¬ vp_in i n) (hdg : decode cc pc = .ok (.laload, 1))
    (k : ∀ tx : String, tx = (toString "Index " ++ toString i ++ toString " out of bounds for length " ++ toString n : String) → vx_Note p l e R s m args below meth c H locs cells slots Q (F0 m pc ls rest) "java/lang/ArrayIndexOutOfBoundsException" tx) : W p l e R s m args below meth c H locs cells slots Q (F0 m pc ls (.int i :: .ref a :: rest)) := by
  intro T hT X
  obtain ⟨t, st, q⟩ := k _ rfl T hT X
  refine ⟨t, ?_, q⟩
  have h1 := X.laloadOut hexec (by rw [hT]; exact hP q0 _ ha) ((hK.2 t0 _ ht).1 n (fun j => .long (f j))) (j := i) (by show (i < 0 ∨ (arrV _ _ _).slots.size ≤ _); rw [arrV_size]; exact Classical.byContradiction hout) (g := F0 m pc ls (.int i :: .ref a :: rest)) rfl (rest := rest) rfl (by rw [hb]; exact hdg) t
  simp only [arrV_size] at h1
  exact h1 st
theorem vx_lastZ {D : va_G} {cl : List vw_C} {ws : va_W} {tys : List (ClassId × FieldType)} {a : Nat} (hexec : p.tables.exec = Jvm.exec) (hb : c.code = cc) (hK : va_K D cl tys s) (hP : va_P D cl ws H) (q0 t0 : Nat) {cA : ClassId} {n : Nat} {f : Nat → Int64} (ha : ws[q0]? = some (a, .inl (cA, n, .inr (.inl f)))) (ht : tys[t0]? = some (cA, .long)) {i : Int32} {x : Int64} (hout : ¬ vp_in i n) (hdg : decode cc pc = .ok (.lastore, 1))
    (k : ∀ tx : String, tx = (toString "Index " ++ toString i ++ toString " out of bounds for length " ++ toString n : String) → vx_Note p l e R s m args below meth c H locs cells slots Q (F0 m pc ls rest) "java/lang/ArrayIndexOutOfBoundsException" tx) : W p l e R s m args below meth c H locs cells slots Q (F0 m pc ls (.long x :: .int i :: .ref a :: rest)) := by
  intro T hT X
  obtain ⟨t, st, q⟩ := k _ rfl T hT X
  refine ⟨t, ?_, q⟩
  have h1 := X.lastoreOut hexec (by rw [hT]; exact hP q0 _ ha) ((hK.2 t0 _ ht).1 n (fun j => .long (f j))) (j := i) (by show (i < 0 ∨ (arrV _ _ _).slots.size ≤ _); rw [arrV_size]; exact Classical.byContradiction hout) (g := F0 m pc ls (.long x :: .int i :: .ref a :: rest)) rfl (rest := rest) rfl (by rw [hb]; exact hdg) t
  simp only [arrV_size] at h1
  exact h1 st
theorem vx_faldZ {D : va_G} {cl : List vw_C} {ws : va_W} {tys : List (ClassId × FieldType)} {a : Nat} (hexec : p.tables.exec = Jvm.exec) (hb : c.code = cc) (hK : va_K D cl tys s) (hP : va_P D cl ws H) (q0 t0 : Nat) {cA : ClassId} {n : Nat} {f : Nat → UInt32} (ha : ws[q0]? = some (a, .inl (cA, n, .inr (.inr (.inl f))))) (ht : tys[t0]? = some (cA, .float)) {i : Int32} (hout : ¬ vp_in i n) (hdg : decode cc pc = .ok (.faload, 1))
    (k : ∀ tx : String, tx = (toString "Index " ++ toString i ++ toString " out of bounds for length " ++ toString n : String) → vx_Note p l e R s m args below meth c H locs cells slots Q (F0 m pc ls rest) "java/lang/ArrayIndexOutOfBoundsException" tx) : W p l e R s m args below meth c H locs cells slots Q (F0 m pc ls (.int i :: .ref a :: rest)) := by
  intro T hT X
  obtain ⟨t, st, q⟩ := k _ rfl T hT X
  refine ⟨t, ?_, q⟩
  have h1 := X.faloadOut hexec (by rw [hT]; exact hP q0 _ ha) ((hK.2 t0 _ ht).1 n (fun j => .float (f j))) (j := i) (by show (i < 0 ∨ (arrV _ _ _).slots.size ≤ _); rw [arrV_size]; exact Classical.byContradiction hout) (g := F0 m pc ls (.int i :: .ref a :: rest)) rfl (rest := rest) rfl (by rw [hb]; exact hdg) t
  simp only [arrV_size] at h1
  exact h1 st
theorem vx_fastZ {D : va_G} {cl : List vw_C} {ws : va_W} {tys : List (ClassId × FieldType)} {a : Nat} (hexec : p.tables.exec = Jvm.exec) (hb : c.code = cc) (hK : va_K D cl tys s) (hP : va_P D cl ws H) (q0 t0 : Nat) {cA : ClassId} {n : Nat} {f : Nat → UInt32} (ha : ws[q0]? = some (a, .inl (cA, n, .inr (.inr (.inl f))))) (ht : tys[t0]? = some (cA, .float)) {i : Int32} {x : UInt32} (hout : ¬ vp_in i n) (hdg : decode cc pc = .ok (.fastore, 1))
    (k : ∀ tx : String, tx = (toString "Index " ++ toString i ++ toString " out of bounds for length " ++ toString n : String) → vx_Note p l e R s m args below meth c H locs cells slots Q (F0 m pc ls rest) "java/lang/ArrayIndexOutOfBoundsException" tx) : W p l e R s m args below meth c H locs cells slots Q (F0 m pc ls (.float x :: .int i :: .ref a :: rest)) := by
  intro T hT X
  obtain ⟨t, st, q⟩ := k _ rfl T hT X
  refine ⟨t, ?_, q⟩
  have h1 := X.fastoreOut hexec (by rw [hT]; exact hP q0 _ ha) ((hK.2 t0 _ ht).1 n (fun j => .float (f j))) (j := i) (by show (i < 0 ∨ (arrV _ _ _).slots.size ≤ _); rw [arrV_size]; exact Classical.byContradiction hout) (g := F0 m pc ls (.float x :: .int i :: .ref a :: rest)) rfl (rest := rest) rfl (by rw [hb]; exact hdg) t
  simp only [arrV_size] at h1
  exact h1 st
theorem vx_daldZ {D : va_G} {cl : List vw_C} {ws : va_W} {tys : List (ClassId × FieldType)} {a : Nat} (hexec : p.tables.exec = Jvm.exec) (hb : c.code = cc) (hK : va_K D cl tys s) (hP : va_P D cl ws H) (q0 t0 : Nat) {cA : ClassId} {n : Nat} {f : Nat → UInt64} (ha : ws[q0]? = some (a, .inl (cA, n, .inr (.inr (.inr (.inl f)))))) (ht : tys[t0]? = some (cA, .double)) {i : Int32} (hout : ¬ vp_in i n) (hdg : decode cc pc = .ok (.daload, 1))
    (k : ∀ tx : String, tx = (toString "Index " ++ toString i ++ toString " out of bounds for length " ++ toString n : String) → vx_Note p l e R s m args below meth c H locs cells slots Q (F0 m pc ls rest) "java/lang/ArrayIndexOutOfBoundsException" tx) : W p l e R s m args below meth c H locs cells slots Q (F0 m pc ls (.int i :: .ref a :: rest)) := by
  intro T hT X
  obtain ⟨t, st, q⟩ := k _ rfl T hT X
  refine ⟨t, ?_, q⟩
  have h1 := X.daloadOut hexec (by rw [hT]; exact hP q0 _ ha) ((hK.2 t0 _ ht).1 n (fun j => .double (f j))) (j := i) (by show (i < 0 ∨ (arrV _ _ _).slots.size ≤ _); rw [arrV_size]; exact Classical.byContradiction hout) (g := F0 m pc ls (.int i :: .ref a :: rest)) rfl (rest := rest) rfl (by rw [hb]; exact hdg) t
  simp only [arrV_size] at h1
  exact h1 st
theorem vx_dastZ {D : va_G} {cl : List vw_C} {ws : va_W} {tys : List (ClassId × FieldType)} {a : Nat} (hexec : p.tables.exec = Jvm.exec) (hb : c.code = cc) (hK : va_K D cl tys s) (hP : va_P D cl ws H) (q0 t0 : Nat) {cA : ClassId} {n : Nat} {f : Nat → UInt64} (ha : ws[q0]? = some (a, .inl (cA, n, .inr (.inr (.inr (.inl f)))))) (ht : tys[t0]? = some (cA, .double)) {i : Int32} {x : UInt64} (hout : ¬ vp_in i n) (hdg : decode cc pc = .ok (.dastore, 1))
    (k : ∀ tx : String, tx = (toString "Index " ++ toString i ++ toString " out of bounds for length " ++ toString n : String) → vx_Note p l e R s m args below meth c H locs cells slots Q (F0 m pc ls rest) "java/lang/ArrayIndexOutOfBoundsException" tx) : W p l e R s m args below meth c H locs cells slots Q (F0 m pc ls (.double x :: .int i :: .ref a :: rest)) := by
  intro T hT X
  obtain ⟨t, st, q⟩ := k _ rfl T hT X
  refine ⟨t, ?_, q⟩
  have h1 := X.dastoreOut hexec (by rw [hT]; exact hP q0 _ ha) ((hK.2 t0 _ ht).1 n (fun j => .double (f j))) (j := i) (by show (i < 0 ∨ (arrV _ _ _).slots.size ≤ _); rw [arrV_size]; exact Classical.byContradiction hout) (g := F0 m pc ls (.double x :: .int i :: .ref a :: rest)) rfl (rest := rest) rfl (by rw [hb]; exact hdg) t
  simp only [arrV_size] at h1
  exact h1 st
theorem vx_arraylengthN (hexec : p.tables.exec = Jvm.exec) (hb : c.code = cc) (hdg : decode cc pc = .ok (.arraylength, 1)) (k : vx_NoteN p l e R s m args below meth c H locs cells slots Q (F0 m pc ls rest)) : W p l e R s m args below meth c H locs cells slots Q (F0 m pc ls (.null :: rest)) := by
  intro T hT X
  obtain ⟨t, st, q⟩ := k T hT X
  exact ⟨t, X.arraylengthNull hexec (g := F0 m pc ls (.null :: rest)) rfl (rest := rest) rfl (by rw [hb]; exact hdg) t st, q⟩
theorem vx_ialoadN (hexec : p.tables.exec = Jvm.exec) (hb : c.code = cc) {i : Int32} (hdg : decode cc pc = .ok (.iaload, 1)) (k : vx_NoteN p l e R s m args below meth c H locs cells slots Q (F0 m pc ls rest)) : W p l e R s m args below meth c H locs cells slots Q (F0 m pc ls (.int i :: .null :: rest)) := by
  intro T hT X
  obtain ⟨t, st, q⟩ := k T hT X
  exact ⟨t, X.ialoadNull hexec (g := F0 m pc ls (.int i :: .null :: rest)) rfl (rest := rest) rfl (by rw [hb]; exact hdg) t st, q⟩
theorem vx_laloadN (hexec : p.tables.exec = Jvm.exec) (hb : c.code = cc) {i : Int32} (hdg : decode cc pc = .ok (.laload, 1)) (k : vx_NoteN p l e R s m args below meth c H locs cells slots Q (F0 m pc ls rest)) : W p l e R s m args below meth c H locs cells slots Q (F0 m pc ls (.int i :: .null :: rest)) := by
  intro T hT X
  obtain ⟨t, st, q⟩ := k T hT X
  exact ⟨t, X.laloadNull hexec (g := F0 m pc ls (.int i :: .null :: rest)) rfl (rest := rest) rfl (by rw [hb]; exact hdg) t st, q⟩
theorem vx_faloadN (hexec : p.tables.exec = Jvm.exec) (hb : c.code = cc) {i : Int32} (hdg : decode cc pc = .ok (.faload, 1)) (k : vx_NoteN p l e R s m args below meth c H locs cells slots Q (F0 m pc ls rest)) : W p l e R s m args below meth c H locs cells slots Q (F0 m pc ls (.int i :: .null :: rest)) := by
  intro T hT X
  obtain ⟨t, st, q⟩ := k T hT X
  exact ⟨t, X.faloadNull hexec (g := F0 m pc ls (.int i :: .null :: rest)) rfl (rest := rest) rfl (by rw [hb]; exact hdg) t st, q⟩
theorem vx_daloadN (hexec : p.tables.exec = Jvm.exec) (hb : c.code = cc) {i : Int32} (hdg : decode cc pc = .ok (.daload, 1)) (k : vx_NoteN p l e R s m args below meth c H locs cells slots Q (F0 m pc ls rest)) : W p l e R s m args below meth c H locs cells slots Q (F0 m pc ls (.int i :: .null :: rest)) := by
  intro T hT X
  obtain ⟨t, st, q⟩ := k T hT X
  exact ⟨t, X.daloadNull hexec (g := F0 m pc ls (.int i :: .null :: rest)) rfl (rest := rest) rfl (by rw [hb]; exact hdg) t st, q⟩
theorem vx_aaloadN (hexec : p.tables.exec = Jvm.exec) (hb : c.code = cc) {i : Int32} (hdg : decode cc pc = .ok (.aaload, 1)) (k : vx_NoteN p l e R s m args below meth c H locs cells slots Q (F0 m pc ls rest)) : W p l e R s m args below meth c H locs cells slots Q (F0 m pc ls (.int i :: .null :: rest)) := by
  intro T hT X
  obtain ⟨t, st, q⟩ := k T hT X
  exact ⟨t, X.aaloadNull hexec (g := F0 m pc ls (.int i :: .null :: rest)) rfl (rest := rest) rfl (by rw [hb]; exact hdg) t st, q⟩
theorem vx_baloadN (hexec : p.tables.exec = Jvm.exec) (hb : c.code = cc) {i : Int32} (hdg : decode cc pc = .ok (.baload, 1)) (k : vx_NoteN p l e R s m args below meth c H locs cells slots Q (F0 m pc ls rest)) : W p l e R s m args below meth c H locs cells slots Q (F0 m pc ls (.int i :: .null :: rest)) := by
  intro T hT X
  obtain ⟨t, st, q⟩ := k T hT X
  exact ⟨t, X.baloadNull hexec (g := F0 m pc ls (.int i :: .null :: rest)) rfl (rest := rest) rfl (by rw [hb]; exact hdg) t st, q⟩
theorem vx_caloadN (hexec : p.tables.exec = Jvm.exec) (hb : c.code = cc) {i : Int32} (hdg : decode cc pc = .ok (.caload, 1)) (k : vx_NoteN p l e R s m args below meth c H locs cells slots Q (F0 m pc ls rest)) : W p l e R s m args below meth c H locs cells slots Q (F0 m pc ls (.int i :: .null :: rest)) := by
  intro T hT X
  obtain ⟨t, st, q⟩ := k T hT X
  exact ⟨t, X.caloadNull hexec (g := F0 m pc ls (.int i :: .null :: rest)) rfl (rest := rest) rfl (by rw [hb]; exact hdg) t st, q⟩
theorem vx_saloadN (hexec : p.tables.exec = Jvm.exec) (hb : c.code = cc) {i : Int32} (hdg : decode cc pc = .ok (.saload, 1)) (k : vx_NoteN p l e R s m args below meth c H locs cells slots Q (F0 m pc ls rest)) : W p l e R s m args below meth c H locs cells slots Q (F0 m pc ls (.int i :: .null :: rest)) := by
  intro T hT X
  obtain ⟨t, st, q⟩ := k T hT X
  exact ⟨t, X.saloadNull hexec (g := F0 m pc ls (.int i :: .null :: rest)) rfl (rest := rest) rfl (by rw [hb]; exact hdg) t st, q⟩
theorem vx_iastoreN (hexec : p.tables.exec = Jvm.exec) (hb : c.code = cc) {x : Int32} {i : Int32} (hdg : decode cc pc = .ok (.iastore, 1)) (k : vx_NoteN p l e R s m args below meth c H locs cells slots Q (F0 m pc ls rest)) : W p l e R s m args below meth c H locs cells slots Q (F0 m pc ls (.int x :: .int i :: .null :: rest)) := by
  intro T hT X
  obtain ⟨t, st, q⟩ := k T hT X
  exact ⟨t, X.iastoreNull hexec (g := F0 m pc ls (.int x :: .int i :: .null :: rest)) rfl (rest := rest) rfl (by rw [hb]; exact hdg) t st, q⟩
theorem vx_lastoreN (hexec : p.tables.exec = Jvm.exec) (hb : c.code = cc) {x : Int64} {i : Int32} (hdg : decode cc pc = .ok (.lastore, 1)) (k : vx_NoteN p l e R s m args below meth c H locs cells slots Q (F0 m pc ls rest)) : W p l e R s m args below meth c H locs cells slots Q (F0 m pc ls (.long x :: .int i :: .null :: rest)) := by
  intro T hT X
  obtain ⟨t, st, q⟩ := k T hT X
  exact ⟨t, X.lastoreNull hexec (g := F0 m pc ls (.long x :: .int i :: .null :: rest)) rfl (rest := rest) rfl (by rw [hb]; exact hdg) t st, q⟩
theorem vx_fastoreN (hexec : p.tables.exec = Jvm.exec) (hb : c.code = cc) {x : UInt32} {i : Int32} (hdg : decode cc pc = .ok (.fastore, 1)) (k : vx_NoteN p l e R s m args below meth c H locs cells slots Q (F0 m pc ls rest)) : W p l e R s m args below meth c H locs cells slots Q (F0 m pc ls (.float x :: .int i :: .null :: rest)) := by
  intro T hT X
  obtain ⟨t, st, q⟩ := k T hT X
  exact ⟨t, X.fastoreNull hexec (g := F0 m pc ls (.float x :: .int i :: .null :: rest)) rfl (rest := rest) rfl (by rw [hb]; exact hdg) t st, q⟩
theorem vx_dastoreN (hexec : p.tables.exec = Jvm.exec) (hb : c.code = cc) {x : UInt64} {i : Int32} (hdg : decode cc pc = .ok (.dastore, 1)) (k : vx_NoteN p l e R s m args below meth c H locs cells slots Q (F0 m pc ls rest)) : W p l e R s m args below meth c H locs cells slots Q (F0 m pc ls (.double x :: .int i :: .null :: rest)) := by
  intro T hT X
  obtain ⟨t, st, q⟩ := k T hT X
  exact ⟨t, X.dastoreNull hexec (g := F0 m pc ls (.double x :: .int i :: .null :: rest)) rfl (rest := rest) rfl (by rw [hb]; exact hdg) t st, q⟩
theorem vx_bastoreN (hexec : p.tables.exec = Jvm.exec) (hb : c.code = cc) {x : Int32} {i : Int32} (hdg : decode cc pc = .ok (.bastore, 1)) (k : vx_NoteN p l e R s m args below meth c H locs cells slots Q (F0 m pc ls rest)) : W p l e R s m args below meth c H locs cells slots Q (F0 m pc ls (.int x :: .int i :: .null :: rest)) := by
  intro T hT X
  obtain ⟨t, st, q⟩ := k T hT X
  exact ⟨t, X.bastoreNull hexec (g := F0 m pc ls (.int x :: .int i :: .null :: rest)) rfl (rest := rest) rfl (by rw [hb]; exact hdg) t st, q⟩
theorem vx_castoreN (hexec : p.tables.exec = Jvm.exec) (hb : c.code = cc) {x : Int32} {i : Int32} (hdg : decode cc pc = .ok (.castore, 1)) (k : vx_NoteN p l e R s m args below meth c H locs cells slots Q (F0 m pc ls rest)) : W p l e R s m args below meth c H locs cells slots Q (F0 m pc ls (.int x :: .int i :: .null :: rest)) := by
  intro T hT X
  obtain ⟨t, st, q⟩ := k T hT X
  exact ⟨t, X.castoreNull hexec (g := F0 m pc ls (.int x :: .int i :: .null :: rest)) rfl (rest := rest) rfl (by rw [hb]; exact hdg) t st, q⟩
theorem vx_sastoreN (hexec : p.tables.exec = Jvm.exec) (hb : c.code = cc) {x : Int32} {i : Int32} (hdg : decode cc pc = .ok (.sastore, 1)) (k : vx_NoteN p l e R s m args below meth c H locs cells slots Q (F0 m pc ls rest)) : W p l e R s m args below meth c H locs cells slots Q (F0 m pc ls (.int x :: .int i :: .null :: rest)) := by
  intro T hT X
  obtain ⟨t, st, q⟩ := k T hT X
  exact ⟨t, X.sastoreNull hexec (g := F0 m pc ls (.int x :: .int i :: .null :: rest)) rfl (rest := rest) rfl (by rw [hb]; exact hdg) t st, q⟩
theorem vx_invokeN {own C : String} {index maxL : Nat} {y : MethodName} {bytes : ByteArray} {ret : Option FieldType} (hexec : p.tables.exec = Jvm.exec) (hb : c.code = cc) (hown : s.vm.findClass own = some m.cls) (hlink : (Cond.methodLink own index y).before args s = true) (hinst : (Cond.instanceMethod y).before args s = true) (hcode : (Cond.code y bytes maxL ret).before args s = true) (hsel : (Cond.selects C y y).before args s = true)
    (hx : y.cls ≠ "java/lang/invoke/MethodHandle" ∧ y.cls ≠ "java/lang/invoke/VarHandle") {As : List Value} (hlen : (parseMethodDescriptor y.desc).map (fun d => d.parameters.length) = some As.length) (hdg : decode cc pc = .ok (.invokevirtual index, 3))
    (k : vx_NoteN p l e R s m args below meth c H locs cells slots Q (F0 m pc ls rest)) {st0 : List Value} (hst : st0 = As.reverse ++ .null :: rest) : W p l e R s m args below meth c H locs cells slots Q (F0 m pc ls st0) := by
  intro T hT X
  obtain ⟨r0, r, hn, hrm, hstR, hsigR⟩ := va_Decl.of hinst hcode
  obtain ⟨c2, r2, m2, q1, q2, q3, q4, kP, hkP, hkPi⟩ := Cond.selects_spec hsel
  cases hn.symm.trans q3
  have hl9 : As.length = r.sig.parameters.length := by
    rw [hsigR] at hlen
    exact (Option.some.inj hlen).symm
  obtain ⟨vm', X1, st1⟩ := X.invokevirtualNull hexec hown hlink hn hrm hstR hkP hkPi hx (g := F0 m pc ls st0) rfl (argsL := As) (rest := rest) hl9 hst (by rw [hb]; exact hdg)
  obtain ⟨t, st, q⟩ := k (T.setVm vm') hT X1
  exact ⟨t, st1 t st, q⟩
theorem vx_newarrayZ {atype : ArrayType} (hexec : p.tables.exec = Jvm.exec) (hb : c.code = cc) {n : Int32} (h0 : n < 0) (hdg : decode cc pc = .ok (.newarray atype, 2)) (k : ∀ tx : String, tx = toString n → vx_Note p l e R s m args below meth c H locs cells slots Q (F0 m pc ls rest) "java/lang/NegativeArraySizeException" tx) : W p l e R s m args below meth c H locs cells slots Q (F0 m pc ls (.int n :: rest)) := by
  intro T hT X
  obtain ⟨t, st, q⟩ := k _ rfl T hT X
  exact ⟨t, X.newarrayNegative hexec (g := F0 m pc ls (.int n :: rest)) rfl h0 (rest := rest) rfl (by rw [hb]; exact hdg) t st, q⟩
end
end VXM
/-! ===== END ===== -/
end
section
/-! ===== BEGIN printed: names, fields, word lists, decode rows ===== -/
def RX0 : String := "FindingAid$Containers"
def TX0 : u_T := fun k => match k with
  | 0 => ("FindingAid$Containers", "made", "I", false)
  | 1 => ("FindingAid$Containers", "open", "I", false)
  | 2 => ("FindingAid$Containers", "stored", "I", false)
  | 3 => ("FindingAid$Containers", "capacity", "[I", true)
  | 4 => ("FindingAid$Containers", "given", "[I", true)
  | 5 => ("FindingAid$Containers", "row", "[I", true)
  | 6 => ("FindingAid$Containers", "holder", "[I", true)
  | 7 => ("FindingAid$Containers", "serial", "[I", true)
  | _ => ("FindingAid$Containers", "marks", "LFindingAid$Marks;", true)
def tyX0 : Nat → FieldType := fun k => match k with
  | 0 => .int
  | 1 => .int
  | 2 => .int
  | 3 => .array .int
  | 4 => .array .int
  | 5 => .array .int
  | 6 => .array .int
  | 7 => .array .int
  | _ => .object "FindingAid$Marks"
abbrev wsX00 : List Cond := u_ws RX0 TX0 9
theorem nmX0 : ∀ a, a < 9 → ∀ b, b < 9 → a ≠ b → (TX0 a).2.1 ≠ (TX0 b).2.1 := by decide +kernel
theorem tyX0_ok : ∀ k, k < 9 → parseFieldDescriptor (TX0 k).2.2.1 = some (tyX0 k) := by decide +kernel
abbrev cX0_init : ByteArray := prog_2_method_1_code
def yX0_init : MethodName := ⟨RX0, "<init>", "()V"⟩
abbrev cX0_takeOver : ByteArray := prog_2_method_2_code
def yX0_takeOver : MethodName := ⟨RX0, "takeOver", "(LFindingAid$Containers;)V"⟩
abbrev cX0_has : ByteArray := prog_2_method_3_code
def yX0_has : MethodName := ⟨RX0, "has", "(I)Z"⟩
abbrev cX0_canOpen : ByteArray := prog_2_method_4_code
def yX0_canOpen : MethodName := ⟨RX0, "canOpen", "()Z"⟩
abbrev cX0_open : ByteArray := prog_2_method_5_code
def yX0_open : MethodName := ⟨RX0, "open", "(I)I"⟩
abbrev cX0_close : ByteArray := prog_2_method_6_code
def yX0_close : MethodName := ⟨RX0, "close", "(I)V"⟩
abbrev cX0_store : ByteArray := prog_2_method_7_code
def yX0_store : MethodName := ⟨RX0, "store", "(II)I"⟩
abbrev cX0_storeAll : ByteArray := prog_2_method_8_code
def yX0_storeAll : MethodName := ⟨RX0, "storeAll", "(III)I"⟩
abbrev cX0_release : ByteArray := prog_2_method_9_code
def yX0_release : MethodName := ⟨RX0, "release", "(I)V"⟩
abbrev cX0_forgetRemovedUnits : ByteArray := prog_2_method_10_code
def yX0_forgetRemovedUnits : MethodName := ⟨RX0, "forgetRemovedUnits", "(LFindingAid$Tree;)V"⟩
abbrev cX0_countUnits : ByteArray := prog_2_method_11_code
def yX0_countUnits : MethodName := ⟨RX0, "countUnits", "(I)I"⟩
abbrev cX0_unitIn : ByteArray := prog_2_method_12_code
def yX0_unitIn : MethodName := ⟨RX0, "unitIn", "(II)I"⟩
abbrev cX0_load : ByteArray := prog_2_method_13_code
def yX0_load : MethodName := ⟨RX0, "load", "(LFindingAid$Tree;II)I"⟩
def RX1 : String := "FindingAid$Copies"
def TX1 : u_T := fun k => match k with
  | 0 => ("FindingAid$Copies", "made", "I", false)
  | 1 => ("FindingAid$Copies", "unit", "[I", true)
  | _ => ("FindingAid$Copies", "hidden", "[I", true)
def tyX1 : Nat → FieldType := fun k => match k with
  | 0 => .int
  | 1 => .array .int
  | _ => .array .int
abbrev wsX10 : List Cond := u_ws RX1 TX1 3
theorem nmX1 : ∀ a, a < 3 → ∀ b, b < 3 → a ≠ b → (TX1 a).2.1 ≠ (TX1 b).2.1 := by decide +kernel
theorem tyX1_ok : ∀ k, k < 3 → parseFieldDescriptor (TX1 k).2.2.1 = some (tyX1 k) := by decide +kernel
abbrev cX1_init : ByteArray := prog_3_method_1_code
def yX1_init : MethodName := ⟨RX1, "<init>", "()V"⟩
abbrev cX1_takeOver : ByteArray := prog_3_method_2_code
def yX1_takeOver : MethodName := ⟨RX1, "takeOver", "(LFindingAid$Copies;)V"⟩
abbrev cX1_has : ByteArray := prog_3_method_3_code
def yX1_has : MethodName := ⟨RX1, "has", "(I)Z"⟩
abbrev cX1_make : ByteArray := prog_3_method_4_code
def yX1_make : MethodName := ⟨RX1, "make", "(II)I"⟩
abbrev cX1_forgetRemovedUnits : ByteArray := prog_3_method_5_code
def yX1_forgetRemovedUnits : MethodName := ⟨RX1, "forgetRemovedUnits", "(LFindingAid$Tree;)V"⟩
abbrev cX1_countOf : ByteArray := prog_3_method_6_code
def yX1_countOf : MethodName := ⟨RX1, "countOf", "(I)I"⟩
abbrev cX1_countPresent : ByteArray := prog_3_method_7_code
def yX1_countPresent : MethodName := ⟨RX1, "countPresent", "()I"⟩
def RX2 : String := "FindingAid$Input"
def TX2 : u_T := fun k => match k with
  | 0 => ("FindingAid$Input", "length", "I", false)
  | 1 => ("FindingAid$Input", "nodes", "I", false)
  | 2 => ("FindingAid$Input", "kind", "[I", true)
  | 3 => ("FindingAid$Input", "parent", "[I", true)
  | 4 => ("FindingAid$Input", "pages", "[I", true)
  | 5 => ("FindingAid$Input", "from", "[I", true)
  | 6 => ("FindingAid$Input", "to", "[I", true)
  | 7 => ("FindingAid$Input", "letters", "[C", true)
  | _ => ("FindingAid$Input", "at", "I", false)
def tyX2 : Nat → FieldType := fun k => match k with
  | 0 => .int
  | 1 => .int
  | 2 => .array .int
  | 3 => .array .int
  | 4 => .array .int
  | 5 => .array .int
  | 6 => .array .int
  | 7 => .array .char
  | _ => .int
abbrev wsX20 : List Cond := u_ws RX2 TX2 9
theorem nmX2 : ∀ a, a < 9 → ∀ b, b < 9 → a ≠ b → (TX2 a).2.1 ≠ (TX2 b).2.1 := by decide +kernel
theorem tyX2_ok : ∀ k, k < 9 → parseFieldDescriptor (TX2 k).2.2.1 = some (tyX2 k) := by decide +kernel
abbrev cX2_init : ByteArray := prog_4_method_1_code
def yX2_init : MethodName := ⟨RX2, "<init>", "()V"⟩
abbrev cX2_append : ByteArray := prog_4_method_2_code
def yX2_append : MethodName := ⟨RX2, "append", "(C)I"⟩
abbrev cX2_parse : ByteArray := prog_4_method_3_code
def yX2_parse : MethodName := ⟨RX2, "parse", "()I"⟩
abbrev cX2_parseNode : ByteArray := prog_4_method_4_code
def yX2_parseNode : MethodName := ⟨RX2, "parseNode", "(I)Z"⟩
abbrev cX2_parseEnds : ByteArray := prog_4_method_5_code
def yX2_parseEnds : MethodName := ⟨RX2, "parseEnds", "(I)I"⟩
abbrev cX2_accept : ByteArray := prog_4_method_6_code
def yX2_accept : MethodName := ⟨RX2, "accept", "(C)Z"⟩
abbrev cX2_digit : ByteArray := prog_4_method_7_code
def yX2_digit : MethodName := ⟨RX2, "digit", "()I"⟩
abbrev cX2_number : ByteArray := prog_4_method_8_code
def yX2_number : MethodName := ⟨RX2, "number", "()I"⟩
def RX3 : String := "FindingAid$Marks"
def TX3 : u_T := fun k => match k with
  | 0 => ("FindingAid$Marks", "count", "I", false)
  | 1 => ("FindingAid$Marks", "container", "[I", false)
  | _ => ("FindingAid$Marks", "unit", "[I", false)
def tyX3 : Nat → FieldType := fun k => match k with
  | 0 => .int
  | 1 => .array .int
  | _ => .array .int
abbrev wsX30 : List Cond := u_ws RX3 TX3 3
theorem nmX3 : ∀ a, a < 3 → ∀ b, b < 3 → a ≠ b → (TX3 a).2.1 ≠ (TX3 b).2.1 := by decide +kernel
theorem tyX3_ok : ∀ k, k < 3 → parseFieldDescriptor (TX3 k).2.2.1 = some (tyX3 k) := by decide +kernel
abbrev cX3_init : ByteArray := prog_5_method_1_code
def yX3_init : MethodName := ⟨RX3, "<init>", "()V"⟩
abbrev cX3_takeOver : ByteArray := prog_5_method_2_code
def yX3_takeOver : MethodName := ⟨RX3, "takeOver", "(LFindingAid$Marks;)V"⟩
abbrev cX3_hasRoom : ByteArray := prog_5_method_3_code
def yX3_hasRoom : MethodName := ⟨RX3, "hasRoom", "(I)Z"⟩
abbrev cX3_give : ByteArray := prog_5_method_4_code
def yX3_give : MethodName := ⟨RX3, "give", "(II)V"⟩
abbrev cX3_unitOf : ByteArray := prog_5_method_5_code
def yX3_unitOf : MethodName := ⟨RX3, "unitOf", "(II)I"⟩
abbrev cX3_countReferring : ByteArray := prog_5_method_6_code
def yX3_countReferring : MethodName := ⟨RX3, "countReferring", "(LFindingAid$Tree;)I"⟩
def RX4 : String := "FindingAid$Report"
def TX4 : u_T := fun k => match k with
  | 0 => ("FindingAid$Report", "levels", "I", false)
  | 1 => ("FindingAid$Report", "code", "[I", true)
  | _ => ("FindingAid$Report", "detail", "[I", true)
def tyX4 : Nat → FieldType := fun k => match k with
  | 0 => .int
  | 1 => .array .int
  | _ => .array .int
abbrev wsX40 : List Cond := u_ws RX4 TX4 3
theorem nmX4 : ∀ a, a < 3 → ∀ b, b < 3 → a ≠ b → (TX4 a).2.1 ≠ (TX4 b).2.1 := by decide +kernel
theorem tyX4_ok : ∀ k, k < 3 → parseFieldDescriptor (TX4 k).2.2.1 = some (tyX4 k) := by decide +kernel
abbrev cX4_init : ByteArray := prog_6_method_1_code
def yX4_init : MethodName := ⟨RX4, "<init>", "()V"⟩
abbrev cX4_append : ByteArray := prog_6_method_2_code
def yX4_append : MethodName := ⟨RX4, "append", "(II)V"⟩
def RX5 : String := "FindingAid$Requests"
def TX5 : u_T := fun k => match k with
  | 0 => ("FindingAid$Requests", "count", "I", false)
  | 1 => ("FindingAid$Requests", "reader", "[I", true)
  | 2 => ("FindingAid$Requests", "unit", "[I", true)
  | 3 => ("FindingAid$Requests", "day", "[I", true)
  | _ => ("FindingAid$Requests", "shown", "[I", true)
def tyX5 : Nat → FieldType := fun k => match k with
  | 0 => .int
  | 1 => .array .int
  | 2 => .array .int
  | 3 => .array .int
  | _ => .array .int
abbrev wsX50 : List Cond := u_ws RX5 TX5 5
theorem nmX5 : ∀ a, a < 5 → ∀ b, b < 5 → a ≠ b → (TX5 a).2.1 ≠ (TX5 b).2.1 := by decide +kernel
theorem tyX5_ok : ∀ k, k < 5 → parseFieldDescriptor (TX5 k).2.2.1 = some (tyX5 k) := by decide +kernel
abbrev cX5_init : ByteArray := prog_7_method_1_code
def yX5_init : MethodName := ⟨RX5, "<init>", "()V"⟩
abbrev cX5_takeOver : ByteArray := prog_7_method_2_code
def yX5_takeOver : MethodName := ⟨RX5, "takeOver", "(LFindingAid$Requests;)V"⟩
abbrev cX5_append : ByteArray := prog_7_method_3_code
def yX5_append : MethodName := ⟨RX5, "append", "(IIII)V"⟩
abbrev cX5_drop : ByteArray := prog_7_method_4_code
def yX5_drop : MethodName := ⟨RX5, "drop", "(I)V"⟩
abbrev cX5_forgetRemovedUnits : ByteArray := prog_7_method_5_code
def yX5_forgetRemovedUnits : MethodName := ⟨RX5, "forgetRemovedUnits", "(LFindingAid$Tree;)V"⟩
abbrev cX5_find : ByteArray := prog_7_method_6_code
def yX5_find : MethodName := ⟨RX5, "find", "(III)I"⟩
abbrev cX5_countOn : ByteArray := prog_7_method_7_code
def yX5_countOn : MethodName := ⟨RX5, "countOn", "(I)I"⟩
abbrev cX5_countOfReader : ByteArray := prog_7_method_8_code
def yX5_countOfReader : MethodName := ⟨RX5, "countOfReader", "(II)I"⟩
abbrev cX5_countReaders : ByteArray := prog_7_method_9_code
def yX5_countReaders : MethodName := ⟨RX5, "countReaders", "(I)I"⟩
abbrev cX5_countShowing : ByteArray := prog_7_method_10_code
def yX5_countShowing : MethodName := ⟨RX5, "countShowing", "(I)I"⟩
def RX6 : String := "FindingAid$Rules"
def TX6 : u_T := fun k => match k with
  | 0 => ("FindingAid$Rules", "mode", "[I", true)
  | 1 => ("FindingAid$Rules", "length", "[I", true)
  | _ => ("FindingAid$Rules", "pageLength", "[I", true)
def tyX6 : Nat → FieldType := fun k => match k with
  | 0 => .array .int
  | 1 => .array .int
  | _ => .array .int
abbrev wsX60 : List Cond := u_ws RX6 TX6 3
theorem nmX6 : ∀ a, a < 3 → ∀ b, b < 3 → a ≠ b → (TX6 a).2.1 ≠ (TX6 b).2.1 := by decide +kernel
theorem tyX6_ok : ∀ k, k < 3 → parseFieldDescriptor (TX6 k).2.2.1 = some (tyX6 k) := by decide +kernel
abbrev cX6_init : ByteArray := prog_8_method_1_code
def yX6_init : MethodName := ⟨RX6, "<init>", "()V"⟩
abbrev cX6_takeOver : ByteArray := prog_8_method_2_code
def yX6_takeOver : MethodName := ⟨RX6, "takeOver", "(LFindingAid$Rules;)V"⟩
abbrev cX6_decidingNode : ByteArray := prog_8_method_3_code
def yX6_decidingNode : MethodName := ⟨RX6, "decidingNode", "(LFindingAid$Tree;I)I"⟩
abbrev cX6_term : ByteArray := prog_8_method_4_code
def yX6_term : MethodName := ⟨RX6, "term", "(LFindingAid$Tree;I)I"⟩
abbrev cX6_lastClosedDay : ByteArray := prog_8_method_5_code
def yX6_lastClosedDay : MethodName := ⟨RX6, "lastClosedDay", "(LFindingAid$Tree;I)I"⟩
abbrev cX6_lastClosedDayOfPage : ByteArray := prog_8_method_6_code
def yX6_lastClosedDayOfPage : MethodName := ⟨RX6, "lastClosedDayOfPage", "(III)I"⟩
abbrev cX6_lastDay : ByteArray := prog_8_method_7_code
def yX6_lastDay : MethodName := ⟨RX6, "lastDay", "(II)I"⟩
abbrev cX6_openSet : ByteArray := prog_8_method_8_code
def yX6_openSet : MethodName := ⟨RX6, "openSet", "(LFindingAid$Tree;II)I"⟩
def RX7 : String := "FindingAid$State"
def TX7 : u_T := fun k => match k with
  | 0 => ("FindingAid$State", "tree", "LFindingAid$Tree;", true)
  | 1 => ("FindingAid$State", "rules", "LFindingAid$Rules;", true)
  | 2 => ("FindingAid$State", "containers", "LFindingAid$Containers;", true)
  | 3 => ("FindingAid$State", "copies", "LFindingAid$Copies;", true)
  | 4 => ("FindingAid$State", "requests", "LFindingAid$Requests;", true)
  | _ => ("FindingAid$State", "seats", "I", false)
def tyX7 : Nat → FieldType := fun k => match k with
  | 0 => .object "FindingAid$Tree"
  | 1 => .object "FindingAid$Rules"
  | 2 => .object "FindingAid$Containers"
  | 3 => .object "FindingAid$Copies"
  | 4 => .object "FindingAid$Requests"
  | _ => .int
abbrev wsX70 : List Cond := u_ws RX7 TX7 6
theorem nmX7 : ∀ a, a < 6 → ∀ b, b < 6 → a ≠ b → (TX7 a).2.1 ≠ (TX7 b).2.1 := by decide +kernel
theorem tyX7_ok : ∀ k, k < 6 → parseFieldDescriptor (TX7 k).2.2.1 = some (tyX7 k) := by decide +kernel
abbrev cX7_init : ByteArray := prog_9_method_1_code
def yX7_init : MethodName := ⟨RX7, "<init>", "()V"⟩
abbrev cX7_takeOver : ByteArray := prog_9_method_2_code
def yX7_takeOver : MethodName := ⟨RX7, "takeOver", "(LFindingAid$State;)V"⟩
abbrev cX7_forgetRemovedUnits : ByteArray := prog_9_method_3_code
def yX7_forgetRemovedUnits : MethodName := ⟨RX7, "forgetRemovedUnits", "()V"⟩
abbrev cX7_shownSet : ByteArray := prog_9_method_4_code
def yX7_shownSet : MethodName := ⟨RX7, "shownSet", "(II)I"⟩
abbrev cX7_isOpen : ByteArray := prog_9_method_5_code
def yX7_isOpen : MethodName := ⟨RX7, "isOpen", "(III)Z"⟩
abbrev cX7_lastClosedDayOfCopy : ByteArray := prog_9_method_6_code
def yX7_lastClosedDayOfCopy : MethodName := ⟨RX7, "lastClosedDayOfCopy", "(I)I"⟩
abbrev cX7_causeOfReader : ByteArray := prog_9_method_7_code
def yX7_causeOfReader : MethodName := ⟨RX7, "causeOfReader", "(II)I"⟩
abbrev cX7_chooseShown : ByteArray := prog_9_method_8_code
def yX7_chooseShown : MethodName := ⟨RX7, "chooseShown", "(II)I"⟩
abbrev cX7_causeOfUnit : ByteArray := prog_9_method_9_code
def yX7_causeOfUnit : MethodName := ⟨RX7, "causeOfUnit", "(II)I"⟩
abbrev cX7_detailOf : ByteArray := prog_9_method_10_code
def yX7_detailOf : MethodName := ⟨RX7, "detailOf", "(IIII)I"⟩
abbrev cX7_lowestClosedPage : ByteArray := prog_9_method_11_code
def yX7_lowestClosedPage : MethodName := ⟨RX7, "lowestClosedPage", "(II)I"⟩
abbrev cX7_readerOfOriginal : ByteArray := prog_9_method_12_code
def yX7_readerOfOriginal : MethodName := ⟨RX7, "readerOfOriginal", "(II)I"⟩
abbrev cX7_mayStay : ByteArray := prog_9_method_13_code
def yX7_mayStay : MethodName := ⟨RX7, "mayStay", "(I)Z"⟩
abbrev cX7_countShownPages : ByteArray := prog_9_method_14_code
def yX7_countShownPages : MethodName := ⟨RX7, "countShownPages", "(I)I"⟩
abbrev cX7_countAllShownPages : ByteArray := prog_9_method_15_code
def yX7_countAllShownPages : MethodName := ⟨RX7, "countAllShownPages", "()I"⟩
abbrev cX7_countOpenUnits : ByteArray := prog_9_method_16_code
def yX7_countOpenUnits : MethodName := ⟨RX7, "countOpenUnits", "(I)I"⟩
abbrev cX7_countOpenPages : ByteArray := prog_9_method_17_code
def yX7_countOpenPages : MethodName := ⟨RX7, "countOpenPages", "(I)I"⟩
def RX8 : String := "FindingAid$Tree"
def TX8 : u_T := fun k => match k with
  | 0 => ("FindingAid$Tree", "made", "I", false)
  | 1 => ("FindingAid$Tree", "size", "I", false)
  | 2 => ("FindingAid$Tree", "line", "[I", true)
  | 3 => ("FindingAid$Tree", "stretch", "[I", true)
  | 4 => ("FindingAid$Tree", "kind", "[I", true)
  | 5 => ("FindingAid$Tree", "parent", "[I", true)
  | 6 => ("FindingAid$Tree", "below", "[I", true)
  | 7 => ("FindingAid$Tree", "pages", "[I", true)
  | 8 => ("FindingAid$Tree", "from", "[I", true)
  | _ => ("FindingAid$Tree", "to", "[I", true)
def tyX8 : Nat → FieldType := fun k => match k with
  | 0 => .int
  | 1 => .int
  | 2 => .array .int
  | 3 => .array .int
  | 4 => .array .int
  | 5 => .array .int
  | 6 => .array .int
  | 7 => .array .int
  | 8 => .array .int
  | _ => .array .int
abbrev wsX80 : List Cond := u_ws RX8 TX8 10
theorem nmX8 : ∀ a, a < 10 → ∀ b, b < 10 → a ≠ b → (TX8 a).2.1 ≠ (TX8 b).2.1 := by decide +kernel
theorem tyX8_ok : ∀ k, k < 10 → parseFieldDescriptor (TX8 k).2.2.1 = some (tyX8 k) := by decide +kernel
abbrev cX8_init : ByteArray := prog_10_method_1_code
def yX8_init : MethodName := ⟨RX8, "<init>", "()V"⟩
abbrev cX8_takeOver : ByteArray := prog_10_method_2_code
def yX8_takeOver : MethodName := ⟨RX8, "takeOver", "(LFindingAid$Tree;)V"⟩
abbrev cX8_has : ByteArray := prog_10_method_3_code
def yX8_has : MethodName := ⟨RX8, "has", "(I)Z"⟩
abbrev cX8_grow : ByteArray := prog_10_method_4_code
def yX8_grow : MethodName := ⟨RX8, "grow", "(IIIII)I"⟩
abbrev cX8_fell : ByteArray := prog_10_method_5_code
def yX8_fell : MethodName := ⟨RX8, "fell", "(I)I"⟩
abbrev cX8_cut : ByteArray := prog_10_method_6_code
def yX8_cut : MethodName := ⟨RX8, "cut", "(I)V"⟩
abbrev cX8_hang : ByteArray := prog_10_method_7_code
def yX8_hang : MethodName := ⟨RX8, "hang", "(II)V"⟩
abbrev cX8_widen : ByteArray := prog_10_method_8_code
def yX8_widen : MethodName := ⟨RX8, "widen", "(II)V"⟩
abbrev cX8_place : ByteArray := prog_10_method_9_code
def yX8_place : MethodName := ⟨RX8, "place", "(I)I"⟩
abbrev cX8_depth : ByteArray := prog_10_method_10_code
def yX8_depth : MethodName := ⟨RX8, "depth", "(I)I"⟩
abbrev cX8_latestDay : ByteArray := prog_10_method_11_code
def yX8_latestDay : MethodName := ⟨RX8, "latestDay", "(I)I"⟩
abbrev cX8_countPages : ByteArray := prog_10_method_12_code
def yX8_countPages : MethodName := ⟨RX8, "countPages", "(I)I"⟩
abbrev cX8_countUnits : ByteArray := prog_10_method_13_code
def yX8_countUnits : MethodName := ⟨RX8, "countUnits", "()I"⟩
abbrev cX8_countChildren : ByteArray := prog_10_method_14_code
def yX8_countChildren : MethodName := ⟨RX8, "countChildren", "(I)I"⟩
abbrev cX8_findChild : ByteArray := prog_10_method_15_code
def yX8_findChild : MethodName := ⟨RX8, "findChild", "(II)I"⟩
abbrev cX8_pageSet : ByteArray := prog_10_method_16_code
def yX8_pageSet : MethodName := ⟨RX8, "pageSet", "(I)I"⟩
def RX9 : String := "FindingAid"
def TX9 : u_T := fun k => match k with
  | 0 => ("FindingAid", "now", "LFindingAid$State;", true)
  | 1 => ("FindingAid", "past", "[LFindingAid$State;", true)
  | 2 => ("FindingAid", "newest", "I", false)
  | 3 => ("FindingAid", "undoable", "I", false)
  | 4 => ("FindingAid", "saved", "LFindingAid$State;", false)
  | 5 => ("FindingAid", "report", "LFindingAid$Report;", true)
  | 6 => ("FindingAid", "input", "LFindingAid$Input;", true)
  | _ => ("FindingAid", "text", "Ljava/lang/StringBuilder;", true)
def tyX9 : Nat → FieldType := fun k => match k with
  | 0 => .object "FindingAid$State"
  | 1 => .array (.object "FindingAid$State")
  | 2 => .int
  | 3 => .int
  | 4 => .object "FindingAid$State"
  | 5 => .object "FindingAid$Report"
  | 6 => .object "FindingAid$Input"
  | _ => .object "java/lang/StringBuilder"
abbrev wsX90 : List Cond := u_ws RX9 TX9 8
theorem nmX9 : ∀ a, a < 8 → ∀ b, b < 8 → a ≠ b → (TX9 a).2.1 ≠ (TX9 b).2.1 := by decide +kernel
theorem tyX9_ok : ∀ k, k < 8 → parseFieldDescriptor (TX9 k).2.2.1 = some (tyX9 k) := by decide +kernel
abbrev cX9_init : ByteArray := prog_1_method_1_code
def yX9_init : MethodName := ⟨RX9, "<init>", "()V"⟩
abbrev cX9_add : ByteArray := prog_1_method_2_code
def yX9_add : MethodName := ⟨RX9, "add", "(IIIII)I"⟩
abbrev cX9_remove : ByteArray := prog_1_method_3_code
def yX9_remove : MethodName := ⟨RX9, "remove", "(I)I"⟩
abbrev cX9_move : ByteArray := prog_1_method_4_code
def yX9_move : MethodName := ⟨RX9, "move", "(II)I"⟩
abbrev cX9_node : ByteArray := prog_1_method_5_code
def yX9_node : MethodName := ⟨RX9, "node", "(II)I"⟩
abbrev cX9_child : ByteArray := prog_1_method_6_code
def yX9_child : MethodName := ⟨RX9, "child", "(II)I"⟩
abbrev cX9_setRule : ByteArray := prog_1_method_7_code
def yX9_setRule : MethodName := ⟨RX9, "setRule", "(III)I"⟩
abbrev cX9_setPage : ByteArray := prog_1_method_8_code
def yX9_setPage : MethodName := ⟨RX9, "setPage", "(III)I"⟩
abbrev cX9_restriction : ByteArray := prog_1_method_9_code
def yX9_restriction : MethodName := ⟨RX9, "restriction", "(II)I"⟩
abbrev cX9_openPages : ByteArray := prog_1_method_10_code
def yX9_openPages : MethodName := ⟨RX9, "openPages", "(II)I"⟩
abbrev cX9_firstDay : ByteArray := prog_1_method_11_code
def yX9_firstDay : MethodName := ⟨RX9, "firstDay", "(I)I"⟩
abbrev cX9_addContainer : ByteArray := prog_1_method_12_code
def yX9_addContainer : MethodName := ⟨RX9, "addContainer", "(I)I"⟩
abbrev cX9_put : ByteArray := prog_1_method_13_code
def yX9_put : MethodName := ⟨RX9, "put", "(II)I"⟩
abbrev cX9_takeOut : ByteArray := prog_1_method_14_code
def yX9_takeOut : MethodName := ⟨RX9, "takeOut", "(I)I"⟩
abbrev cX9_split : ByteArray := prog_1_method_15_code
def yX9_split : MethodName := ⟨RX9, "split", "(III)I"⟩
abbrev cX9_merge : ByteArray := prog_1_method_16_code
def yX9_merge : MethodName := ⟨RX9, "merge", "(II)I"⟩
abbrev cX9_container : ByteArray := prog_1_method_17_code
def yX9_container : MethodName := ⟨RX9, "container", "(II)I"⟩
abbrev cX9_unitAt : ByteArray := prog_1_method_18_code
def yX9_unitAt : MethodName := ⟨RX9, "unitAt", "(II)I"⟩
abbrev cX9_resolve : ByteArray := prog_1_method_19_code
def yX9_resolve : MethodName := ⟨RX9, "resolve", "(II)I"⟩
abbrev cX9_copy : ByteArray := prog_1_method_20_code
def yX9_copy : MethodName := ⟨RX9, "copy", "(II)I"⟩
abbrev cX9_copyPart : ByteArray := prog_1_method_21_code
def yX9_copyPart : MethodName := ⟨RX9, "copyPart", "(II)I"⟩
abbrev cX9_setSeats : ByteArray := prog_1_method_22_code
def yX9_setSeats : MethodName := ⟨RX9, "setSeats", "(I)I"⟩
abbrev cX9_request : ByteArray := prog_1_method_23_code
def yX9_request : MethodName := ⟨RX9, "request", "(III)I"⟩
abbrev cX9_requestPart : ByteArray := prog_1_method_24_code
def yX9_requestPart : MethodName := ⟨RX9, "requestPart", "(II)I"⟩
abbrev cX9_cancel : ByteArray := prog_1_method_25_code
def yX9_cancel : MethodName := ⟨RX9, "cancel", "(I)I"⟩
abbrev cX9_review : ByteArray := prog_1_method_26_code
def yX9_review : MethodName := ⟨RX9, "review", "()I"⟩
abbrev cX9_account : ByteArray := prog_1_method_27_code
def yX9_account : MethodName := ⟨RX9, "account", "(I)I"⟩
abbrev cX9_dayCount : ByteArray := prog_1_method_28_code
def yX9_dayCount : MethodName := ⟨RX9, "dayCount", "(II)I"⟩
abbrev cX9_openShare : ByteArray := prog_1_method_29_code
def yX9_openShare : MethodName := ⟨RX9, "openShare", "(I)D"⟩
abbrev cX9_report : ByteArray := prog_1_method_30_code
def yX9_report : MethodName := ⟨RX9, "report", "(II)I"⟩
abbrev cX9_feed : ByteArray := prog_1_method_31_code
def yX9_feed : MethodName := ⟨RX9, "feed", "(C)I"⟩
abbrev cX9_read : ByteArray := prog_1_method_32_code
def yX9_read : MethodName := ⟨RX9, "read", "(I)I"⟩
abbrev cX9_write : ByteArray := prog_1_method_33_code
def yX9_write : MethodName := ⟨RX9, "write", "(I)I"⟩
abbrev cX9_text : ByteArray := prog_1_method_34_code
def yX9_text : MethodName := ⟨RX9, "text", "(I)C"⟩
abbrev cX9_undo : ByteArray := prog_1_method_35_code
def yX9_undo : MethodName := ⟨RX9, "undo", "()I"⟩
abbrev cX9_save : ByteArray := prog_1_method_36_code
def yX9_save : MethodName := ⟨RX9, "save", "()I"⟩
abbrev cX9_restore : ByteArray := prog_1_method_37_code
def yX9_restore : MethodName := ⟨RX9, "restore", "()I"⟩
abbrev cX9_isDay : ByteArray := prog_1_method_38_code
def yX9_isDay : MethodName := ⟨RX9, "isDay", "(I)Z"⟩
abbrev cX9_fitsBelow : ByteArray := prog_1_method_39_code
def yX9_fitsBelow : MethodName := ⟨RX9, "fitsBelow", "(IIIII)Z"⟩
abbrev cX9_requireNode : ByteArray := prog_1_method_40_code
def yX9_requireNode : MethodName := ⟨RX9, "requireNode", "(I)V"⟩
abbrev cX9_requireUnit : ByteArray := prog_1_method_41_code
def yX9_requireUnit : MethodName := ⟨RX9, "requireUnit", "(I)V"⟩
abbrev cX9_requireContainer : ByteArray := prog_1_method_42_code
def yX9_requireContainer : MethodName := ⟨RX9, "requireContainer", "(I)V"⟩
abbrev cX9_requireCopy : ByteArray := prog_1_method_43_code
def yX9_requireCopy : MethodName := ⟨RX9, "requireCopy", "(I)V"⟩
abbrev cX9_requireRequest : ByteArray := prog_1_method_44_code
def yX9_requireRequest : MethodName := ⟨RX9, "requireRequest", "(I)V"⟩
abbrev cX9_requirePart : ByteArray := prog_1_method_45_code
def yX9_requirePart : MethodName := ⟨RX9, "requirePart", "(II)V"⟩
abbrev cX9_requireDay : ByteArray := prog_1_method_46_code
def yX9_requireDay : MethodName := ⟨RX9, "requireDay", "(I)V"⟩
abbrev cX9_requireCapacity : ByteArray := prog_1_method_47_code
def yX9_requireCapacity : MethodName := ⟨RX9, "requireCapacity", "(I)V"⟩
abbrev cX9_remember : ByteArray := prog_1_method_48_code
def yX9_remember : MethodName := ⟨RX9, "remember", "()V"⟩
abbrev cX9_fillReport : ByteArray := prog_1_method_49_code
def yX9_fillReport : MethodName := ⟨RX9, "fillReport", "(III)V"⟩
abbrev cX9_canGraft : ByteArray := prog_1_method_50_code
def yX9_canGraft : MethodName := ⟨RX9, "canGraft", "(I)Z"⟩
abbrev cX9_graft : ByteArray := prog_1_method_51_code
def yX9_graft : MethodName := ⟨RX9, "graft", "(I)V"⟩
abbrev cX9_appendNode : ByteArray := prog_1_method_52_code
def yX9_appendNode : MethodName := ⟨RX9, "appendNode", "(I)V"⟩
abbrev cX9_appendLink : ByteArray := prog_1_method_53_code
def yX9_appendLink : MethodName := ⟨RX9, "appendLink", "(IIZ)V"⟩
def RX10 : String := "FindingAidModel"
def TX10 : u_T := fun k => match k with
  | 0 => ("FindingAidModel", "thrown", "I", false)
  | 1 => ("FindingAidModel", "now", "[I", true)
  | 2 => ("FindingAidModel", "saved", "[I", true)
  | 3 => ("FindingAidModel", "before", "[I", true)
  | 4 => ("FindingAidModel", "history", "[[I", true)
  | 5 => ("FindingAidModel", "remembered", "I", false)
  | 6 => ("FindingAidModel", "isSaved", "Z", false)
  | 7 => ("FindingAidModel", "term", "I", false)
  | 8 => ("FindingAidModel", "deciding", "I", false)
  | 9 => ("FindingAidModel", "levels", "I", false)
  | 10 => ("FindingAidModel", "cause", "I", false)
  | 11 => ("FindingAidModel", "detail", "I", false)
  | 12 => ("FindingAidModel", "wanted", "I", false)
  | 13 => ("FindingAidModel", "copiesThen", "I", false)
  | 14 => ("FindingAidModel", "buffer", "[C", true)
  | 15 => ("FindingAidModel", "length", "I", false)
  | 16 => ("FindingAidModel", "at", "I", false)
  | 17 => ("FindingAidModel", "added", "I", false)
  | 18 => ("FindingAidModel", "isWrong", "Z", false)
  | 19 => ("FindingAidModel", "isRefused", "Z", false)
  | 20 => ("FindingAidModel", "text", "[C", true)
  | _ => ("FindingAidModel", "textLength", "I", false)
def tyX10 : Nat → FieldType := fun k => match k with
  | 0 => .int
  | 1 => .array .int
  | 2 => .array .int
  | 3 => .array .int
  | 4 => .array (.array .int)
  | 5 => .int
  | 6 => .boolean
  | 7 => .int
  | 8 => .int
  | 9 => .int
  | 10 => .int
  | 11 => .int
  | 12 => .int
  | 13 => .int
  | 14 => .array .char
  | 15 => .int
  | 16 => .int
  | 17 => .int
  | 18 => .boolean
  | 19 => .boolean
  | 20 => .array .char
  | _ => .int
abbrev wsX100 : List Cond := u_ws RX10 TX10 22
theorem nmX10 : ∀ a, a < 22 → ∀ b, b < 22 → a ≠ b → (TX10 a).2.1 ≠ (TX10 b).2.1 := by decide +kernel
theorem tyX10_ok : ∀ k, k < 22 → parseFieldDescriptor (TX10 k).2.2.1 = some (tyX10 k) := by decide +kernel
abbrev cX10_init : ByteArray := prog_12_method_1_code
def yX10_init : MethodName := ⟨RX10, "<init>", "()V"⟩
abbrev cX10_thrown : ByteArray := prog_12_method_2_code
def yX10_thrown : MethodName := ⟨RX10, "thrown", "()I"⟩
abbrev cX10_isBetween : ByteArray := prog_12_method_3_code
def yX10_isBetween : MethodName := ⟨RX10, "isBetween", "(III)Z"⟩
abbrev cX10_has : ByteArray := prog_12_method_4_code
def yX10_has : MethodName := ⟨RX10, "has", "(II)Z"⟩
abbrev cX10_countBits : ByteArray := prog_12_method_5_code
def yX10_countBits : MethodName := ⟨RX10, "countBits", "(I)I"⟩
abbrev cX10_greater : ByteArray := prog_12_method_6_code
def yX10_greater : MethodName := ⟨RX10, "greater", "(II)I"⟩
abbrev cX10_copyRow : ByteArray := prog_12_method_7_code
def yX10_copyRow : MethodName := ⟨RX10, "copyRow", "([I[I)V"⟩
abbrev cX10_fails : ByteArray := prog_12_method_8_code
def yX10_fails : MethodName := ⟨RX10, "fails", "(IZ)Z"⟩
abbrev cX10_rememberRow : ByteArray := prog_12_method_9_code
def yX10_rememberRow : MethodName := ⟨RX10, "rememberRow", "([I)V"⟩
abbrev cX10_remember : ByteArray := prog_12_method_10_code
def yX10_remember : MethodName := ⟨RX10, "remember", "()V"⟩
abbrev cX10_of : ByteArray := prog_12_method_11_code
def yX10_of : MethodName := ⟨RX10, "of", "(II)I"⟩
abbrev cX10_set : ByteArray := prog_12_method_12_code
def yX10_set : MethodName := ⟨RX10, "set", "(III)V"⟩
abbrev cX10_isNode : ByteArray := prog_12_method_13_code
def yX10_isNode : MethodName := ⟨RX10, "isNode", "(I)Z"⟩
abbrev cX10_isUnit : ByteArray := prog_12_method_14_code
def yX10_isUnit : MethodName := ⟨RX10, "isUnit", "(I)Z"⟩
abbrev cX10_makeNode : ByteArray := prog_12_method_15_code
def yX10_makeNode : MethodName := ⟨RX10, "makeNode", "(IIIII)I"⟩
abbrev cX10_isDay : ByteArray := prog_12_method_16_code
def yX10_isDay : MethodName := ⟨RX10, "isDay", "(I)Z"⟩
abbrev cX10_isGood : ByteArray := prog_12_method_17_code
def yX10_isGood : MethodName := ⟨RX10, "isGood", "(IIIII)Z"⟩
abbrev cX10_add : ByteArray := prog_12_method_18_code
def yX10_add : MethodName := ⟨RX10, "add", "(IIIII)I"⟩
abbrev cX10_isWithin : ByteArray := prog_12_method_19_code
def yX10_isWithin : MethodName := ⟨RX10, "isWithin", "(II)Z"⟩
abbrev cX10_forgetMarks : ByteArray := prog_12_method_20_code
def yX10_forgetMarks : MethodName := ⟨RX10, "forgetMarks", "(I)V"⟩
abbrev cX10_forgetRequest : ByteArray := prog_12_method_21_code
def yX10_forgetRequest : MethodName := ⟨RX10, "forgetRequest", "(I)V"⟩
abbrev cX10_asked : ByteArray := prog_12_method_22_code
def yX10_asked : MethodName := ⟨RX10, "asked", "(II)I"⟩
abbrev cX10_removeNode : ByteArray := prog_12_method_23_code
def yX10_removeNode : MethodName := ⟨RX10, "removeNode", "(I)V"⟩
abbrev cX10_remove : ByteArray := prog_12_method_24_code
def yX10_remove : MethodName := ⟨RX10, "remove", "(I)I"⟩
abbrev cX10_move : ByteArray := prog_12_method_25_code
def yX10_move : MethodName := ⟨RX10, "move", "(II)I"⟩
abbrev cX10_latest : ByteArray := prog_12_method_26_code
def yX10_latest : MethodName := ⟨RX10, "latest", "(I)I"⟩
abbrev cX10_countBelow : ByteArray := prog_12_method_27_code
def yX10_countBelow : MethodName := ⟨RX10, "countBelow", "(I)I"⟩
abbrev cX10_sumPages : ByteArray := prog_12_method_28_code
def yX10_sumPages : MethodName := ⟨RX10, "sumPages", "(I)I"⟩
abbrev cX10_nextChild : ByteArray := prog_12_method_29_code
def yX10_nextChild : MethodName := ⟨RX10, "nextChild", "(II)I"⟩
abbrev cX10_countChildren : ByteArray := prog_12_method_30_code
def yX10_countChildren : MethodName := ⟨RX10, "countChildren", "(I)I"⟩
abbrev cX10_countCopies : ByteArray := prog_12_method_31_code
def yX10_countCopies : MethodName := ⟨RX10, "countCopies", "(I)I"⟩
abbrev cX10_node : ByteArray := prog_12_method_32_code
def yX10_node : MethodName := ⟨RX10, "node", "(II)I"⟩
abbrev cX10_child : ByteArray := prog_12_method_33_code
def yX10_child : MethodName := ⟨RX10, "child", "(II)I"⟩
abbrev cX10_setRule : ByteArray := prog_12_method_34_code
def yX10_setRule : MethodName := ⟨RX10, "setRule", "(III)I"⟩
abbrev cX10_setPage : ByteArray := prog_12_method_35_code
def yX10_setPage : MethodName := ⟨RX10, "setPage", "(III)I"⟩
abbrev cX10_findTerm : ByteArray := prog_12_method_36_code
def yX10_findTerm : MethodName := ⟨RX10, "findTerm", "(I)V"⟩
abbrev cX10_lastClosed : ByteArray := prog_12_method_37_code
def yX10_lastClosed : MethodName := ⟨RX10, "lastClosed", "(I)I"⟩
abbrev cX10_lastClosedPage : ByteArray := prog_12_method_38_code
def yX10_lastClosedPage : MethodName := ⟨RX10, "lastClosedPage", "(II)I"⟩
abbrev cX10_restriction : ByteArray := prog_12_method_39_code
def yX10_restriction : MethodName := ⟨RX10, "restriction", "(II)I"⟩
abbrev cX10_openSet : ByteArray := prog_12_method_40_code
def yX10_openSet : MethodName := ⟨RX10, "openSet", "(II)I"⟩
abbrev cX10_allPages : ByteArray := prog_12_method_41_code
def yX10_allPages : MethodName := ⟨RX10, "allPages", "(I)I"⟩
abbrev cX10_openPages : ByteArray := prog_12_method_42_code
def yX10_openPages : MethodName := ⟨RX10, "openPages", "(II)I"⟩
abbrev cX10_copyOf : ByteArray := prog_12_method_43_code
def yX10_copyOf : MethodName := ⟨RX10, "copyOf", "(II)I"⟩
abbrev cX10_isCopy : ByteArray := prog_12_method_44_code
def yX10_isCopy : MethodName := ⟨RX10, "isCopy", "(I)Z"⟩
abbrev cX10_visible : ByteArray := prog_12_method_45_code
def yX10_visible : MethodName := ⟨RX10, "visible", "(I)I"⟩
abbrev cX10_canBeShown : ByteArray := prog_12_method_46_code
def yX10_canBeShown : MethodName := ⟨RX10, "canBeShown", "(II)Z"⟩
abbrev cX10_firstDay : ByteArray := prog_12_method_47_code
def yX10_firstDay : MethodName := ⟨RX10, "firstDay", "(I)I"⟩
abbrev cX10_copy : ByteArray := prog_12_method_48_code
def yX10_copy : MethodName := ⟨RX10, "copy", "(II)I"⟩
abbrev cX10_copyPart : ByteArray := prog_12_method_49_code
def yX10_copyPart : MethodName := ⟨RX10, "copyPart", "(II)I"⟩
abbrev cX10_in : ByteArray := prog_12_method_50_code
def yX10_in : MethodName := ⟨RX10, "in", "(II)I"⟩
abbrev cX10_setIn : ByteArray := prog_12_method_51_code
def yX10_setIn : MethodName := ⟨RX10, "setIn", "(III)V"⟩
abbrev cX10_isContainer : ByteArray := prog_12_method_52_code
def yX10_isContainer : MethodName := ⟨RX10, "isContainer", "(I)Z"⟩
abbrev cX10_countContainers : ByteArray := prog_12_method_53_code
def yX10_countContainers : MethodName := ⟨RX10, "countContainers", "()I"⟩
abbrev cX10_isFull : ByteArray := prog_12_method_54_code
def yX10_isFull : MethodName := ⟨RX10, "isFull", "()Z"⟩
abbrev cX10_pagesFrom : ByteArray := prog_12_method_55_code
def yX10_pagesFrom : MethodName := ⟨RX10, "pagesFrom", "(II)I"⟩
abbrev cX10_isCapacity : ByteArray := prog_12_method_56_code
def yX10_isCapacity : MethodName := ⟨RX10, "isCapacity", "(I)Z"⟩
abbrev cX10_makeContainer : ByteArray := prog_12_method_57_code
def yX10_makeContainer : MethodName := ⟨RX10, "makeContainer", "(I)I"⟩
abbrev cX10_addContainer : ByteArray := prog_12_method_58_code
def yX10_addContainer : MethodName := ⟨RX10, "addContainer", "(I)I"⟩
abbrev cX10_takeAway : ByteArray := prog_12_method_59_code
def yX10_takeAway : MethodName := ⟨RX10, "takeAway", "(I)V"⟩
abbrev cX10_putAtEnd : ByteArray := prog_12_method_60_code
def yX10_putAtEnd : MethodName := ⟨RX10, "putAtEnd", "(II)I"⟩
abbrev cX10_put : ByteArray := prog_12_method_61_code
def yX10_put : MethodName := ⟨RX10, "put", "(II)I"⟩
abbrev cX10_takeOut : ByteArray := prog_12_method_62_code
def yX10_takeOut : MethodName := ⟨RX10, "takeOut", "(I)I"⟩
abbrev cX10_putAll : ByteArray := prog_12_method_63_code
def yX10_putAll : MethodName := ⟨RX10, "putAll", "(III)I"⟩
abbrev cX10_split : ByteArray := prog_12_method_64_code
def yX10_split : MethodName := ⟨RX10, "split", "(III)I"⟩
abbrev cX10_merge : ByteArray := prog_12_method_65_code
def yX10_merge : MethodName := ⟨RX10, "merge", "(II)I"⟩
abbrev cX10_container : ByteArray := prog_12_method_66_code
def yX10_container : MethodName := ⟨RX10, "container", "(II)I"⟩
abbrev cX10_unitAt : ByteArray := prog_12_method_67_code
def yX10_unitAt : MethodName := ⟨RX10, "unitAt", "(II)I"⟩
abbrev cX10_resolve : ByteArray := prog_12_method_68_code
def yX10_resolve : MethodName := ⟨RX10, "resolve", "(II)I"⟩
abbrev cX10_setSeats : ByteArray := prog_12_method_69_code
def yX10_setSeats : MethodName := ⟨RX10, "setSeats", "(I)I"⟩
abbrev cX10_countRequests : ByteArray := prog_12_method_70_code
def yX10_countRequests : MethodName := ⟨RX10, "countRequests", "(II)I"⟩
abbrev cX10_countSeated : ByteArray := prog_12_method_71_code
def yX10_countSeated : MethodName := ⟨RX10, "countSeated", "(I)I"⟩
abbrev cX10_showing : ByteArray := prog_12_method_72_code
def yX10_showing : MethodName := ⟨RX10, "showing", "(III)I"⟩
abbrev cX10_refuse : ByteArray := prog_12_method_73_code
def yX10_refuse : MethodName := ⟨RX10, "refuse", "(III)V"⟩
abbrev cX10_lowest : ByteArray := prog_12_method_74_code
def yX10_lowest : MethodName := ⟨RX10, "lowest", "(I)I"⟩
abbrev cX10_decide : ByteArray := prog_12_method_75_code
def yX10_decide : MethodName := ⟨RX10, "decide", "(III)I"⟩
abbrev cX10_request : ByteArray := prog_12_method_76_code
def yX10_request : MethodName := ⟨RX10, "request", "(III)I"⟩
abbrev cX10_shownSet : ByteArray := prog_12_method_77_code
def yX10_shownSet : MethodName := ⟨RX10, "shownSet", "(I)I"⟩
abbrev cX10_requestPart : ByteArray := prog_12_method_78_code
def yX10_requestPart : MethodName := ⟨RX10, "requestPart", "(II)I"⟩
abbrev cX10_cancel : ByteArray := prog_12_method_79_code
def yX10_cancel : MethodName := ⟨RX10, "cancel", "(I)I"⟩
abbrev cX10_review : ByteArray := prog_12_method_80_code
def yX10_review : MethodName := ⟨RX10, "review", "()I"⟩
abbrev cX10_countUnits : ByteArray := prog_12_method_81_code
def yX10_countUnits : MethodName := ⟨RX10, "countUnits", "(Z)I"⟩
abbrev cX10_countCopiesThere : ByteArray := prog_12_method_82_code
def yX10_countCopiesThere : MethodName := ⟨RX10, "countCopiesThere", "()I"⟩
abbrev cX10_countShown : ByteArray := prog_12_method_83_code
def yX10_countShown : MethodName := ⟨RX10, "countShown", "(Z)I"⟩
abbrev cX10_countMarks : ByteArray := prog_12_method_84_code
def yX10_countMarks : MethodName := ⟨RX10, "countMarks", "()I"⟩
abbrev cX10_account : ByteArray := prog_12_method_85_code
def yX10_account : MethodName := ⟨RX10, "account", "(I)I"⟩
abbrev cX10_countOn : ByteArray := prog_12_method_86_code
def yX10_countOn : MethodName := ⟨RX10, "countOn", "(I)I"⟩
abbrev cX10_countOpen : ByteArray := prog_12_method_87_code
def yX10_countOpen : MethodName := ⟨RX10, "countOpen", "(IZ)I"⟩
abbrev cX10_dayCount : ByteArray := prog_12_method_88_code
def yX10_dayCount : MethodName := ⟨RX10, "dayCount", "(II)I"⟩
abbrev cX10_openShare : ByteArray := prog_12_method_89_code
def yX10_openShare : MethodName := ⟨RX10, "openShare", "(I)D"⟩
abbrev cX10_report : ByteArray := prog_12_method_90_code
def yX10_report : MethodName := ⟨RX10, "report", "(II)I"⟩
abbrev cX10_feed : ByteArray := prog_12_method_91_code
def yX10_feed : MethodName := ⟨RX10, "feed", "(C)I"⟩
abbrev cX10_passes : ByteArray := prog_12_method_92_code
def yX10_passes : MethodName := ⟨RX10, "passes", "(C)Z"⟩
abbrev cX10_seesDigit : ByteArray := prog_12_method_93_code
def yX10_seesDigit : MethodName := ⟨RX10, "seesDigit", "(C)Z"⟩
abbrev cX10_passNumber : ByteArray := prog_12_method_94_code
def yX10_passNumber : MethodName := ⟨RX10, "passNumber", "()I"⟩
abbrev cX10_must : ByteArray := prog_12_method_95_code
def yX10_must : MethodName := ⟨RX10, "must", "(C)V"⟩
abbrev cX10_passNode : ByteArray := prog_12_method_96_code
def yX10_passNode : MethodName := ⟨RX10, "passNode", "(IZ)V"⟩
abbrev cX10_read : ByteArray := prog_12_method_97_code
def yX10_read : MethodName := ⟨RX10, "read", "(I)I"⟩
abbrev cX10_writeLetter : ByteArray := prog_12_method_98_code
def yX10_writeLetter : MethodName := ⟨RX10, "writeLetter", "(C)V"⟩
abbrev cX10_writeNumber : ByteArray := prog_12_method_99_code
def yX10_writeNumber : MethodName := ⟨RX10, "writeNumber", "(I)V"⟩
abbrev cX10_writeNode : ByteArray := prog_12_method_100_code
def yX10_writeNode : MethodName := ⟨RX10, "writeNode", "(I)V"⟩
abbrev cX10_write : ByteArray := prog_12_method_101_code
def yX10_write : MethodName := ⟨RX10, "write", "(I)I"⟩
abbrev cX10_text : ByteArray := prog_12_method_102_code
def yX10_text : MethodName := ⟨RX10, "text", "(I)C"⟩
abbrev cX10_undo : ByteArray := prog_12_method_103_code
def yX10_undo : MethodName := ⟨RX10, "undo", "()I"⟩
abbrev cX10_save : ByteArray := prog_12_method_104_code
def yX10_save : MethodName := ⟨RX10, "save", "()I"⟩
abbrev cX10_restore : ByteArray := prog_12_method_105_code
def yX10_restore : MethodName := ⟨RX10, "restore", "()I"⟩
def RJx145de : String := "java/io/Serializable"
def TJx145de : u_T := fun k => match k with
  | _ => ("", "", "", false)
def tyJx145de : Nat → FieldType := fun k => match k with
  | _ => .int
abbrev wsJx145de0 : List Cond := u_ws RJx145de TJx145de 0
theorem nmJx145de : ∀ a, a < 0 → ∀ b, b < 0 → a ≠ b → (TJx145de a).2.1 ≠ (TJx145de b).2.1 := by decide +kernel
theorem tyJx145de_ok : ∀ k, k < 0 → parseFieldDescriptor (TJx145de k).2.2.1 = some (tyJx145de k) := by decide +kernel
def RJ5 : String := "java/lang/AbstractStringBuilder"
def TJ5 : u_T := fun k => match k with
  | _ => ("", "", "", false)
def tyJ5 : Nat → FieldType := fun k => match k with
  | _ => .int
abbrev wsJ50 : List Cond := u_ws RJ5 TJ5 0
theorem nmJ5 : ∀ a, a < 0 → ∀ b, b < 0 → a ≠ b → (TJ5 a).2.1 ≠ (TJ5 b).2.1 := by decide +kernel
theorem tyJ5_ok : ∀ k, k < 0 → parseFieldDescriptor (TJ5 k).2.2.1 = some (tyJ5 k) := by decide +kernel
abbrev cJ5_init_d00df : ByteArray := prog_14_method_2_code
def yJ5_init_d00df : MethodName := ⟨RJ5, "<init>", "(I)V"⟩
abbrev cJ5_length_8abf5 : ByteArray := prog_14_method_6_code
def yJ5_length_8abf5 : MethodName := ⟨RJ5, "length", "()I"⟩
abbrev cJ5_ensureCapacityInternal_d00df : ByteArray := prog_14_method_9_code
def yJ5_ensureCapacityInternal_d00df : MethodName := ⟨RJ5, "ensureCapacityInternal", "(I)V"⟩
abbrev cJ5_newCapacity_0f7a4 : ByteArray := prog_14_method_10_code
def yJ5_newCapacity_0f7a4 : MethodName := ⟨RJ5, "newCapacity", "(I)I"⟩
abbrev cJ5_inflate_da8c8 : ByteArray := prog_14_method_11_code
def yJ5_inflate_da8c8 : MethodName := ⟨RJ5, "inflate", "()V"⟩
abbrev cJ5_setLength_d00df : ByteArray := prog_14_method_13_code
def yJ5_setLength_d00df : MethodName := ⟨RJ5, "setLength", "(I)V"⟩
abbrev cJ5_charAt_5068e : ByteArray := prog_14_method_14_code
def yJ5_charAt_5068e : MethodName := ⟨RJ5, "charAt", "(I)C"⟩
abbrev cJ5_append_cf1ce : ByteArray := prog_14_method_22_code
def yJ5_append_cf1ce : MethodName := ⟨RJ5, "append", "(Ljava/lang/String;)Ljava/lang/AbstractStringBuilder;"⟩
abbrev cJ5_appendNull_278bc : ByteArray := prog_14_method_26_code
def yJ5_appendNull_278bc : MethodName := ⟨RJ5, "appendNull", "()Ljava/lang/AbstractStringBuilder;"⟩
abbrev cJ5_append_3fe6f : ByteArray := prog_14_method_31_code
def yJ5_append_3fe6f : MethodName := ⟨RJ5, "append", "(C)Ljava/lang/AbstractStringBuilder;"⟩
abbrev cJ5_append_c97b9 : ByteArray := prog_14_method_32_code
def yJ5_append_c97b9 : MethodName := ⟨RJ5, "append", "(I)Ljava/lang/AbstractStringBuilder;"⟩
abbrev cJ5_getValue_6d5f1 : ByteArray := prog_14_method_64_code
def yJ5_getValue_6d5f1 : MethodName := ⟨RJ5, "getValue", "()[B"⟩
abbrev cJ5_isLatin1_aae02 : ByteArray := prog_14_method_68_code
def yJ5_isLatin1_aae02 : MethodName := ⟨RJ5, "isLatin1", "()Z"⟩
abbrev cJ5_inflateIfNeededFor_a7421 : ByteArray := prog_14_method_71_code
def yJ5_inflateIfNeededFor_a7421 : MethodName := ⟨RJ5, "inflateIfNeededFor", "(Ljava/lang/String;)V"⟩
abbrev cJ5_putStringAt_47b60 : ByteArray := prog_14_method_73_code
def yJ5_putStringAt_47b60 : MethodName := ⟨RJ5, "putStringAt", "(ILjava/lang/String;)V"⟩
def RJx2cfe8 : String := "java/lang/Appendable"
def TJx2cfe8 : u_T := fun k => match k with
  | _ => ("", "", "", false)
def tyJx2cfe8 : Nat → FieldType := fun k => match k with
  | _ => .int
abbrev wsJx2cfe80 : List Cond := u_ws RJx2cfe8 TJx2cfe8 0
theorem nmJx2cfe8 : ∀ a, a < 0 → ∀ b, b < 0 → a ≠ b → (TJx2cfe8 a).2.1 ≠ (TJx2cfe8 b).2.1 := by decide +kernel
theorem tyJx2cfe8_ok : ∀ k, k < 0 → parseFieldDescriptor (TJx2cfe8 k).2.2.1 = some (tyJx2cfe8 k) := by decide +kernel
def RJx00060 : String := "java/lang/ArrayIndexOutOfBoundsException"
def TJx00060 : u_T := fun k => match k with
  | 0 => ("java/lang/Throwable", "backtrace", "Ljava/lang/Object;", false)
  | 1 => ("java/lang/Throwable", "detailMessage", "Ljava/lang/String;", false)
  | 2 => ("java/lang/Throwable", "cause", "Ljava/lang/Throwable;", false)
  | 3 => ("java/lang/Throwable", "stackTrace", "[Ljava/lang/StackTraceElement;", false)
  | 4 => ("java/lang/Throwable", "depth", "I", false)
  | _ => ("java/lang/Throwable", "suppressedExceptions", "Ljava/util/List;", false)
def tyJx00060 : Nat → FieldType := fun k => match k with
  | 0 => .object "java/lang/Object"
  | 1 => .object "java/lang/String"
  | 2 => .object "java/lang/Throwable"
  | 3 => .array (.object "java/lang/StackTraceElement")
  | 4 => .int
  | _ => .object "java/util/List"
abbrev wsJx000600 : List Cond := u_ws RJx00060 TJx00060 6
theorem nmJx00060 : ∀ a, a < 6 → ∀ b, b < 6 → a ≠ b → (TJx00060 a).2.1 ≠ (TJx00060 b).2.1 := by decide +kernel
theorem tyJx00060_ok : ∀ k, k < 6 → parseFieldDescriptor (TJx00060 k).2.2.1 = some (tyJx00060 k) := by decide +kernel
abbrev cJx00060_init_a7421 : ByteArray := prog_17_method_2_code
def yJx00060_init_a7421 : MethodName := ⟨RJx00060, "<init>", "(Ljava/lang/String;)V"⟩
abbrev cJx00060_init_d00df : ByteArray := prog_17_method_3_code
def yJx00060_init_d00df : MethodName := ⟨RJx00060, "<init>", "(I)V"⟩
def RJx9f9b0 : String := "java/lang/CharSequence"
def TJx9f9b0 : u_T := fun k => match k with
  | _ => ("", "", "", false)
def tyJx9f9b0 : Nat → FieldType := fun k => match k with
  | _ => .int
abbrev wsJx9f9b00 : List Cond := u_ws RJx9f9b0 TJx9f9b0 0
theorem nmJx9f9b0 : ∀ a, a < 0 → ∀ b, b < 0 → a ≠ b → (TJx9f9b0 a).2.1 ≠ (TJx9f9b0 b).2.1 := by decide +kernel
theorem tyJx9f9b0_ok : ∀ k, k < 0 → parseFieldDescriptor (TJx9f9b0 k).2.2.1 = some (tyJx9f9b0 k) := by decide +kernel
def RJx8e188 : String := "java/lang/Cloneable"
def TJx8e188 : u_T := fun k => match k with
  | _ => ("", "", "", false)
def tyJx8e188 : Nat → FieldType := fun k => match k with
  | _ => .int
abbrev wsJx8e1880 : List Cond := u_ws RJx8e188 TJx8e188 0
theorem nmJx8e188 : ∀ a, a < 0 → ∀ b, b < 0 → a ≠ b → (TJx8e188 a).2.1 ≠ (TJx8e188 b).2.1 := by decide +kernel
theorem tyJx8e188_ok : ∀ k, k < 0 → parseFieldDescriptor (TJx8e188 k).2.2.1 = some (tyJx8e188 k) := by decide +kernel
def RJxb160c : String := "java/lang/Comparable"
def TJxb160c : u_T := fun k => match k with
  | _ => ("", "", "", false)
def tyJxb160c : Nat → FieldType := fun k => match k with
  | _ => .int
abbrev wsJxb160c0 : List Cond := u_ws RJxb160c TJxb160c 0
theorem nmJxb160c : ∀ a, a < 0 → ∀ b, b < 0 → a ≠ b → (TJxb160c a).2.1 ≠ (TJxb160c b).2.1 := by decide +kernel
theorem tyJxb160c_ok : ∀ k, k < 0 → parseFieldDescriptor (TJxb160c k).2.2.1 = some (tyJxb160c k) := by decide +kernel
def RJ6 : String := "java/lang/Integer"
def TJ6 : u_T := fun k => match k with
  | _ => ("", "", "", false)
def tyJ6 : Nat → FieldType := fun k => match k with
  | _ => .int
abbrev wsJ60 : List Cond := u_ws RJ6 TJ6 0
theorem nmJ6 : ∀ a, a < 0 → ∀ b, b < 0 → a ≠ b → (TJ6 a).2.1 ≠ (TJ6 b).2.1 := by decide +kernel
theorem tyJ6_ok : ∀ k, k < 0 → parseFieldDescriptor (TJ6 k).2.2.1 = some (tyJ6 k) := by decide +kernel
abbrev cJ6_getChars_ba4f3 : ByteArray := prog_25_method_12_code
def yJ6_getChars_ba4f3 : MethodName := ⟨RJ6, "getChars", "(II[B)I"⟩
abbrev cJ6_stringSize_0f7a4 : ByteArray := prog_25_method_13_code
def yJ6_stringSize_0f7a4 : MethodName := ⟨RJ6, "stringSize", "(I)I"⟩
abbrev cJ6_bitCount_0f7a4 : ByteArray := prog_25_method_49_code
def yJ6_bitCount_0f7a4 : MethodName := ⟨RJ6, "bitCount", "(I)I"⟩
def RJ9 : String := "java/lang/Math"
def TJ9 : u_T := fun k => match k with
  | _ => ("", "", "", false)
def tyJ9 : Nat → FieldType := fun k => match k with
  | _ => .int
abbrev wsJ90 : List Cond := u_ws RJ9 TJ9 0
theorem nmJ9 : ∀ a, a < 0 → ∀ b, b < 0 → a ≠ b → (TJ9 a).2.1 ≠ (TJ9 b).2.1 := by decide +kernel
theorem tyJ9_ok : ∀ k, k < 0 → parseFieldDescriptor (TJ9 k).2.2.1 = some (tyJ9 k) := by decide +kernel
abbrev cJ9_max_7cf53 : ByteArray := prog_26_method_65_code
def yJ9_max_7cf53 : MethodName := ⟨RJ9, "max", "(II)I"⟩
abbrev cJ9_min_7cf53 : ByteArray := prog_26_method_69_code
def yJ9_min_7cf53 : MethodName := ⟨RJ9, "min", "(II)I"⟩
def RJxd2413 : String := "java/lang/Number"
def TJxd2413 : u_T := fun k => match k with
  | _ => ("", "", "", false)
def tyJxd2413 : Nat → FieldType := fun k => match k with
  | _ => .int
abbrev wsJxd24130 : List Cond := u_ws RJxd2413 TJxd2413 0
theorem nmJxd2413 : ∀ a, a < 0 → ∀ b, b < 0 → a ≠ b → (TJxd2413 a).2.1 ≠ (TJxd2413 b).2.1 := by decide +kernel
theorem tyJxd2413_ok : ∀ k, k < 0 → parseFieldDescriptor (TJxd2413 k).2.2.1 = some (tyJxd2413 k) := by decide +kernel
def RJ0 : String := "java/lang/String"
def TJ0 : u_T := fun k => match k with
  | 0 => ("java/lang/String", "value", "[B", true)
  | 1 => ("java/lang/String", "coder", "B", true)
  | 2 => ("java/lang/String", "hash", "I", false)
  | _ => ("java/lang/String", "hashIsZero", "Z", false)
def tyJ0 : Nat → FieldType := fun k => match k with
  | 0 => .array .byte
  | 1 => .byte
  | 2 => .int
  | _ => .boolean
abbrev wsJ00 : List Cond := u_ws RJ0 TJ0 4
theorem nmJ0 : ∀ a, a < 4 → ∀ b, b < 4 → a ≠ b → (TJ0 a).2.1 ≠ (TJ0 b).2.1 := by decide +kernel
theorem tyJ0_ok : ∀ k, k < 4 → parseFieldDescriptor (TJ0 k).2.2.1 = some (tyJ0 k) := by decide +kernel
abbrev cJ0_init_81219 : ByteArray := prog_29_method_53_code
def yJ0_init_81219 : MethodName := ⟨RJ0, "<init>", "(Ljava/lang/StringBuilder;)V"⟩
abbrev cJ0_length_8abf5 : ByteArray := prog_29_method_54_code
def yJ0_length_8abf5 : MethodName := ⟨RJ0, "length", "()I"⟩
abbrev cJ0_getBytes_840e7 : ByteArray := prog_29_method_147_code
def yJ0_getBytes_840e7 : MethodName := ⟨RJ0, "getBytes", "([BIB)V"⟩
abbrev cJ0_init_db425 : ByteArray := prog_29_method_150_code
def yJ0_init_db425 : MethodName := ⟨RJ0, "<init>", "(Ljava/lang/AbstractStringBuilder;Ljava/lang/Void;)V"⟩
abbrev cJ0_coder_7d493 : ByteArray := prog_29_method_152_code
def yJ0_coder_7d493 : MethodName := ⟨RJ0, "coder", "()B"⟩
abbrev cJ0_checkIndex_df160 : ByteArray := prog_29_method_155_code
def yJ0_checkIndex_df160 : MethodName := ⟨RJ0, "checkIndex", "(II)V"⟩
abbrev cJ0_checkBoundsOffCount_cabcc : ByteArray := prog_29_method_157_code
def yJ0_checkBoundsOffCount_cabcc : MethodName := ⟨RJ0, "checkBoundsOffCount", "(III)I"⟩
abbrev cJ0_checkBoundsBeginEnd_23922 : ByteArray := prog_29_method_158_code
def yJ0_checkBoundsBeginEnd_23922 : MethodName := ⟨RJ0, "checkBoundsBeginEnd", "(III)V"⟩
def RJ4 : String := "java/lang/StringBuilder"
def TJ4 : u_T := fun k => match k with
  | 0 => ("java/lang/AbstractStringBuilder", "value", "[B", false)
  | 1 => ("java/lang/AbstractStringBuilder", "coder", "B", false)
  | 2 => ("java/lang/AbstractStringBuilder", "maybeLatin1", "Z", false)
  | _ => ("java/lang/AbstractStringBuilder", "count", "I", false)
def tyJ4 : Nat → FieldType := fun k => match k with
  | 0 => .array .byte
  | 1 => .byte
  | 2 => .boolean
  | _ => .int
abbrev wsJ40 : List Cond := u_ws RJ4 TJ4 4
theorem nmJ4 : ∀ a, a < 4 → ∀ b, b < 4 → a ≠ b → (TJ4 a).2.1 ≠ (TJ4 b).2.1 := by decide +kernel
theorem tyJ4_ok : ∀ k, k < 4 → parseFieldDescriptor (TJ4 k).2.2.1 = some (tyJ4 k) := by decide +kernel
abbrev cJ4_init_da8c8 : ByteArray := prog_30_method_1_code
def yJ4_init_da8c8 : MethodName := ⟨RJ4, "<init>", "()V"⟩
abbrev cJ4_append_15ec4 : ByteArray := prog_30_method_7_code
def yJ4_append_15ec4 : MethodName := ⟨RJ4, "append", "(Ljava/lang/String;)Ljava/lang/StringBuilder;"⟩
abbrev cJ4_append_cf468 : ByteArray := prog_30_method_14_code
def yJ4_append_cf468 : MethodName := ⟨RJ4, "append", "(C)Ljava/lang/StringBuilder;"⟩
abbrev cJ4_append_bf812 : ByteArray := prog_30_method_15_code
def yJ4_append_bf812 : MethodName := ⟨RJ4, "append", "(I)Ljava/lang/StringBuilder;"⟩
abbrev cJ4_toString_0e30d : ByteArray := prog_30_method_42_code
def yJ4_toString_0e30d : MethodName := ⟨RJ4, "toString", "()Ljava/lang/String;"⟩
abbrev cJ4_charAt_5068e : ByteArray := prog_30_method_88_code
def yJ4_charAt_5068e : MethodName := ⟨RJ4, "charAt", "(I)C"⟩
abbrev cJ4_setLength_d00df : ByteArray := prog_30_method_89_code
def yJ4_setLength_d00df : MethodName := ⟨RJ4, "setLength", "(I)V"⟩
abbrev cJ4_length_8abf5 : ByteArray := prog_30_method_93_code
def yJ4_length_8abf5 : MethodName := ⟨RJ4, "length", "()I"⟩
def RJx7c733 : String := "java/lang/StringIndexOutOfBoundsException"
def TJx7c733 : u_T := fun k => match k with
  | 0 => ("java/lang/Throwable", "backtrace", "Ljava/lang/Object;", false)
  | 1 => ("java/lang/Throwable", "detailMessage", "Ljava/lang/String;", false)
  | 2 => ("java/lang/Throwable", "cause", "Ljava/lang/Throwable;", false)
  | 3 => ("java/lang/Throwable", "stackTrace", "[Ljava/lang/StackTraceElement;", false)
  | 4 => ("java/lang/Throwable", "depth", "I", false)
  | _ => ("java/lang/Throwable", "suppressedExceptions", "Ljava/util/List;", false)
def tyJx7c733 : Nat → FieldType := fun k => match k with
  | 0 => .object "java/lang/Object"
  | 1 => .object "java/lang/String"
  | 2 => .object "java/lang/Throwable"
  | 3 => .array (.object "java/lang/StackTraceElement")
  | 4 => .int
  | _ => .object "java/util/List"
abbrev wsJx7c7330 : List Cond := u_ws RJx7c733 TJx7c733 6
theorem nmJx7c733 : ∀ a, a < 6 → ∀ b, b < 6 → a ≠ b → (TJx7c733 a).2.1 ≠ (TJx7c733 b).2.1 := by decide +kernel
theorem tyJx7c733_ok : ∀ k, k < 6 → parseFieldDescriptor (TJx7c733 k).2.2.1 = some (tyJx7c733 k) := by decide +kernel
abbrev cJx7c733_init_d00df : ByteArray := prog_31_method_3_code
def yJx7c733_init_d00df : MethodName := ⟨RJx7c733, "<init>", "(I)V"⟩
def RJ1 : String := "java/lang/StringLatin1"
def TJ1 : u_T := fun k => match k with
  | _ => ("", "", "", false)
def tyJ1 : Nat → FieldType := fun k => match k with
  | _ => .int
abbrev wsJ10 : List Cond := u_ws RJ1 TJ1 0
theorem nmJ1 : ∀ a, a < 0 → ∀ b, b < 0 → a ≠ b → (TJ1 a).2.1 ≠ (TJ1 b).2.1 := by decide +kernel
theorem tyJ1_ok : ∀ k, k < 0 → parseFieldDescriptor (TJ1 k).2.2.1 = some (tyJ1 k) := by decide +kernel
abbrev cJ1_canEncode_fc78d : ByteArray := prog_32_method_3_code
def yJ1_canEncode_fc78d : MethodName := ⟨RJ1, "canEncode", "(C)Z"⟩
abbrev cJ1_fillNull_b72d1 : ByteArray := prog_32_method_48_code
def yJ1_fillNull_b72d1 : MethodName := ⟨RJ1, "fillNull", "([BII)V"⟩
abbrev cJ1_inflate_0e8fd : ByteArray := prog_32_method_50_code
def yJ1_inflate_0e8fd : MethodName := ⟨RJ1, "inflate", "([BI[BII)V"⟩
def RJ2 : String := "java/lang/StringUTF16"
def TJ2 : u_T := fun k => match k with
  | _ => ("", "", "", false)
def tyJ2 : Nat → FieldType := fun k => match k with
  | _ => .int
abbrev wsJ20 : List Cond := u_ws RJ2 TJ2 0
theorem nmJ2 : ∀ a, a < 0 → ∀ b, b < 0 → a ≠ b → (TJ2 a).2.1 ≠ (TJ2 b).2.1 := by decide +kernel
theorem tyJ2_ok : ∀ k, k < 0 → parseFieldDescriptor (TJ2 k).2.2.1 = some (tyJ2 k) := by decide +kernel
abbrev cJ2_newBytesFor_77867 : ByteArray := prog_33_method_2_code
def yJ2_newBytesFor_77867 : MethodName := ⟨RJ2, "newBytesFor", "(I)[B"⟩
abbrev cJ2_newBytesLength_0f7a4 : ByteArray := prog_33_method_3_code
def yJ2_newBytesLength_0f7a4 : MethodName := ⟨RJ2, "newBytesLength", "(I)I"⟩
abbrev cJ2_putChar_b72d1 : ByteArray := prog_33_method_4_code
def yJ2_putChar_b72d1 : MethodName := ⟨RJ2, "putChar", "([BII)V"⟩
abbrev cJ2_getChar_3b067 : ByteArray := prog_33_method_5_code
def yJ2_getChar_3b067 : MethodName := ⟨RJ2, "getChar", "([BI)C"⟩
abbrev cJ2_length_9d52b : ByteArray := prog_33_method_6_code
def yJ2_length_9d52b : MethodName := ⟨RJ2, "length", "([B)I"⟩
abbrev cJ2_coderFromArrayLen_85cad : ByteArray := prog_33_method_15_code
def yJ2_coderFromArrayLen_85cad : MethodName := ⟨RJ2, "coderFromArrayLen", "([BI)B"⟩
abbrev cJ2_compress_39247 : ByteArray := prog_33_method_17_code
def yJ2_compress_39247 : MethodName := ⟨RJ2, "compress", "([BII)[B"⟩
abbrev cJ2_compress_5af95 : ByteArray := prog_33_method_22_code
def yJ2_compress_5af95 : MethodName := ⟨RJ2, "compress", "([BI[BII)I"⟩
abbrev cJ2_fillNull_b72d1 : ByteArray := prog_33_method_70_code
def yJ2_fillNull_b72d1 : MethodName := ⟨RJ2, "fillNull", "([BII)V"⟩
abbrev cJ2_putCharSB_b72d1 : ByteArray := prog_33_method_71_code
def yJ2_putCharSB_b72d1 : MethodName := ⟨RJ2, "putCharSB", "([BII)V"⟩
abbrev cJ2_getChars_46870 : ByteArray := prog_33_method_77_code
def yJ2_getChars_46870 : MethodName := ⟨RJ2, "getChars", "(III[B)I"⟩
abbrev cJ2_putCharsAt_cd4e5 : ByteArray := prog_33_method_81_code
def yJ2_putCharsAt_cd4e5 : MethodName := ⟨RJ2, "putCharsAt", "([BICCCC)I"⟩
abbrev cJ2_inflate_0e8fd : ByteArray := prog_33_method_86_code
def yJ2_inflate_0e8fd : MethodName := ⟨RJ2, "inflate", "([BI[BII)V"⟩
abbrev cJ2_getChars_ba4f3 : ByteArray := prog_33_method_89_code
def yJ2_getChars_ba4f3 : MethodName := ⟨RJ2, "getChars", "(II[B)I"⟩
abbrev cJ2_checkIndex_2214a : ByteArray := prog_33_method_91_code
def yJ2_checkIndex_2214a : MethodName := ⟨RJ2, "checkIndex", "(I[B)V"⟩
abbrev cJ2_checkBoundsBeginEnd_d044e : ByteArray := prog_33_method_93_code
def yJ2_checkBoundsBeginEnd_d044e : MethodName := ⟨RJ2, "checkBoundsBeginEnd", "(II[B)V"⟩
abbrev cJ2_checkBoundsOffCount_d044e : ByteArray := prog_33_method_94_code
def yJ2_checkBoundsOffCount_d044e : MethodName := ⟨RJ2, "checkBoundsOffCount", "(II[B)V"⟩
def RJ10 : String := "java/lang/System"
def TJ10 : u_T := fun k => match k with
  | _ => ("", "", "", false)
def tyJ10 : Nat → FieldType := fun k => match k with
  | _ => .int
abbrev wsJ100 : List Cond := u_ws RJ10 TJ10 0
theorem nmJ10 : ∀ a, a < 0 → ∀ b, b < 0 → a ≠ b → (TJ10 a).2.1 ≠ (TJ10 b).2.1 := by decide +kernel
theorem tyJ10_ok : ∀ k, k < 0 → parseFieldDescriptor (TJ10 k).2.2.1 = some (tyJ10 k) := by decide +kernel
def RJxfd54e : String := "java/lang/constant/Constable"
def TJxfd54e : u_T := fun k => match k with
  | _ => ("", "", "", false)
def tyJxfd54e : Nat → FieldType := fun k => match k with
  | _ => .int
abbrev wsJxfd54e0 : List Cond := u_ws RJxfd54e TJxfd54e 0
theorem nmJxfd54e : ∀ a, a < 0 → ∀ b, b < 0 → a ≠ b → (TJxfd54e a).2.1 ≠ (TJxfd54e b).2.1 := by decide +kernel
theorem tyJxfd54e_ok : ∀ k, k < 0 → parseFieldDescriptor (TJxfd54e k).2.2.1 = some (tyJxfd54e k) := by decide +kernel
def RJx3cf43 : String := "java/lang/constant/ConstantDesc"
def TJx3cf43 : u_T := fun k => match k with
  | _ => ("", "", "", false)
def tyJx3cf43 : Nat → FieldType := fun k => match k with
  | _ => .int
abbrev wsJx3cf430 : List Cond := u_ws RJx3cf43 TJx3cf43 0
theorem nmJx3cf43 : ∀ a, a < 0 → ∀ b, b < 0 → a ≠ b → (TJx3cf43 a).2.1 ≠ (TJx3cf43 b).2.1 := by decide +kernel
theorem tyJx3cf43_ok : ∀ k, k < 0 → parseFieldDescriptor (TJx3cf43 k).2.2.1 = some (tyJx3cf43 k) := by decide +kernel
def RJ7 : String := "java/util/Arrays"
def TJ7 : u_T := fun k => match k with
  | _ => ("", "", "", false)
def tyJ7 : Nat → FieldType := fun k => match k with
  | _ => .int
abbrev wsJ70 : List Cond := u_ws RJ7 TJ7 0
theorem nmJ7 : ∀ a, a < 0 → ∀ b, b < 0 → a ≠ b → (TJ7 a).2.1 ≠ (TJ7 b).2.1 := by decide +kernel
theorem tyJ7_ok : ∀ k, k < 0 → parseFieldDescriptor (TJ7 k).2.2.1 = some (tyJ7 k) := by decide +kernel
abbrev cJ7_rangeCheck_23922 : ByteArray := prog_39_method_30_code
def yJ7_rangeCheck_23922 : MethodName := ⟨RJ7, "rangeCheck", "(III)V"⟩
abbrev cJ7_fill_53178 : ByteArray := prog_39_method_103_code
def yJ7_fill_53178 : MethodName := ⟨RJ7, "fill", "([II)V"⟩
abbrev cJ7_fill_eb02e : ByteArray := prog_39_method_110_code
def yJ7_fill_eb02e : MethodName := ⟨RJ7, "fill", "([BIIB)V"⟩
abbrev cJ7_copyOf_9075b : ByteArray := prog_39_method_121_code
def yJ7_copyOf_9075b : MethodName := ⟨RJ7, "copyOf", "([BI)[B"⟩
abbrev cJ7_copyOf_59c91 : ByteArray := prog_39_method_123_code
def yJ7_copyOf_59c91 : MethodName := ⟨RJ7, "copyOf", "([II)[I"⟩
abbrev cJ7_checkLength_df160 : ByteArray := prog_39_method_131_code
def yJ7_checkLength_df160 : MethodName := ⟨RJ7, "checkLength", "(II)V"⟩
abbrev cJ7_copyOfRange_39247 : ByteArray := prog_39_method_132_code
def yJ7_copyOfRange_39247 : MethodName := ⟨RJ7, "copyOfRange", "([BII)[B"⟩
abbrev cJ7_copyOfRangeByte_39247 : ByteArray := prog_39_method_133_code
def yJ7_copyOfRangeByte_39247 : MethodName := ⟨RJ7, "copyOfRangeByte", "([BII)[B"⟩
def RJ8 : String := "jdk/internal/util/ArraysSupport"
def TJ8 : u_T := fun k => match k with
  | _ => ("", "", "", false)
def tyJ8 : Nat → FieldType := fun k => match k with
  | _ => .int
abbrev wsJ80 : List Cond := u_ws RJ8 TJ8 0
theorem nmJ8 : ∀ a, a < 0 → ∀ b, b < 0 → a ≠ b → (TJ8 a).2.1 ≠ (TJ8 b).2.1 := by decide +kernel
theorem tyJ8_ok : ∀ k, k < 0 → parseFieldDescriptor (TJ8 k).2.2.1 = some (tyJ8 k) := by decide +kernel
abbrev cJ8_newLength_cabcc : ByteArray := prog_41_method_27_code
def yJ8_newLength_cabcc : MethodName := ⟨RJ8, "newLength", "(III)I"⟩
abbrev cJ8_hugeLength_7cf53 : ByteArray := prog_41_method_28_code
def yJ8_hugeLength_7cf53 : MethodName := ⟨RJ8, "hugeLength", "(II)I"⟩
def RJ3 : String := "jdk/internal/util/Preconditions"
def TJ3 : u_T := fun k => match k with
  | _ => ("", "", "", false)
def tyJ3 : Nat → FieldType := fun k => match k with
  | _ => .int
abbrev wsJ30 : List Cond := u_ws RJ3 TJ3 0
theorem nmJ3 : ∀ a, a < 0 → ∀ b, b < 0 → a ≠ b → (TJ3 a).2.1 ≠ (TJ3 b).2.1 := by decide +kernel
theorem tyJ3_ok : ∀ k, k < 0 → parseFieldDescriptor (TJ3 k).2.2.1 = some (tyJ3 k) := by decide +kernel
abbrev cJ3_checkIndex_8e157 : ByteArray := prog_42_method_11_code
def yJ3_checkIndex_8e157 : MethodName := ⟨RJ3, "checkIndex", "(IILjava/util/function/BiFunction;)I"⟩
abbrev cJ3_checkFromToIndex_8c36e : ByteArray := prog_42_method_12_code
def yJ3_checkFromToIndex_8c36e : MethodName := ⟨RJ3, "checkFromToIndex", "(IIILjava/util/function/BiFunction;)I"⟩
abbrev cJ3_checkFromIndexSize_8c36e : ByteArray := prog_42_method_13_code
def yJ3_checkFromIndexSize_8c36e : MethodName := ⟨RJ3, "checkFromIndexSize", "(IIILjava/util/function/BiFunction;)I"⟩
def RL : String := "FindingAidLaw"
abbrev cL_add : ByteArray := method_3_code
def yL_add : MethodName := ⟨RL, "add", "(LFindingAid;IIIII[J)I"⟩
abbrev cL_remove : ByteArray := method_4_code
def yL_remove : MethodName := ⟨RL, "remove", "(LFindingAid;I[J)I"⟩
abbrev cL_move : ByteArray := method_5_code
def yL_move : MethodName := ⟨RL, "move", "(LFindingAid;II[J)I"⟩
abbrev cL_node : ByteArray := method_6_code
def yL_node : MethodName := ⟨RL, "node", "(LFindingAid;II[J)I"⟩
abbrev cL_child : ByteArray := method_7_code
def yL_child : MethodName := ⟨RL, "child", "(LFindingAid;II[J)I"⟩
abbrev cL_setRule : ByteArray := method_8_code
def yL_setRule : MethodName := ⟨RL, "setRule", "(LFindingAid;III[J)I"⟩
abbrev cL_setPage : ByteArray := method_9_code
def yL_setPage : MethodName := ⟨RL, "setPage", "(LFindingAid;III[J)I"⟩
abbrev cL_restriction : ByteArray := method_10_code
def yL_restriction : MethodName := ⟨RL, "restriction", "(LFindingAid;II[J)I"⟩
abbrev cL_openPages : ByteArray := method_11_code
def yL_openPages : MethodName := ⟨RL, "openPages", "(LFindingAid;II[J)I"⟩
abbrev cL_firstDay : ByteArray := method_12_code
def yL_firstDay : MethodName := ⟨RL, "firstDay", "(LFindingAid;I[J)I"⟩
abbrev cL_addContainer : ByteArray := method_13_code
def yL_addContainer : MethodName := ⟨RL, "addContainer", "(LFindingAid;I[J)I"⟩
abbrev cL_put : ByteArray := method_14_code
def yL_put : MethodName := ⟨RL, "put", "(LFindingAid;II[J)I"⟩
abbrev cL_takeOut : ByteArray := method_15_code
def yL_takeOut : MethodName := ⟨RL, "takeOut", "(LFindingAid;I[J)I"⟩
abbrev cL_split : ByteArray := method_16_code
def yL_split : MethodName := ⟨RL, "split", "(LFindingAid;III[J)I"⟩
abbrev cL_merge : ByteArray := method_17_code
def yL_merge : MethodName := ⟨RL, "merge", "(LFindingAid;II[J)I"⟩
abbrev cL_container : ByteArray := method_18_code
def yL_container : MethodName := ⟨RL, "container", "(LFindingAid;II[J)I"⟩
abbrev cL_unitAt : ByteArray := method_19_code
def yL_unitAt : MethodName := ⟨RL, "unitAt", "(LFindingAid;II[J)I"⟩
abbrev cL_resolve : ByteArray := method_20_code
def yL_resolve : MethodName := ⟨RL, "resolve", "(LFindingAid;II[J)I"⟩
abbrev cL_copy : ByteArray := method_21_code
def yL_copy : MethodName := ⟨RL, "copy", "(LFindingAid;II[J)I"⟩
abbrev cL_copyPart : ByteArray := method_22_code
def yL_copyPart : MethodName := ⟨RL, "copyPart", "(LFindingAid;II[J)I"⟩
abbrev cL_setSeats : ByteArray := method_23_code
def yL_setSeats : MethodName := ⟨RL, "setSeats", "(LFindingAid;I[J)I"⟩
abbrev cL_request : ByteArray := method_24_code
def yL_request : MethodName := ⟨RL, "request", "(LFindingAid;III[J)I"⟩
abbrev cL_requestPart : ByteArray := method_25_code
def yL_requestPart : MethodName := ⟨RL, "requestPart", "(LFindingAid;II[J)I"⟩
abbrev cL_cancel : ByteArray := method_26_code
def yL_cancel : MethodName := ⟨RL, "cancel", "(LFindingAid;I[J)I"⟩
abbrev cL_account : ByteArray := method_27_code
def yL_account : MethodName := ⟨RL, "account", "(LFindingAid;I[J)I"⟩
abbrev cL_dayCount : ByteArray := method_28_code
def yL_dayCount : MethodName := ⟨RL, "dayCount", "(LFindingAid;II[J)I"⟩
abbrev cL_openShare : ByteArray := method_29_code
def yL_openShare : MethodName := ⟨RL, "openShare", "(LFindingAid;I[D)I"⟩
abbrev cL_report : ByteArray := method_30_code
def yL_report : MethodName := ⟨RL, "report", "(LFindingAid;II[J)I"⟩
abbrev cL_feed : ByteArray := method_31_code
def yL_feed : MethodName := ⟨RL, "feed", "(LFindingAid;C[J)I"⟩
abbrev cL_read : ByteArray := method_32_code
def yL_read : MethodName := ⟨RL, "read", "(LFindingAid;I[J)I"⟩
abbrev cL_write : ByteArray := method_33_code
def yL_write : MethodName := ⟨RL, "write", "(LFindingAid;I[J)I"⟩
abbrev cL_text : ByteArray := method_34_code
def yL_text : MethodName := ⟨RL, "text", "(LFindingAid;I[J)I"⟩
abbrev cL_undo : ByteArray := method_35_code
def yL_undo : MethodName := ⟨RL, "undo", "(LFindingAid;[J)I"⟩
abbrev cL_restore : ByteArray := method_36_code
def yL_restore : MethodName := ⟨RL, "restore", "(LFindingAid;[J)I"⟩
abbrev cL_law : ByteArray := code
def yL_law : MethodName := ⟨RL, "law", "([I)Z"⟩
abbrev vwCl : List vw_C := [(RJ0, TJ0, 4), (RJ4, TJ4, 4), (RJx00060, TJx00060, 6), (RJx7c733, TJx7c733, 6), (RX0, TX0, 9), (RX1, TX1, 3), (RX2, TX2, 9), (RX3, TX3, 3), (RX4, TX4, 3), (RX5, TX5, 5), (RX6, TX6, 3), (RX7, TX7, 6), (RX8, TX8, 10), (RX9, TX9, 8), (RX10, TX10, 22)]
end
section
/-! the walker's own layer: one list of words for all methods, one form of contract, rows for calls, ends and throws -/
def fz_WA : List Cond := lw_tbl.filter goodWord
def fz_kind : Cond → Bool
  | .declares _ => true
  | .castable _ _ => true
  | .methodLinkNest _ _ _ _ => true
  | .privateMethod _ => true
  | _ => false
theorem fz_tin {w : Cond} (i : Nat) (h : tables_1[i]? = some w) : w ∈ lw_tbl := List.mem_append_right _ (List.mem_of_getElem? h)
theorem fz_sin {w : Cond} (i : Nat) (h : (k2_sels lw_privs)[i]? = some w) : w ∈ lw_tbl := List.mem_append_left _ (List.mem_of_getElem? h)
theorem fz_in {w : Cond} (h : w ∈ lw_tbl) (g : goodWord w = true) : w ∈ fz_WA := List.mem_filter.mpr ⟨h, g⟩
abbrev fz_ws (y : MethodName) (b : ByteArray) (n : Nat) (r : Option FieldType) : List Cond := Cond.code y b n r :: fz_WA
theorem fz_m {w c : Cond} (h : w ∈ fz_WA) : w ∈ c :: fz_WA := List.mem_cons_of_mem _ h
theorem fz_goodWA {w : Cond} (h : w ∈ fz_WA) : (w.onTables && w.keeps) = true ∨ ∃ ty, w = .arrayClass ty := good_of_word (List.mem_filter.mp h).2
theorem fz_gW {L : List Cond} {c : Cond} (h : ∀ w ∈ L, w ∈ fz_WA) : GoodIn (c :: fz_WA) L := fun w hw => ⟨List.mem_cons_of_mem _ (h w hw), fz_goodWA (h w hw)⟩
theorem fz_allWA {y : MethodName} {b : ByteArray} {n : Nat} {r : Option FieldType} (h : Cond.code y b n r ∈ fz_WA) : ∀ w ∈ fz_ws y b n r, w ∈ fz_WA := fun w hw => (List.mem_cons.mp hw).elim (fun e => e ▸ h) id
theorem fz_g {y : MethodName} {b : ByteArray} {n : Nat} {r : Option FieldType} {c : Cond} (h : Cond.code y b n r ∈ fz_WA) : GoodIn (c :: fz_WA) (fz_ws y b n r) := fz_gW (fz_allWA h)
theorem fz_gV {c : Cond} {own C : String} {i : Nat} {y : MethodName} {b : ByteArray} {n : Nat} {r : Option FieldType} (h5 : Cond.code y b n r ∈ fz_WA) (h1 : Cond.methodLink own i y ∈ fz_WA) (h2 : Cond.instanceMethod y ∈ fz_WA) (h3 : Cond.selects C y y ∈ fz_WA) (h4 : Cond.initialized C ∈ fz_WA) : GoodIn (c :: fz_WA) (wsV own i C y (fz_ws y b n r)) := by
  refine fz_gW fun w hw => ?_
  unfold wsV at hw
  rcases List.mem_append.mp hw with h | h
  · simp only [List.mem_cons, List.not_mem_nil, or_false] at h
    rcases h with rfl | rfl | rfl | rfl <;> assumption
  · exact fz_allWA h5 w h
theorem fz_gS {c : Cond} {own : String} {i : Nat} {y : MethodName} {b : ByteArray} {n : Nat} {r : Option FieldType} (h5 : Cond.code y b n r ∈ fz_WA) (h1 : Cond.methodLink own i y ∈ fz_WA) (h2 : Cond.static y ∈ fz_WA) (h4 : Cond.initialized y.cls ∈ fz_WA) : GoodIn (c :: fz_WA) (va_wsS own i y (fz_ws y b n r)) := by
  refine fz_gW fun w hw => ?_
  unfold va_wsS at hw
  rcases List.mem_append.mp hw with h | h
  · simp only [List.mem_cons, List.not_mem_nil, or_false] at h
    rcases h with rfl | rfl | rfl <;> assumption
  · exact fz_allWA h5 w h
/-- the texts of the class's own throws: place in the pool, text -/
def fz_TX : List (Nat × String) := [(491, "no such node"), (71, "no such node can be added there"), (81, "there have been all nodes"), (91, "the root stays"), (100, "the node cannot be moved there"), (503, "no such part"), (163, "no such child"), (166, "no such rule"), (180, "no such page"), (182, "no such length"), (505, "no such day"), (499, "no such copy"), (212, "the copy can be shown on no day"), (507, "no such capacity"), (222, "no further container"), (496, "no such container"), (493, "the node is no unit"), (249, "no room in the container"), (254, "the node is in no container"), (262, "no such position"), (267, "no further container, or no room in it"), (273, "both containers are the same"), (287, "the mark refers to no unit"), (292, "no such set of hidden pages"), (295, "there have been all copies"), (323, "no such number of seats"), (328, "no such reader"), (333, "there are all requests"), (354, "the request is refused"), (501, "no such request"), (418, "there are no units"), (424, "no such level"), (434, "the input buffer is full"), (445, "a node of the text cannot be added"), (474, "no such index"), (480, "no change can be taken back"), (486, "nothing was saved")]
/-- which exception is no case of which other -/
def fz_NC : List (String × String) := [("java/lang/IllegalArgumentException", "java/lang/IndexOutOfBoundsException"), ("java/lang/IllegalStateException", "java/lang/IndexOutOfBoundsException"), ("java/util/NoSuchElementException", "java/lang/IndexOutOfBoundsException"), ("java/lang/UnsupportedOperationException", "java/lang/IndexOutOfBoundsException"), ("java/lang/ArithmeticException", "java/lang/IndexOutOfBoundsException"), ("java/lang/IndexOutOfBoundsException", "java/lang/IllegalArgumentException"), ("java/lang/IllegalStateException", "java/lang/IllegalArgumentException"), ("java/util/NoSuchElementException", "java/lang/IllegalArgumentException"), ("java/lang/UnsupportedOperationException", "java/lang/IllegalArgumentException"), ("java/lang/ArithmeticException", "java/lang/IllegalArgumentException"), ("java/lang/IndexOutOfBoundsException", "java/lang/IllegalStateException"), ("java/lang/IllegalArgumentException", "java/lang/IllegalStateException"), ("java/util/NoSuchElementException", "java/lang/IllegalStateException"), ("java/lang/UnsupportedOperationException", "java/lang/IllegalStateException"), ("java/lang/ArithmeticException", "java/lang/IllegalStateException"), ("java/lang/IndexOutOfBoundsException", "java/util/NoSuchElementException"), ("java/lang/IllegalArgumentException", "java/util/NoSuchElementException"), ("java/lang/IllegalStateException", "java/util/NoSuchElementException"), ("java/lang/UnsupportedOperationException", "java/util/NoSuchElementException"), ("java/lang/ArithmeticException", "java/util/NoSuchElementException"), ("java/lang/IndexOutOfBoundsException", "java/lang/UnsupportedOperationException"), ("java/lang/IllegalArgumentException", "java/lang/UnsupportedOperationException"), ("java/lang/IllegalStateException", "java/lang/UnsupportedOperationException"), ("java/util/NoSuchElementException", "java/lang/UnsupportedOperationException"), ("java/lang/ArithmeticException", "java/lang/UnsupportedOperationException"), ("java/lang/IndexOutOfBoundsException", "java/lang/ArithmeticException"), ("java/lang/IllegalArgumentException", "java/lang/ArithmeticException"), ("java/lang/IllegalStateException", "java/lang/ArithmeticException"), ("java/util/NoSuchElementException", "java/lang/ArithmeticException"), ("java/lang/UnsupportedOperationException", "java/lang/ArithmeticException")]
theorem fz_warmP {x : MethodName} {s U : State} (hW : s.WarmedH U.vm) (hZ : va_Nw (.privateMethod x) s) : va_Nw (.privateMethod x) U := va_tabs rfl (rfl : (s.setVm U.vm).vm = U.vm) (by rw [Cond.privateMethod_setVm hW.alike]; exact hZ)
theorem fz_warm {s U : State} {w : Cond} (hk : fz_kind w = true) (hW : s.WarmedH U.vm) (h : va_Nw w s) : va_Nw w U := by
  cases w <;> first | exact va_Nw.warmD hW h | exact va_Nw.warmC hW h | exact va_Nw.warmM hW h | exact fz_warmP hW h | (simp [fz_kind] at hk; done)
/-- what the Statement gives of the machine's statics and tables beyond the words -/
def fz_GS (A : Nat → Prop) (U : State) : Prop :=
  vx_Zq Bundle.tN "UNASSIGNED_STACK" Bundle.steD A U U.heap ∧ vx_Zq Bundle.tN "SUPPRESSED_SENTINEL" Bundle.listD A U U.heap ∧ va_Z "java/lang/String" "COMPACT_STRINGS" "Z" (.int 1) A U U.heap ∧ (∀ q ∈ fz_TX, ∃ sa, vk_R RX9 q.1 q.2 sa U) ∧ (∀ w ∈ lw_tbl, fz_kind w = true → va_Nw w U) ∧ ∀ q ∈ fz_NC, va_Nc q.1 q.2 U
theorem fz_GS_to {A0 A1 : Nat → Prop} {s U : State} {H : Heap} {locs : List Loc} (hG : fz_GS A0 s) (hS : va_S A0 s.heap H locs) (sub : ∀ q, A1 q → A0 q) (hU : U.heap = H) (hW : s.WarmedH U.vm) : fz_GS A1 U := by
  obtain ⟨h1, h2, h3, h4, h5, h6⟩ := hG
  have hq : ∀ a, a < s.heap.size → ¬ A0 a → H[a]? = s.heap[a]? := hS.2.1
  refine ⟨?_, ?_, ?_, ?_, ?_, ?_⟩
  · rw [hU]; exact ((h1.kept hq).narrow sub).moved hW.alike
  · rw [hU]; exact ((h2.kept hq).narrow sub).moved hW.alike
  · rw [hU]; exact ((h3.kept hq).narrow sub).moved hW.alike
  · intro q hq
    obtain ⟨sa, h⟩ := h4 q hq
    exact ⟨sa, h.warm hW⟩
  · intro w hw hk
    exact fz_warm hk hW (h5 w hw hk)
  · intro q hq
    exact (h6 q hq).moved hW.alike
/-- a contract's start: the world ws, all in A, and A all that is new -/
def fz_PC (A : Nat → Prop) (D : va_G) (tys : List (ClassId × FieldType)) (ws : va_W) (U : State) : Prop := (∀ a, U.heap.size ≤ a → A a) ∧ va_P D vwCl ws U.heap ∧ va_K D vwCl tys U ∧ va_D A ws ∧ fz_GS A U
theorem fz_blind {A : Nat → Prop} {D : va_G} {tys : List (ClassId × FieldType)} {ws : va_W} {av : List Value} : FrameBlind (va_Pc av (fz_PC A D tys ws)) := fun a U g mk q => by
  obtain ⟨q0, q1, q2, q3, q4, q5⟩ := q
  exact ⟨q0, q1, q2, va_K.moved (u := U) (U := U.calling g mk a) (Vm.Alike.refl U.vm) q3, q4, fz_GS_to (H := U.heap) (locs := []) q5 va_S.rf (fun _ h => h) rfl (State.WarmedH.refl U)⟩
theorem fz_pre {A A0 : Nat → Prop} {s : State} {H : Heap} {locs : List Loc} {D : va_G} {tys : List (ClassId × FieldType)} {ws : va_W} {av : List Value} (hA : ∀ a, H.size ≤ a → A a) (sub : ∀ q, A q → A0 q) (hP : va_P D vwCl ws H) (hK : va_K D vwCl tys s) (hD : va_D A ws) (hG : fz_GS A0 s) (hS : va_S A0 s.heap H locs) : ∀ U : State, U.heap = H → s.WarmedH U.vm → va_Pc av (fz_PC A D tys ws) av.toArray U :=
  fun U hU hW => ⟨rfl, by rw [hU]; exact hA, by rw [hU]; exact hP, va_K.moved hW.alike hK, hD, fz_GS_to hG hS sub hU hW⟩
theorem fz_Dsame {A : Nat → Prop} {ws ws' : va_W} (h : va_D A ws) (e : ws'.map Prod.fst = ws.map Prod.fst) : va_D A ws' := by
  have g : ∀ (k : Nat) (q : Nat × va_E), ws'[k]? = some q → ∃ r : Nat × va_E, ws[k]? = some r ∧ r.1 = q.1 := by
    intro k q hq
    have h1 : (ws'.map Prod.fst)[k]? = some q.1 := by rw [List.getElem?_map, hq]; rfl
    rw [e, List.getElem?_map] at h1
    cases hr : ws[k]? with
    | none => rw [hr] at h1; cases h1
    | some r =>
      rw [hr] at h1
      exact ⟨r, rfl, Option.some.inj h1⟩
  refine ⟨fun i j p q hi hj hpq => ?_, fun k q hk => ?_⟩
  · obtain ⟨p', h1, e1⟩ := g i p hi
    obtain ⟨q', h2, e2⟩ := g j q hj
    exact h.1 i j p' q' h1 h2 (by rw [e1, e2, hpq])
  · obtain ⟨r, h1, e1⟩ := g k q hk
    rw [← e1]
    exact h.2 k r h1
/-- what an exception leaves behind: its class's name as told -/
abbrev fz_XC (px : String → Prop) (A : Nat → Prop) : String → State → State → Prop := vx_X (fun _ : Unit => True) (fun E _ _ => px E) A
abbrev fz_QI {S : Type} (D : va_G) (A : Nat → Prop) (w1 : S → va_W) (post : Int32 → S → Prop) := va_Qi post (fun u t => va_P D vwCl (w1 u) t.heap) A
abbrev fz_QV {S : Type} (D : va_G) (A : Nat → Prop) (w1 : S → va_W) (post : S → Prop) := va_Qv post (fun u t => va_P D vwCl (w1 u) t.heap) A
section FZB
variable {l : Launch} {y : MethodName} {b : ByteArray} {n : Nat} {r : Option FieldType} {rm : Room} {A : Nat → Prop} {D : va_G} {tys : List (ClassId × FieldType)} {ws : va_W} {av : List Value} {Qc : Array Value → State → Outcome → State → Prop} {XC : String → State → State → Prop} {mc ms : Nat}
theorem fz_of (hy : plainName y.cls = true) (hn : (lg_sl av).length ≤ n)
    (body : ∀ (p : Program) (e : Env) (s : State) (m : MethodId) (below : List Frame) (meth : Method) (c : Code), p.tables.exec = Jvm.exec → c.code = b → meth.sig.returnType = r → c.maxLocals = n → s.vm.findClass y.cls = some m.cls → meth.locks = false → (∀ w ∈ fz_ws y b n r, w.before av.toArray s = true) → meth.name = y.name →
      (∀ a, s.heap.size ≤ a → A a) → va_P D vwCl ws s.heap → va_K D vwCl tys s → va_D A ws → fz_GS A s → va_S A s.heap s.heap [] → ∀ ls : Array Slot, lv_has ls n (lv_args 0 av) →
      W p l e rm s m av.toArray below meth c s.heap [] 0 0 (MQ below Qc av.toArray s mc ms A) (F0 m 0 ls [])) : Met l y (fz_ws y b n r) rm (va_Pc av (fz_PC A D tys ws)) Qc mc ms A := by
  refine Met.ofW (cc := b) (maxL := n) (ret := r) hy rfl ?_
  intro p e s m args below meth c s₁ B hml hv
  obtain ⟨rfl, hA, hP, hK, hD, hG⟩ := hv
  rw [lg_entry_eq]
  exact body p e s m below meth c B.exec B.bytes B.returns hml (findClass_of_methodNamed B.named) B.notSynchronized (atoms_spec (ws := fz_ws y b n r) B.pre) (name_of_methodNamed B.named B.method).1 hA hP hK hD hG va_S.rf _ (lv_entry av hn)
theorem fz_ofX (hy : plainName y.cls = true) (hn : (lg_sl av).length ≤ n)
    (body : ∀ (p : Program) (e : Env) (s : State) (m : MethodId) (below : List Frame) (meth : Method) (c : Code), p.tables.exec = Jvm.exec → c.code = b → meth.sig.returnType = r → c.maxLocals = n → s.vm.findClass y.cls = some m.cls → meth.locks = false → (∀ w ∈ fz_ws y b n r, w.before av.toArray s = true) → (∀ x ∈ c.exceptionTable.toList, False) →
      (∀ a, s.heap.size ≤ a → A a) → va_P D vwCl ws s.heap → va_K D vwCl tys s → va_D A ws → fz_GS A s → va_S A s.heap s.heap [] → ∀ ls : Array Slot, lv_has ls n (lv_args 0 av) →
      W p l e rm s m av.toArray below meth c s.heap [] 0 0 (vx_MQ below Qc XC av.toArray s mc ms A) (F0 m 0 ls [])) : vx_Met l y (fz_ws y b n r) rm (va_Pc av (fz_PC A D tys ws)) Qc XC mc ms A := by
  refine vx_ofW (cc := b) (maxL := n) (ret := r) hy rfl ?_
  intro p e s m args below meth c s₁ B hml ht hv
  obtain ⟨rfl, hA, hP, hK, hD, hG⟩ := hv
  rw [lg_entry_eq]
  exact body p e s m below meth c B.exec B.bytes B.returns hml (findClass_of_methodNamed B.named) B.notSynchronized (atoms_spec (ws := fz_ws y b n r) B.pre) ht hA hP hK hD hG va_S.rf _ (lv_entry av hn)
end FZB
section FZR
variable {p : Program} {l : Launch} {e : Env} {R : Room} {s : State} {m : MethodId} {args : Array Value} {below : List Frame} {meth : Method} {c : Code} {H : Heap} {locs : List Loc} {cells slots : Nat} {Q : State → Prop}
variable {cc : ByteArray} {pc : Nat} {ls : Array Slot} {rest st0 : List Value} {D : va_G} {A A1 : Nat → Prop} {tys : List (ClassId × FieldType)} {ws wc : va_W} {mc ms : Nat}
theorem fz_I {x y : Int32} (h : x = y) (k : W p l e R s m args below meth c H locs cells slots Q (F0 m pc ls (.int y :: rest))) : W p l e R s m args below meth c H locs cells slots Q (F0 m pc ls (.int x :: rest)) := h ▸ k
theorem fz_V {x y : Value} (h : x = y) (k : W p l e R s m args below meth c H locs cells slots Q (F0 m pc ls (y :: rest))) : W p l e R s m args below meth c H locs cells slots Q (F0 m pc ls (x :: rest)) := h ▸ k
theorem fz_vin {i : Int32} {n : Nat} (h : ¬ (i < 0 ∨ n ≤ i.toNatClampNeg)) : vp_in i n := h
theorem fz_iret {S : Type} {post : Int32 → S → Prop} {w1 : S → va_W} {ty : FieldType} {v : Int32} (hx : p.tables.exec = Jvm.exec) (hb : c.code = cc) (hr : meth.sig.returnType = some ty) (hn : narrow ty (.int v) = .int v) (hlocks : meth.locks = false) (hS : va_S A s.heap H locs) (hdg : decode cc pc = .ok (.ireturn, 1)) (u : S) (hp : post v u) (hP : va_P D vwCl (w1 u) H) (hc : cells ≤ mc) (hs : slots ≤ ms) :
    W p l e R s m args below meth c H locs cells slots (MQ below (fz_QI D A w1 post) args s mc ms A) (F0 m pc ls [.int v]) :=
  W.widen hc hs (W.zret hx hb hr hn (fun t ht _ => ⟨⟨v, u, rfl, hp, (show va_P D vwCl (w1 u) t.heap by rw [ht]; exact hP)⟩, hS.F ht⟩) hS.2.2 hdg hlocks)
theorem fz_vret {S : Type} {post : S → Prop} {w1 : S → va_W} (hx : p.tables.exec = Jvm.exec) (hb : c.code = cc) (hr : meth.sig.returnType = none) (hlocks : meth.locks = false) (hS : va_S A s.heap H locs) (hdg : decode cc pc = .ok (.return_, 1)) (u : S) (hp : post u) (hP : va_P D vwCl (w1 u) H) (hc : cells ≤ mc) (hs : slots ≤ ms) :
    W p l e R s m args below meth c H locs cells slots (MQ below (fz_QV D A w1 post) args s mc ms A) (F0 m pc ls []) :=
  W.widen hc hs (W.vret hx hb hr (fun t ht _ => ⟨⟨u, rfl, hp, (show va_P D vwCl (w1 u) t.heap by rw [ht]; exact hP)⟩, hS.F ht⟩) hS.2.2 hdg hlocks)
/-- not caught here -/
theorem fz_out {px : String → Prop} {Qc : Array Value → State → Outcome → State → Prop} {E : String} {ce : Cell} {q : Addr} (ht : ∀ x ∈ c.exceptionTable.toList, False) (hlocks : meth.locks = false) (hS : va_S A s.heap H locs) (hcell : H[q]? = some ce) (hv : ce.vm = .none) (hcl : s.vm.findClass E = some ce.cls) (hp : px E) (hc : cells ≤ mc) (hs : slots ≤ ms) :
    vx_W p l e R s m args below meth c H locs cells slots (vx_MQ below Qc (fz_XC px A) args s mc ms A) (F0 m pc ls rest) q :=
  vx_out (fun x hx => (ht x hx).elim) hlocks hcell hv hcl (fun t h _ => ⟨(), trivial, hp, hS.F h⟩) hS.2.2 hc hs
end FZR
end
section
/-! calls and throws over the contracts' one form -/
section FZC
variable {p : Program} {l : Launch} {e : Env} {R : Room} {s : State} {m : MethodId} {args : Array Value} {below : List Frame} {meth : Method} {c : Code} {H : Heap} {locs : List Loc} {cells slots : Nat} {Q : State → Prop}
variable {cc bytes : ByteArray} {pc nL maxL n index mc ms mc9 ms9 : Nat} {ls : Array Slot} {rest st0 As : List Value} {D : va_G} {A A1 : Nat → Prop} {tys : List (ClassId × FieldType)} {wc : va_W} {y : MethodName} {ret : Option FieldType} {wsy Ts : List Cond} {rm : Room} {own C host : String} {b : Nat}
theorem fz_cVi {S : Type} {post : Int32 → S → Prop} {w1 : S → va_W} (S0 : CallFix p m c cc nL s args Ts own) (hM : Met l y wsy rm (va_Pc (.ref b :: As) (fz_PC A1 D tys wc)) (fz_QI D A1 w1 post) mc ms A1) (cw : CallW R s args own C index y bytes maxL ret wsy rm mc ms n) (hrecv : ∃ cellB : Cell, H[b]? = some cellB ∧ cellB.vm.isStatics = false ∧ s.vm.findClass C = some cellB.cls) (sub : ∀ q, A1 q → A q) (hA1 : ∀ a, H.size ≤ a → A1 a) (hG : fz_GS A s) (hS : va_S A s.heap H locs) (hP : va_P D vwCl wc H) (hK : va_K D vwCl tys s) (hD : va_D A1 wc) (hn : As.length = n) (hsize : ls.size = nL) (hst : st0 = As.reverse ++ .ref b :: rest) (hcat : (rest.map fun v => v.category).sum ≤ 8) (hdg : decode cc pc = .ok (.invokevirtual index, 3)) (hf : cells + mc ≤ R.cells ∧ slots + ms ≤ R.slots)
    (kk : ∀ (r : Int32) (u : S) (H1 : Heap) (locs1 : List Loc), post r u → H.size ≤ H1.size → (∀ q : Nat, q < H.size → ¬ A1 q → H1[q]? = H[q]?) → va_P D vwCl (w1 u) H1 → va_S A s.heap H1 locs1 → W p l e R s m args below meth c H1 locs1 (cells + mc) (slots + ms) Q (F0 m (pc + 3) ls (.int r :: rest))) : W p l e R s m args below meth c H locs cells slots Q (F0 m pc ls st0) :=
  va_calli (va_runV (As := As) (rest := rest) S0 hM cw ⟨fz_blind, hrecv, fz_pre hA1 sub hP hK hD hG hS⟩ rfl hn hsize hst (lv_room hcat) hdg hf) hS (fun q _ h => sub q h) sub (fun r u t H1 locs1 ht hvm hw hB hz1 hk1 hS1 => kk r u H1 locs1 hw hz1 hk1 (by rw [← ht]; exact hB) hS1)
theorem fz_xVi {S : Type} {post : Int32 → S → Prop} {w1 : S → va_W} {px px9 : String → Prop} {Qc : Array Value → State → Outcome → State → Prop} (S0 : CallFix p m c cc nL s args Ts own) (hM : vx_Met l y wsy rm (va_Pc (.ref b :: As) (fz_PC A1 D tys wc)) (fz_QI D A1 w1 post) (fz_XC px A1) mc ms A1) (cw : CallW R s args own C index y bytes maxL ret wsy rm mc ms n) (hrecv : ∃ cellB : Cell, H[b]? = some cellB ∧ cellB.vm.isStatics = false ∧ s.vm.findClass C = some cellB.cls) (sub : ∀ q, A1 q → A q) (hA1 : ∀ a, H.size ≤ a → A1 a) (hG : fz_GS A s) (hS : va_S A s.heap H locs) (hP : va_P D vwCl wc H) (hK : va_K D vwCl tys s) (hD : va_D A1 wc) (hn : As.length = n) (hsize : ls.size = nL) (hst : st0 = As.reverse ++ .ref b :: rest) (hcat : (rest.map fun v => v.category).sum ≤ 8) (hdg : decode cc pc = .ok (.invokevirtual index, 3)) (hf : cells + mc ≤ R.cells ∧ slots + ms ≤ R.slots)
    (ht : ∀ x ∈ c.exceptionTable.toList, False) (hlocks : meth.locks = false) (hpx : ∀ E, px E → px9 E) (hle : cells + mc ≤ mc9 ∧ slots + ms ≤ ms9)
    (kk : ∀ (r : Int32) (u : S) (H1 : Heap) (locs1 : List Loc), post r u → H.size ≤ H1.size → (∀ q : Nat, q < H.size → ¬ A1 q → H1[q]? = H[q]?) → va_P D vwCl (w1 u) H1 → va_S A s.heap H1 locs1 → W p l e R s m args below meth c H1 locs1 (cells + mc) (slots + ms) (vx_MQ below Qc (fz_XC px9 A) args s mc9 ms9 A) (F0 m (pc + 3) ls (.int r :: rest))) : W p l e R s m args below meth c H locs cells slots (vx_MQ below Qc (fz_XC px9 A) args s mc9 ms9 A) (F0 m pc ls st0) :=
  vx_calli (vx_runV (As := As) (rest := rest) S0 hM cw ⟨fz_blind, hrecv, fz_pre hA1 sub hP hK hD hG hS⟩ rfl hn hsize hst (lv_room hcat) hdg hf) hS (fun q _ h => sub q h) sub (fun q _ h => sub q h) (fun E ce q9 u t H1 locs1 ht1 hvm _ hE hz1 hk1 hS1 h1 h2 h3 => fz_out ht hlocks hS1 h1 h2 h3 (hpx E hE) hle.1 hle.2) (fun r u t H1 locs1 ht hvm hw hB hz1 hk1 hS1 => kk r u H1 locs1 hw hz1 hk1 (by rw [← ht]; exact hB) hS1)
theorem fz_cVv {S : Type} {post : S → Prop} {w1 : S → va_W} (S0 : CallFix p m c cc nL s args Ts own) (hM : Met l y wsy rm (va_Pc (.ref b :: As) (fz_PC A1 D tys wc)) (fz_QV D A1 w1 post) mc ms A1) (cw : CallW R s args own C index y bytes maxL ret wsy rm mc ms n) (hrecv : ∃ cellB : Cell, H[b]? = some cellB ∧ cellB.vm.isStatics = false ∧ s.vm.findClass C = some cellB.cls) (sub : ∀ q, A1 q → A q) (hA1 : ∀ a, H.size ≤ a → A1 a) (hG : fz_GS A s) (hS : va_S A s.heap H locs) (hP : va_P D vwCl wc H) (hK : va_K D vwCl tys s) (hD : va_D A1 wc) (hn : As.length = n) (hsize : ls.size = nL) (hst : st0 = As.reverse ++ .ref b :: rest) (hcat : (rest.map fun v => v.category).sum ≤ 8) (hdg : decode cc pc = .ok (.invokevirtual index, 3)) (hf : cells + mc ≤ R.cells ∧ slots + ms ≤ R.slots)
    (kk : ∀ (u : S) (H1 : Heap) (locs1 : List Loc), post u → H.size ≤ H1.size → (∀ q : Nat, q < H.size → ¬ A1 q → H1[q]? = H[q]?) → va_P D vwCl (w1 u) H1 → va_S A s.heap H1 locs1 → W p l e R s m args below meth c H1 locs1 (cells + mc) (slots + ms) Q (F0 m (pc + 3) ls rest)) : W p l e R s m args below meth c H locs cells slots Q (F0 m pc ls st0) :=
  va_callv (va_runV (As := As) (rest := rest) S0 hM cw ⟨fz_blind, hrecv, fz_pre hA1 sub hP hK hD hG hS⟩ rfl hn hsize hst (lv_room hcat) hdg hf) hS (fun q _ h => sub q h) sub (fun u t H1 locs1 ht hvm hw hB hz1 hk1 hS1 => kk u H1 locs1 hw hz1 hk1 (by rw [← ht]; exact hB) hS1)
theorem fz_xVv {S : Type} {post : S → Prop} {w1 : S → va_W} {px px9 : String → Prop} {Qc : Array Value → State → Outcome → State → Prop} (S0 : CallFix p m c cc nL s args Ts own) (hM : vx_Met l y wsy rm (va_Pc (.ref b :: As) (fz_PC A1 D tys wc)) (fz_QV D A1 w1 post) (fz_XC px A1) mc ms A1) (cw : CallW R s args own C index y bytes maxL ret wsy rm mc ms n) (hrecv : ∃ cellB : Cell, H[b]? = some cellB ∧ cellB.vm.isStatics = false ∧ s.vm.findClass C = some cellB.cls) (sub : ∀ q, A1 q → A q) (hA1 : ∀ a, H.size ≤ a → A1 a) (hG : fz_GS A s) (hS : va_S A s.heap H locs) (hP : va_P D vwCl wc H) (hK : va_K D vwCl tys s) (hD : va_D A1 wc) (hn : As.length = n) (hsize : ls.size = nL) (hst : st0 = As.reverse ++ .ref b :: rest) (hcat : (rest.map fun v => v.category).sum ≤ 8) (hdg : decode cc pc = .ok (.invokevirtual index, 3)) (hf : cells + mc ≤ R.cells ∧ slots + ms ≤ R.slots)
    (ht : ∀ x ∈ c.exceptionTable.toList, False) (hlocks : meth.locks = false) (hpx : ∀ E, px E → px9 E) (hle : cells + mc ≤ mc9 ∧ slots + ms ≤ ms9)
    (kk : ∀ (u : S) (H1 : Heap) (locs1 : List Loc), post u → H.size ≤ H1.size → (∀ q : Nat, q < H.size → ¬ A1 q → H1[q]? = H[q]?) → va_P D vwCl (w1 u) H1 → va_S A s.heap H1 locs1 → W p l e R s m args below meth c H1 locs1 (cells + mc) (slots + ms) (vx_MQ below Qc (fz_XC px9 A) args s mc9 ms9 A) (F0 m (pc + 3) ls rest)) : W p l e R s m args below meth c H locs cells slots (vx_MQ below Qc (fz_XC px9 A) args s mc9 ms9 A) (F0 m pc ls st0) :=
  vx_callv (vx_runV (As := As) (rest := rest) S0 hM cw ⟨fz_blind, hrecv, fz_pre hA1 sub hP hK hD hG hS⟩ rfl hn hsize hst (lv_room hcat) hdg hf) hS (fun q _ h => sub q h) sub (fun q _ h => sub q h) (fun E ce q9 u t H1 locs1 ht1 hvm _ hE hz1 hk1 hS1 h1 h2 h3 => fz_out ht hlocks hS1 h1 h2 h3 (hpx E hE) hle.1 hle.2) (fun u t H1 locs1 ht hvm hw hB hz1 hk1 hS1 => kk u H1 locs1 hw hz1 hk1 (by rw [← ht]; exact hB) hS1)
theorem fz_cSi {S : Type} {post : Int32 → S → Prop} {w1 : S → va_W} (S0 : CallFix p m c cc nL s args Ts own) (hM : Met l y wsy rm (va_Pc As (fz_PC A1 D tys wc)) (fz_QI D A1 w1 post) mc ms A1) (cw : CallB R s args own index y bytes maxL ret wsy rm mc ms n ∧ (Cond.static y).before args s = true) (sub : ∀ q, A1 q → A q) (hA1 : ∀ a, H.size ≤ a → A1 a) (hG : fz_GS A s) (hS : va_S A s.heap H locs) (hP : va_P D vwCl wc H) (hK : va_K D vwCl tys s) (hD : va_D A1 wc) (hn : As.length = n) (hsize : ls.size = nL) (hst : st0 = As.reverse ++ rest) (hcat : (rest.map fun v => v.category).sum ≤ 8) (hdg : decode cc pc = .ok (.invokestatic index, 3)) (hf : cells + mc ≤ R.cells ∧ slots + ms ≤ R.slots)
    (kk : ∀ (r : Int32) (u : S) (H1 : Heap) (locs1 : List Loc), post r u → H.size ≤ H1.size → (∀ q : Nat, q < H.size → ¬ A1 q → H1[q]? = H[q]?) → va_P D vwCl (w1 u) H1 → va_S A s.heap H1 locs1 → W p l e R s m args below meth c H1 locs1 (cells + mc) (slots + ms) Q (F0 m (pc + 3) ls (.int r :: rest))) : W p l e R s m args below meth c H locs cells slots Q (F0 m pc ls st0) :=
  va_calli (va_runS (As := As) (rest := rest) S0 hM cw ⟨fz_blind, fz_pre hA1 sub hP hK hD hG hS⟩ rfl hn hsize hst (lv_room hcat) hdg hf) hS (fun q _ h => sub q h) sub (fun r u t H1 locs1 ht hvm hw hB hz1 hk1 hS1 => kk r u H1 locs1 hw hz1 hk1 (by rw [← ht]; exact hB) hS1)
theorem fz_xSi {S : Type} {post : Int32 → S → Prop} {w1 : S → va_W} {px px9 : String → Prop} {Qc : Array Value → State → Outcome → State → Prop} (S0 : CallFix p m c cc nL s args Ts own) (hM : vx_Met l y wsy rm (va_Pc As (fz_PC A1 D tys wc)) (fz_QI D A1 w1 post) (fz_XC px A1) mc ms A1) (cw : CallB R s args own index y bytes maxL ret wsy rm mc ms n ∧ (Cond.static y).before args s = true) (sub : ∀ q, A1 q → A q) (hA1 : ∀ a, H.size ≤ a → A1 a) (hG : fz_GS A s) (hS : va_S A s.heap H locs) (hP : va_P D vwCl wc H) (hK : va_K D vwCl tys s) (hD : va_D A1 wc) (hn : As.length = n) (hsize : ls.size = nL) (hst : st0 = As.reverse ++ rest) (hcat : (rest.map fun v => v.category).sum ≤ 8) (hdg : decode cc pc = .ok (.invokestatic index, 3)) (hf : cells + mc ≤ R.cells ∧ slots + ms ≤ R.slots)
    (ht : ∀ x ∈ c.exceptionTable.toList, False) (hlocks : meth.locks = false) (hpx : ∀ E, px E → px9 E) (hle : cells + mc ≤ mc9 ∧ slots + ms ≤ ms9)
    (kk : ∀ (r : Int32) (u : S) (H1 : Heap) (locs1 : List Loc), post r u → H.size ≤ H1.size → (∀ q : Nat, q < H.size → ¬ A1 q → H1[q]? = H[q]?) → va_P D vwCl (w1 u) H1 → va_S A s.heap H1 locs1 → W p l e R s m args below meth c H1 locs1 (cells + mc) (slots + ms) (vx_MQ below Qc (fz_XC px9 A) args s mc9 ms9 A) (F0 m (pc + 3) ls (.int r :: rest))) : W p l e R s m args below meth c H locs cells slots (vx_MQ below Qc (fz_XC px9 A) args s mc9 ms9 A) (F0 m pc ls st0) :=
  vx_calli (vx_runS (As := As) (rest := rest) S0 hM cw ⟨fz_blind, fz_pre hA1 sub hP hK hD hG hS⟩ rfl hn hsize hst (lv_room hcat) hdg hf) hS (fun q _ h => sub q h) sub (fun q _ h => sub q h) (fun E ce q9 u t H1 locs1 ht1 hvm _ hE hz1 hk1 hS1 h1 h2 h3 => fz_out ht hlocks hS1 h1 h2 h3 (hpx E hE) hle.1 hle.2) (fun r u t H1 locs1 ht hvm hw hB hz1 hk1 hS1 => kk r u H1 locs1 hw hz1 hk1 (by rw [← ht]; exact hB) hS1)
theorem fz_cSv {S : Type} {post : S → Prop} {w1 : S → va_W} (S0 : CallFix p m c cc nL s args Ts own) (hM : Met l y wsy rm (va_Pc As (fz_PC A1 D tys wc)) (fz_QV D A1 w1 post) mc ms A1) (cw : CallB R s args own index y bytes maxL ret wsy rm mc ms n ∧ (Cond.static y).before args s = true) (sub : ∀ q, A1 q → A q) (hA1 : ∀ a, H.size ≤ a → A1 a) (hG : fz_GS A s) (hS : va_S A s.heap H locs) (hP : va_P D vwCl wc H) (hK : va_K D vwCl tys s) (hD : va_D A1 wc) (hn : As.length = n) (hsize : ls.size = nL) (hst : st0 = As.reverse ++ rest) (hcat : (rest.map fun v => v.category).sum ≤ 8) (hdg : decode cc pc = .ok (.invokestatic index, 3)) (hf : cells + mc ≤ R.cells ∧ slots + ms ≤ R.slots)
    (kk : ∀ (u : S) (H1 : Heap) (locs1 : List Loc), post u → H.size ≤ H1.size → (∀ q : Nat, q < H.size → ¬ A1 q → H1[q]? = H[q]?) → va_P D vwCl (w1 u) H1 → va_S A s.heap H1 locs1 → W p l e R s m args below meth c H1 locs1 (cells + mc) (slots + ms) Q (F0 m (pc + 3) ls rest)) : W p l e R s m args below meth c H locs cells slots Q (F0 m pc ls st0) :=
  va_callv (va_runS (As := As) (rest := rest) S0 hM cw ⟨fz_blind, fz_pre hA1 sub hP hK hD hG hS⟩ rfl hn hsize hst (lv_room hcat) hdg hf) hS (fun q _ h => sub q h) sub (fun u t H1 locs1 ht hvm hw hB hz1 hk1 hS1 => kk u H1 locs1 hw hz1 hk1 (by rw [← ht]; exact hB) hS1)
theorem fz_xSv {S : Type} {post : S → Prop} {w1 : S → va_W} {px px9 : String → Prop} {Qc : Array Value → State → Outcome → State → Prop} (S0 : CallFix p m c cc nL s args Ts own) (hM : vx_Met l y wsy rm (va_Pc As (fz_PC A1 D tys wc)) (fz_QV D A1 w1 post) (fz_XC px A1) mc ms A1) (cw : CallB R s args own index y bytes maxL ret wsy rm mc ms n ∧ (Cond.static y).before args s = true) (sub : ∀ q, A1 q → A q) (hA1 : ∀ a, H.size ≤ a → A1 a) (hG : fz_GS A s) (hS : va_S A s.heap H locs) (hP : va_P D vwCl wc H) (hK : va_K D vwCl tys s) (hD : va_D A1 wc) (hn : As.length = n) (hsize : ls.size = nL) (hst : st0 = As.reverse ++ rest) (hcat : (rest.map fun v => v.category).sum ≤ 8) (hdg : decode cc pc = .ok (.invokestatic index, 3)) (hf : cells + mc ≤ R.cells ∧ slots + ms ≤ R.slots)
    (ht : ∀ x ∈ c.exceptionTable.toList, False) (hlocks : meth.locks = false) (hpx : ∀ E, px E → px9 E) (hle : cells + mc ≤ mc9 ∧ slots + ms ≤ ms9)
    (kk : ∀ (u : S) (H1 : Heap) (locs1 : List Loc), post u → H.size ≤ H1.size → (∀ q : Nat, q < H.size → ¬ A1 q → H1[q]? = H[q]?) → va_P D vwCl (w1 u) H1 → va_S A s.heap H1 locs1 → W p l e R s m args below meth c H1 locs1 (cells + mc) (slots + ms) (vx_MQ below Qc (fz_XC px9 A) args s mc9 ms9 A) (F0 m (pc + 3) ls rest)) : W p l e R s m args below meth c H locs cells slots (vx_MQ below Qc (fz_XC px9 A) args s mc9 ms9 A) (F0 m pc ls st0) :=
  vx_callv (vx_runS (As := As) (rest := rest) S0 hM cw ⟨fz_blind, fz_pre hA1 sub hP hK hD hG hS⟩ rfl hn hsize hst (lv_room hcat) hdg hf) hS (fun q _ h => sub q h) sub (fun q _ h => sub q h) (fun E ce q9 u t H1 locs1 ht1 hvm _ hE hz1 hk1 hS1 h1 h2 h3 => fz_out ht hlocks hS1 h1 h2 h3 (hpx E hE) hle.1 hle.2) (fun u t H1 locs1 ht hvm hw hB hz1 hk1 hS1 => kk u H1 locs1 hw hz1 hk1 (by rw [← ht]; exact hB) hS1)
theorem fz_cIv {S : Type} {post : S → Prop} {w1 : S → va_W} (S0 : CallFix p m c cc nL s args Ts own) (hM : Met l y wsy rm (va_Pc (.ref b :: As) (fz_PC A1 D tys wc)) (fz_QV D A1 w1 post) mc ms A1) (cw : CallB R s args own index y bytes maxL none wsy rm mc ms n ∧ y.name = "<init>" ∧ (Cond.instanceMethod y).before args s = true) (sub : ∀ q, A1 q → A q) (hA1 : ∀ a, H.size ≤ a → A1 a) (hG : fz_GS A s) (hS : va_S A s.heap H locs) (hP : va_P D vwCl wc H) (hK : va_K D vwCl tys s) (hD : va_D A1 wc) (hn : As.length = n) (hsize : ls.size = nL) (hst : st0 = As.reverse ++ .ref b :: rest) (hcat : (rest.map fun v => v.category).sum ≤ 8) (hdg : decode cc pc = .ok (.invokespecial index, 3)) (hf : cells + mc ≤ R.cells ∧ slots + ms ≤ R.slots)
    (kk : ∀ (u : S) (H1 : Heap) (locs1 : List Loc), post u → H.size ≤ H1.size → (∀ q : Nat, q < H.size → ¬ A1 q → H1[q]? = H[q]?) → va_P D vwCl (w1 u) H1 → va_S A s.heap H1 locs1 → W p l e R s m args below meth c H1 locs1 (cells + mc) (slots + ms) Q (F0 m (pc + 3) ls rest)) : W p l e R s m args below meth c H locs cells slots Q (F0 m pc ls st0) :=
  va_callv (va_runI (As := As) (rest := rest) S0 hM cw ⟨fz_blind, fz_pre hA1 sub hP hK hD hG hS⟩ rfl hn hsize hst (lv_room hcat) hdg hf) hS (fun q _ h => sub q h) sub (fun u t H1 locs1 ht hvm hw hB hz1 hk1 hS1 => kk u H1 locs1 hw hz1 hk1 (by rw [← ht]; exact hB) hS1)
theorem fz_cNv {S : Type} {post : S → Prop} {w1 : S → va_W} (S0 : CallFix p m c cc nL s args Ts own) (hM : Met l y wsy rm (va_Pc (.ref b :: As) (fz_PC A1 D tys wc)) (fz_QV D A1 w1 post) mc ms A1) (cw : va_CN R s args own index y host bytes maxL none wsy rm mc ms n ∧ y.name = "<init>" ∧ (Cond.instanceMethod y).before args s = true) (sub : ∀ q, A1 q → A q) (hA1 : ∀ a, H.size ≤ a → A1 a) (hG : fz_GS A s) (hS : va_S A s.heap H locs) (hP : va_P D vwCl wc H) (hK : va_K D vwCl tys s) (hD : va_D A1 wc) (hn : As.length = n) (hsize : ls.size = nL) (hst : st0 = As.reverse ++ .ref b :: rest) (hcat : (rest.map fun v => v.category).sum ≤ 8) (hdg : decode cc pc = .ok (.invokespecial index, 3)) (hf : cells + mc ≤ R.cells ∧ slots + ms ≤ R.slots)
    (kk : ∀ (u : S) (H1 : Heap) (locs1 : List Loc), post u → H.size ≤ H1.size → (∀ q : Nat, q < H.size → ¬ A1 q → H1[q]? = H[q]?) → va_P D vwCl (w1 u) H1 → va_S A s.heap H1 locs1 → W p l e R s m args below meth c H1 locs1 (cells + mc) (slots + ms) Q (F0 m (pc + 3) ls rest)) : W p l e R s m args below meth c H locs cells slots Q (F0 m pc ls st0) :=
  va_callv (va_runIN (As := As) (rest := rest) S0 hM cw ⟨fz_blind, fz_pre hA1 sub hP hK hD hG hS⟩ rfl hn hsize hst (lv_room hcat) hdg hf) hS (fun q _ h => sub q h) sub (fun u t H1 locs1 ht hvm hw hB hz1 hk1 hS1 => kk u H1 locs1 hw hz1 hk1 (by rw [← ht]; exact hB) hS1)
theorem fz_kT {w : Cond} (h : fz_kind w = true) : w.onTables = true := by
  cases w <;> first | rfl | (simp [fz_kind] at h; done)
theorem fz_hat {L : List Cond} {y : MethodName} {b : ByteArray} {n : Nat} {r : Option FieldType} (hts : ∀ w ∈ fz_ws y b n r, w.before args s = true) (hG : fz_GS A s) (h : ∀ w ∈ L, w ∈ lw_tbl ∧ (goodWord w || fz_kind w) = true) : ∀ w ∈ L, w.before args s = true := by
  intro w hw
  obtain ⟨h1, h2⟩ := h w hw
  rcases Bool.or_eq_true _ _ ▸ h2 with g | g
  · exact hts w (List.mem_cons_of_mem _ (fz_in h1 g))
  · exact va_Nw.use (fz_kT g) (hG.2.2.2.2.1 w h1 g)
theorem fz_throw {px : String → Prop} {Qc : Array Value → State → Outcome → State → Prop} {cls text : String} {names : List String} {ik is ic : Nat} {y0 : MethodName} {b0 : ByteArray} {n0 : Nat} {r0 : Option FieldType} (hx : p.tables.exec = Jvm.exec) (hb : c.code = cc) (hl : l.stackTraces = false) (hown : s.vm.findClass RX9 = some m.cls) (hts : ∀ w ∈ fz_ws y0 b0 n0 r0, w.before args s = true) (hG : fz_GS A s)
    (hcn : Bundle.fit cls = true ∧ ∀ n ∈ names, Bundle.fit n = true) (hk : Cond.classLink RX9 ik cls ∈ fz_WA ∧ Cond.initialized cls ∈ fz_WA) (htx : (is, text) ∈ fz_TX) (hat : ∀ w ∈ vx_atS RX9 ic cls names, w ∈ lw_tbl ∧ (goodWord w || fz_kind w) = true) (hgood : ∀ w ∈ Cond.classLink RX9 ik cls :: Cond.initialized cls :: vx_atS RX9 ic cls names, vx_ot w = true)
    (hS : va_S A s.heap H locs) (hsize : ls.size = c.maxLocals) (d0 : decode cc pc = .ok (.new ik, 3)) (d3 : decode cc (pc + 3) = .ok (.dup, 1)) (d4 : decode cc (pc + 4) = .ok (.ldc is, 2)) (d6 : decode cc (pc + 6) = .ok (.invokespecial ic, 3)) (d9 : decode cc (pc + 9) = .ok (.athrow, 1))
    (ht : ∀ x ∈ c.exceptionTable.toList, False) (hlocks : meth.locks = false) (hR : names.length + 3 < R.frames ∧ (rest.map fun v => v.category).sum + (13 * (names.length + 1) + 44) ≤ R.locals ∧ cells + 1 ≤ R.cells ∧ slots + 6 ≤ R.slots) (hp : px cls) (hc : cells + 1 ≤ mc ∧ slots + 6 ≤ ms) :
    W p l e R s m args below meth c H locs cells slots (vx_MQ below Qc (fz_XC px A) args s mc ms A) (F0 m pc ls rest) := by
  obtain ⟨sa, hstr⟩ := hG.2.2.2.1 _ htx
  refine vx_throwS (A := A) (sa := sa) hx hb hl hown hcn.1 hcn.2 (hts _ (fz_m hk.1)) (hts _ (fz_m hk.2)) hstr (fz_hat hts hG hat) hgood hG.1 hG.2.1 hS hsize d0 d3 d4 d6 d9 (fun x hx => (ht x hx).elim) hR.1 (Nat.le_trans (by omega) hR.2.1) hR.2.2.1 hR.2.2.2 hlocks (fun t _ h1 h2 => ⟨(), trivial, hp, Nat.le_trans hS.1 h1, fun q g1 g2 => (h2 q (Nat.lt_of_lt_of_le g1 hS.1)).trans (hS.2.1 q g1 g2)⟩) hS.2.2 hc.1 hc.2
theorem fz_throwW {px : String → Prop} {Qc : Array Value → State → Outcome → State → Prop} {cls text : String} {names : List String} {ik is ic : Nat} {y0 : MethodName} {b0 : ByteArray} {n0 : Nat} {r0 : Option FieldType} (hx : p.tables.exec = Jvm.exec) (hb : c.code = cc) (hl : l.stackTraces = false) (hown : s.vm.findClass RX9 = some m.cls) (hts : ∀ w ∈ fz_ws y0 b0 n0 r0, w.before args s = true) (hG : fz_GS A s)
    (hcn : Bundle.fit cls = true ∧ ∀ n ∈ names, Bundle.fit n = true) (hk : Cond.classLink RX9 ik cls ∈ fz_WA ∧ Cond.initialized cls ∈ fz_WA) (htx : (is, text) ∈ fz_TX) (hat : ∀ w ∈ vx_atS RX9 ic cls names, w ∈ lw_tbl ∧ (goodWord w || fz_kind w) = true) (hgood : ∀ w ∈ Cond.classLink RX9 ik cls :: Cond.initialized cls :: vx_atS RX9 ic cls names, vx_ot w = true)
    (hS : va_S A s.heap H locs) (hsize : ls.size = c.maxLocals) (d0 : decode cc pc = .ok (.new ik, 3)) (d3 : decode cc (pc + 3) = .ok (.dup, 1)) (d4 : decode cc (pc + 4) = .ok (.ldc_w is, 3)) (d6 : decode cc (pc + 7) = .ok (.invokespecial ic, 3)) (d9 : decode cc (pc + 10) = .ok (.athrow, 1))
    (ht : ∀ x ∈ c.exceptionTable.toList, False) (hlocks : meth.locks = false) (hR : names.length + 3 < R.frames ∧ (rest.map fun v => v.category).sum + (13 * (names.length + 1) + 44) ≤ R.locals ∧ cells + 1 ≤ R.cells ∧ slots + 6 ≤ R.slots) (hp : px cls) (hc : cells + 1 ≤ mc ∧ slots + 6 ≤ ms) :
    W p l e R s m args below meth c H locs cells slots (vx_MQ below Qc (fz_XC px A) args s mc ms A) (F0 m pc ls rest) := by
  obtain ⟨sa, hstr⟩ := hG.2.2.2.1 _ htx
  refine vx_throwSW (A := A) (sa := sa) hx hb hl hown hcn.1 hcn.2 (hts _ (fz_m hk.1)) (hts _ (fz_m hk.2)) hstr (fz_hat hts hG hat) hgood hG.1 hG.2.1 hS hsize d0 d3 d4 d6 d9 (fun x hx => (ht x hx).elim) hR.1 (Nat.le_trans (by omega) hR.2.1) hR.2.2.1 hR.2.2.2 hlocks (fun t _ h1 h2 => ⟨(), trivial, hp, Nat.le_trans hS.1 h1, fun q g1 g2 => (h2 q (Nat.lt_of_lt_of_le g1 hS.1)).trans (hS.2.1 q g1 g2)⟩) hS.2.2 hc.1 hc.2
end FZC
theorem fz_cwV {R : Room} {s : State} {args : Array Value} {own C : String} {i : Nat} {y : MethodName} {b : ByteArray} {n : Nat} {r : Option FieldType} {rm : Room} {mc ms : Nat} {c0 : Cond} (k : Nat) (hts : ∀ w ∈ c0 :: fz_WA, w.before args s = true) (hc : Cond.code y b n r ∈ fz_WA) (h1 : Cond.methodLink own i y ∈ fz_WA) (h2 : Cond.instanceMethod y ∈ fz_WA) (h3 : Cond.selects C y y ∈ fz_WA) (h4 : Cond.initialized y.cls ∈ fz_WA) (hrc : rm.cells = mc) (hrs : rm.slots = ms)
    (hd : y.cls ≠ "java/lang/invoke/MethodHandle" ∧ y.cls ≠ "java/lang/invoke/VarHandle" ∧ (parseMethodDescriptor y.desc).map (fun d => d.parameters.length) = some k) (hR : rm.frames + 1 ≤ R.frames ∧ 8 + (n + 11) + rm.locals ≤ R.locals) : CallW R s args own C i y b n r (fz_ws y b n r) rm mc ms k :=
  ⟨callB_of k hts (fz_g hc) rfl hrc hrs (hts _ (fz_m h4)) (hts _ (fz_m h1)) hd hR, hts _ (fz_m h2), hts _ (fz_m h3)⟩
theorem fz_cwS {R : Room} {s : State} {args : Array Value} {own : String} {i : Nat} {y : MethodName} {b : ByteArray} {n : Nat} {r : Option FieldType} {rm : Room} {mc ms : Nat} {c0 : Cond} (k : Nat) (hts : ∀ w ∈ c0 :: fz_WA, w.before args s = true) (hc : Cond.code y b n r ∈ fz_WA) (h1 : Cond.methodLink own i y ∈ fz_WA) (h2 : Cond.static y ∈ fz_WA) (h4 : Cond.initialized y.cls ∈ fz_WA) (hrc : rm.cells = mc) (hrs : rm.slots = ms)
    (hd : y.cls ≠ "java/lang/invoke/MethodHandle" ∧ y.cls ≠ "java/lang/invoke/VarHandle" ∧ (parseMethodDescriptor y.desc).map (fun d => d.parameters.length) = some k) (hR : rm.frames + 1 ≤ R.frames ∧ 8 + (n + 11) + rm.locals ≤ R.locals) : CallB R s args own i y b n r (fz_ws y b n r) rm mc ms k ∧ (Cond.static y).before args s = true :=
  ⟨callB_of k hts (fz_g hc) rfl hrc hrs (hts _ (fz_m h4)) (hts _ (fz_m h1)) hd hR, hts _ (fz_m h2)⟩
end
section
section FZD
variable {p : Program} {l : Launch} {e : Env} {R : Room} {s : State} {m : MethodId} {args : Array Value} {below : List Frame} {meth : Method} {c : Code} {H : Heap} {locs : List Loc} {cells slots : Nat} {Q : State → Prop}
variable {cc bytes : ByteArray} {pc nL maxL n index mc ms mc9 ms9 : Nat} {ls : Array Slot} {rest st0 As : List Value} {D : va_G} {A A1 : Nat → Prop} {tys : List (ClassId × FieldType)} {wc : va_W} {y : MethodName} {ret : Option FieldType} {wsy Ts : List Cond} {rm : Room} {own C host : String} {b : Nat}
abbrev fz_QR {S : Type} (D : va_G) (A : Nat → Prop) (w1 : S → va_W) (a0 : Nat) := va_Qr (fun _ : S => True) (fun u a t => a = a0 ∧ va_P D vwCl (w1 u) t.heap) A
theorem fz_nil : va_P D vwCl [] H := fun k q h => by simp at h
theorem fz_rret {S : Type} {w1 : S → va_W} {a0 : Nat} {rt : FieldType} (hx : p.tables.exec = Jvm.exec) (hb : c.code = cc) (hr : meth.sig.returnType = some rt) (hrt : (∃ n, rt = .object n) ∨ ∃ t, rt = .array t) (hlocks : meth.locks = false) (hS : va_S A s.heap H locs) (hdg : decode cc pc = .ok (.areturn, 1)) (u : S) (hP : va_P D vwCl (w1 u) H) (hc : cells ≤ mc) (hs : slots ≤ ms) :
    W p l e R s m args below meth c H locs cells slots (MQ below (fz_QR D A w1 a0) args s mc ms A) (F0 m pc ls [.ref a0]) :=
  W.widen hc hs (W.aret hx hb hr hrt (Or.inr ⟨_, rfl⟩) (fun t ht _ => ⟨⟨u, a0, rfl, trivial, rfl, (show va_P D vwCl (w1 u) t.heap by rw [ht]; exact hP)⟩, hS.F ht⟩) hS.2.2 hdg hlocks)
theorem fz_cVr {S : Type} {w1 : S → va_W} {a0 : Nat} (S0 : CallFix p m c cc nL s args Ts own) (hM : Met l y wsy rm (va_Pc (.ref b :: As) (fz_PC A1 D tys wc)) (fz_QR D A1 w1 a0) mc ms A1) (cw : CallW R s args own C index y bytes maxL ret wsy rm mc ms n) (hrecv : ∃ cellB : Cell, H[b]? = some cellB ∧ cellB.vm.isStatics = false ∧ s.vm.findClass C = some cellB.cls) (sub : ∀ q, A1 q → A q) (hA1 : ∀ a, H.size ≤ a → A1 a) (hG : fz_GS A s) (hS : va_S A s.heap H locs) (hP : va_P D vwCl wc H) (hK : va_K D vwCl tys s) (hD : va_D A1 wc) (hn : As.length = n) (hsize : ls.size = nL) (hst : st0 = As.reverse ++ .ref b :: rest) (hcat : (rest.map fun v => v.category).sum ≤ 8) (hdg : decode cc pc = .ok (.invokevirtual index, 3)) (hf : cells + mc ≤ R.cells ∧ slots + ms ≤ R.slots)
    (kk : ∀ (u : S) (H1 : Heap) (locs1 : List Loc), True → H.size ≤ H1.size → (∀ q : Nat, q < H.size → ¬ A1 q → H1[q]? = H[q]?) → va_P D vwCl (w1 u) H1 → va_S A s.heap H1 locs1 → W p l e R s m args below meth c H1 locs1 (cells + mc) (slots + ms) Q (F0 m (pc + 3) ls (.ref a0 :: rest))) : W p l e R s m args below meth c H locs cells slots Q (F0 m pc ls st0) :=
  va_callr (va_runV (As := As) (rest := rest) S0 hM cw ⟨fz_blind, hrecv, fz_pre hA1 sub hP hK hD hG hS⟩ rfl hn hsize hst (lv_room hcat) hdg hf) hS (fun q _ h => sub q h) sub (fun u ra t H1 locs1 ht hvm hw hB hz1 hk1 hS1 => by obtain ⟨rfl, hB⟩ := hB; exact kk u H1 locs1 trivial hz1 hk1 (by rw [← ht]; exact hB) hS1)
theorem fz_cUi {S : Type} {w1 : S → va_W} {post : Int32 → S → Prop} (S0 : CallFix p m c cc nL s args Ts own) (hM : Met l y wsy rm (va_Pc (.ref b :: As) (fz_PC A1 D tys wc)) (fz_QI D A1 w1 post) mc ms A1) (cw : va_CS R s args own index y bytes maxL ret wsy rm mc ms n) {cC : ClassId} (hat : ClassAt s C cC) (hrecv : ∃ cellB : Cell, H[b]? = some cellB ∧ cellB.vm.isStatics = false ∧ s.vm.findClass C = some cellB.cls) (sub : ∀ q, A1 q → A q) (hA1 : ∀ a, H.size ≤ a → A1 a) (hG : fz_GS A s) (hS : va_S A s.heap H locs) (hP : va_P D vwCl wc H) (hK : va_K D vwCl tys s) (hD : va_D A1 wc) (hn : As.length = n) (hsize : ls.size = nL) (hst : st0 = As.reverse ++ .ref b :: rest) (hcat : (rest.map fun v => v.category).sum ≤ 8) (hdg : decode cc pc = .ok (.invokespecial index, 3)) (hf : cells + mc ≤ R.cells ∧ slots + ms ≤ R.slots)
    (kk : ∀ (r : Int32) (u : S) (H1 : Heap) (locs1 : List Loc), post r u → H.size ≤ H1.size → (∀ q : Nat, q < H.size → ¬ A1 q → H1[q]? = H[q]?) → va_P D vwCl (w1 u) H1 → va_S A s.heap H1 locs1 → W p l e R s m args below meth c H1 locs1 (cells + mc) (slots + ms) Q (F0 m (pc + 3) ls (.int r :: rest))) : W p l e R s m args below meth c H locs cells slots Q (F0 m pc ls st0) :=
  va_calli (va_runSU (As := As) (rest := rest) hat S0 hM cw ⟨fz_blind, hrecv, fz_pre hA1 sub hP hK hD hG hS⟩ rfl hn hsize hst (lv_room hcat) hdg hf) hS (fun q _ h => sub q h) sub (fun r u t H1 locs1 ht hvm hw hB hz1 hk1 hS1 => kk r u H1 locs1 hw hz1 hk1 (by rw [← ht]; exact hB) hS1)
theorem fz_cUv {S : Type} {w1 : S → va_W} {post : S → Prop} (S0 : CallFix p m c cc nL s args Ts own) (hM : Met l y wsy rm (va_Pc (.ref b :: As) (fz_PC A1 D tys wc)) (fz_QV D A1 w1 post) mc ms A1) (cw : va_CS R s args own index y bytes maxL ret wsy rm mc ms n) {cC : ClassId} (hat : ClassAt s C cC) (hrecv : ∃ cellB : Cell, H[b]? = some cellB ∧ cellB.vm.isStatics = false ∧ s.vm.findClass C = some cellB.cls) (sub : ∀ q, A1 q → A q) (hA1 : ∀ a, H.size ≤ a → A1 a) (hG : fz_GS A s) (hS : va_S A s.heap H locs) (hP : va_P D vwCl wc H) (hK : va_K D vwCl tys s) (hD : va_D A1 wc) (hn : As.length = n) (hsize : ls.size = nL) (hst : st0 = As.reverse ++ .ref b :: rest) (hcat : (rest.map fun v => v.category).sum ≤ 8) (hdg : decode cc pc = .ok (.invokespecial index, 3)) (hf : cells + mc ≤ R.cells ∧ slots + ms ≤ R.slots)
    (kk : ∀ (u : S) (H1 : Heap) (locs1 : List Loc), post u → H.size ≤ H1.size → (∀ q : Nat, q < H.size → ¬ A1 q → H1[q]? = H[q]?) → va_P D vwCl (w1 u) H1 → va_S A s.heap H1 locs1 → W p l e R s m args below meth c H1 locs1 (cells + mc) (slots + ms) Q (F0 m (pc + 3) ls rest)) : W p l e R s m args below meth c H locs cells slots Q (F0 m pc ls st0) :=
  va_callv (va_runSU (As := As) (rest := rest) hat S0 hM cw ⟨fz_blind, hrecv, fz_pre hA1 sub hP hK hD hG hS⟩ rfl hn hsize hst (lv_room hcat) hdg hf) hS (fun q _ h => sub q h) sub (fun u t H1 locs1 ht hvm hw hB hz1 hk1 hS1 => kk u H1 locs1 hw hz1 hk1 (by rw [← ht]; exact hB) hS1)
theorem fz_cUr {S : Type} {w1 : S → va_W} {a0 : Nat} (S0 : CallFix p m c cc nL s args Ts own) (hM : Met l y wsy rm (va_Pc (.ref b :: As) (fz_PC A1 D tys wc)) (fz_QR D A1 w1 a0) mc ms A1) (cw : va_CS R s args own index y bytes maxL ret wsy rm mc ms n) {cC : ClassId} (hat : ClassAt s C cC) (hrecv : ∃ cellB : Cell, H[b]? = some cellB ∧ cellB.vm.isStatics = false ∧ s.vm.findClass C = some cellB.cls) (sub : ∀ q, A1 q → A q) (hA1 : ∀ a, H.size ≤ a → A1 a) (hG : fz_GS A s) (hS : va_S A s.heap H locs) (hP : va_P D vwCl wc H) (hK : va_K D vwCl tys s) (hD : va_D A1 wc) (hn : As.length = n) (hsize : ls.size = nL) (hst : st0 = As.reverse ++ .ref b :: rest) (hcat : (rest.map fun v => v.category).sum ≤ 8) (hdg : decode cc pc = .ok (.invokespecial index, 3)) (hf : cells + mc ≤ R.cells ∧ slots + ms ≤ R.slots)
    (kk : ∀ (u : S) (H1 : Heap) (locs1 : List Loc), True → H.size ≤ H1.size → (∀ q : Nat, q < H.size → ¬ A1 q → H1[q]? = H[q]?) → va_P D vwCl (w1 u) H1 → va_S A s.heap H1 locs1 → W p l e R s m args below meth c H1 locs1 (cells + mc) (slots + ms) Q (F0 m (pc + 3) ls (.ref a0 :: rest))) : W p l e R s m args below meth c H locs cells slots Q (F0 m pc ls st0) :=
  va_callr (va_runSU (As := As) (rest := rest) hat S0 hM cw ⟨fz_blind, hrecv, fz_pre hA1 sub hP hK hD hG hS⟩ rfl hn hsize hst (lv_room hcat) hdg hf) hS (fun q _ h => sub q h) sub (fun u ra t H1 locs1 ht hvm hw hB hz1 hk1 hS1 => by obtain ⟨rfl, hB⟩ := hB; exact kk u H1 locs1 trivial hz1 hk1 (by rw [← ht]; exact hB) hS1)
theorem fz_gSU {c0 : Cond} {i n : Nat} {b : ByteArray} {r : Option FieldType} (h5 : Cond.code y b n r ∈ fz_WA) (h1 : Cond.methodLink own i y ∈ fz_WA) (h2 : Cond.sameMethod y.cls y.cls y.name y.desc ∈ fz_WA) (h3 : Cond.superclass own y.cls ∈ fz_WA) (h6 : Cond.instanceMethod y ∈ fz_WA) (h4 : Cond.initialized y.cls ∈ fz_WA) : GoodIn (c0 :: fz_WA) (va_wsSU own i y (fz_ws y b n r)) := by
  refine fz_gW fun w hw => ?_
  unfold va_wsSU at hw
  rcases List.mem_append.mp hw with h | h
  · simp only [List.mem_cons, List.not_mem_nil, or_false] at h
    rcases h with rfl | rfl | rfl | rfl | rfl <;> assumption
  · exact fz_allWA h5 w h
theorem fz_at {ci : Nat} {q0 : vw_C} (hK : va_K D vwCl tys s) (hc : vwCl[ci]? = some q0) : ClassAt s q0.1 (D.1 ci) := (hK.1 ci q0 hc).2
theorem fz_allocat {q : Nat} (hA : ∀ a, s.heap.size ≤ a → A a) (hS : va_S A s.heap H locs) : ∀ a, H.size ≤ a → A a := fun a h => hA a (Nat.le_trans hS.1 h)
end FZD
theorem fz_selP {s : State} {args : Array Value} {y y' : MethodName} {C : String} (hy : y.cls ≠ "java/lang/invoke/MethodHandle" ∧ y.cls ≠ "java/lang/invoke/VarHandle") (h' : (Cond.selects C y' y').before args s = true) (e : y'.cls = y.cls) (hpriv : (Cond.privateMethod y).before args s = true) (hinst : (Cond.instanceMethod y).before args s = true) : (Cond.selects C y y).before args s = true := by
  obtain ⟨c2, r2, m2, q1, q2, q3, q4, kP, hkP, hkPi⟩ := Cond.selects_spec h'
  obtain ⟨mk, methM, hnamed, hmethM, -, -⟩ := Cond.instanceMethod_spec hinst
  have hfound : s.methodFound? y.cls y.name y.desc = some mk := State.methodFound?_of_named hnamed hy
  have hr : r2 = m2 := Option.some.inj (q2.symm.trans (State.methodFound?_of_named q3 (by rw [e]; exact hy)))
  subst hr
  have hcl : mk.cls = r2.cls := by
    have h1 := findClass_of_methodNamed hnamed
    have h2 := findClass_of_methodNamed q3
    rw [e] at h2
    exact Option.some.inj (h1.symm.trans h2)
  have hsel : selectMethod {} s.vm c2 mk = .method mk := selectMethod_private hmethM (Cond.privateMethod_at hpriv mk methM hnamed hmethM)
  simp [Cond.before, Cond.holds, Cond.value, q1, hfound, hnamed, hsel, hcl, hkP, hkPi]
theorem fz_cwVq {R : Room} {s : State} {args : Array Value} {own C : String} {i : Nat} {y : MethodName} {b : ByteArray} {n : Nat} {r : Option FieldType} {rm : Room} {mc ms : Nat} {c0 : Cond} (k : Nat) (hts : ∀ w ∈ c0 :: fz_WA, w.before args s = true) (hc : Cond.code y b n r ∈ fz_WA) (h1 : Cond.methodLink own i y ∈ fz_WA) (h2 : Cond.instanceMethod y ∈ fz_WA) (h3 : (Cond.selects C y y).before args s = true) (h4 : Cond.initialized y.cls ∈ fz_WA) (hrc : rm.cells = mc) (hrs : rm.slots = ms)
    (hd : y.cls ≠ "java/lang/invoke/MethodHandle" ∧ y.cls ≠ "java/lang/invoke/VarHandle" ∧ (parseMethodDescriptor y.desc).map (fun d => d.parameters.length) = some k) (hR : rm.frames + 1 ≤ R.frames ∧ 8 + (n + 11) + rm.locals ≤ R.locals) : CallW R s args own C i y b n r (fz_ws y b n r) rm mc ms k :=
  ⟨callB_of k hts (fz_g hc) rfl hrc hrs (hts _ (fz_m h4)) (hts _ (fz_m h1)) hd hR, hts _ (fz_m h2), h3⟩
end
section
theorem fin_J4 : ∀ w ∈ u_ws RJ4 TJ4 4, w ∈ fz_WA := fun w h => have h2 := (by decide +kernel : ∀ w ∈ u_ws RJ4 TJ4 4, w ∈ lw_tbl ∧ goodWord w = true) w h; fz_in h2.1 h2.2
theorem fin_X0 : ∀ w ∈ u_ws RX0 TX0 9, w ∈ fz_WA := fun w h => have h2 := (by decide +kernel : ∀ w ∈ u_ws RX0 TX0 9, w ∈ lw_tbl ∧ goodWord w = true) w h; fz_in h2.1 h2.2
theorem fin_X1 : ∀ w ∈ u_ws RX1 TX1 3, w ∈ fz_WA := fun w h => have h2 := (by decide +kernel : ∀ w ∈ u_ws RX1 TX1 3, w ∈ lw_tbl ∧ goodWord w = true) w h; fz_in h2.1 h2.2
theorem fin_X2 : ∀ w ∈ u_ws RX2 TX2 9, w ∈ fz_WA := fun w h => have h2 := (by decide +kernel : ∀ w ∈ u_ws RX2 TX2 9, w ∈ lw_tbl ∧ goodWord w = true) w h; fz_in h2.1 h2.2
theorem fin_X3 : ∀ w ∈ u_ws RX3 TX3 3, w ∈ fz_WA := fun w h => have h2 := (by decide +kernel : ∀ w ∈ u_ws RX3 TX3 3, w ∈ lw_tbl ∧ goodWord w = true) w h; fz_in h2.1 h2.2
theorem fin_X4 : ∀ w ∈ u_ws RX4 TX4 3, w ∈ fz_WA := fun w h => have h2 := (by decide +kernel : ∀ w ∈ u_ws RX4 TX4 3, w ∈ lw_tbl ∧ goodWord w = true) w h; fz_in h2.1 h2.2
theorem fin_X5 : ∀ w ∈ u_ws RX5 TX5 5, w ∈ fz_WA := fun w h => have h2 := (by decide +kernel : ∀ w ∈ u_ws RX5 TX5 5, w ∈ lw_tbl ∧ goodWord w = true) w h; fz_in h2.1 h2.2
theorem fin_X6 : ∀ w ∈ u_ws RX6 TX6 3, w ∈ fz_WA := fun w h => have h2 := (by decide +kernel : ∀ w ∈ u_ws RX6 TX6 3, w ∈ lw_tbl ∧ goodWord w = true) w h; fz_in h2.1 h2.2
theorem fin_X7 : ∀ w ∈ u_ws RX7 TX7 6, w ∈ fz_WA := fun w h => have h2 := (by decide +kernel : ∀ w ∈ u_ws RX7 TX7 6, w ∈ lw_tbl ∧ goodWord w = true) w h; fz_in h2.1 h2.2
theorem fin_X8 : ∀ w ∈ u_ws RX8 TX8 10, w ∈ fz_WA := fun w h => have h2 := (by decide +kernel : ∀ w ∈ u_ws RX8 TX8 10, w ∈ lw_tbl ∧ goodWord w = true) w h; fz_in h2.1 h2.2
theorem fin_X9 : ∀ w ∈ u_ws RX9 TX9 8, w ∈ fz_WA := fun w h => have h2 := (by decide +kernel : ∀ w ∈ u_ws RX9 TX9 8, w ∈ lw_tbl ∧ goodWord w = true) w h; fz_in h2.1 h2.2
theorem fin_X10 : ∀ w ∈ u_ws RX10 TX10 22, w ∈ fz_WA := fun w h => have h2 := (by decide +kernel : ∀ w ∈ u_ws RX10 TX10 22, w ∈ lw_tbl ∧ goodWord w = true) w h; fz_in h2.1 h2.2
def fz_tys (k : Nat → ClassId) : List (ClassId × FieldType) := [(k 0, .int), (k 1, .char), (k 2, .byte), (k 3, .object "FindingAid$State"), (k 4, .array .int), (k 5, .long), (k 6, .double)]
def fz_WS (k : Nat → ClassId) (q : Nat → Nat) (f : Nat → Nat → Int32) (pa : Nat → Option Nat) (v : Nat → Int32) : va_W := [(q 0, .inr (11, [.ref (q 1), .ref (q 10), .ref (q 14), .ref (q 23), .ref (q 26), .int (v 0)])), (q 1, .inr (12, [.int (v 1), .int (v 2), .ref (q 2), .ref (q 3), .ref (q 4), .ref (q 5), .ref (q 6), .ref (q 7), .ref (q 8), .ref (q 9)])), (q 2, .inl (k 0, 40, .inl (f 2))), (q 3, .inl (k 0, 40, .inl (f 3))), (q 4, .inl (k 0, 40, .inl (f 4))), (q 5, .inl (k 0, 40, .inl (f 5))), (q 6, .inl (k 0, 40, .inl (f 6))), (q 7, .inl (k 0, 40, .inl (f 7))), (q 8, .inl (k 0, 40, .inl (f 8))), (q 9, .inl (k 0, 40, .inl (f 9))), (q 10, .inr (10, [.ref (q 11), .ref (q 12), .ref (q 13)])), (q 11, .inl (k 0, 40, .inl (f 11))), (q 12, .inl (k 0, 40, .inl (f 12))), (q 13, .inl (k 0, 800, .inl (f 13))), (q 14, .inr (4, [.int (v 3), .int (v 4), .int (v 5), .ref (q 15), .ref (q 16), .ref (q 17), .ref (q 18), .ref (q 19), .ref (q 20)])), (q 15, .inl (k 0, 30, .inl (f 15))), (q 16, .inl (k 0, 30, .inl (f 16))), (q 17, .inl (k 0, 40, .inl (f 17))), (q 18, .inl (k 0, 40, .inl (f 18))), (q 19, .inl (k 0, 40, .inl (f 19))), (q 20, .inr (7, [.int (v 6), .ref (q 21), .ref (q 22)])), (q 21, .inl (k 0, 64, .inl (f 21))), (q 22, .inl (k 0, 64, .inl (f 22))), (q 23, .inr (5, [.int (v 7), .ref (q 24), .ref (q 25)])), (q 24, .inl (k 0, 16, .inl (f 24))), (q 25, .inl (k 0, 16, .inl (f 25))), (q 26, .inr (9, [.int (v 8), .ref (q 27), .ref (q 28), .ref (q 29), .ref (q 30)])), (q 27, .inl (k 0, 30, .inl (f 27))), (q 28, .inl (k 0, 30, .inl (f 28))), (q 29, .inl (k 0, 30, .inl (f 29))), (q 30, .inl (k 0, 30, .inl (f 30)))]
def fz_WC (k : Nat → ClassId) (q : Nat → Nat) (f : Nat → Nat → Int32) (pa : Nat → Option Nat) (v : Nat → Int32) : va_W := [(q 0, .inr (11, [.ref (q 1), .ref (q 10), .ref (q 14), .ref (q 23), .ref (q 26), .int (v 0)])), (q 1, .inr (12, [.int (v 1), .int (v 2), .ref (q 2), .ref (q 3), .ref (q 4), .ref (q 5), .ref (q 6), .ref (q 7), .ref (q 8), .ref (q 9)])), (q 2, .inl (k 0, 40, .inl (f 2))), (q 3, .inl (k 0, 40, .inl (f 3))), (q 4, .inl (k 0, 40, .inl (f 4))), (q 5, .inl (k 0, 40, .inl (f 5))), (q 6, .inl (k 0, 40, .inl (f 6))), (q 7, .inl (k 0, 40, .inl (f 7))), (q 8, .inl (k 0, 40, .inl (f 8))), (q 9, .inl (k 0, 40, .inl (f 9))), (q 10, .inr (10, [.ref (q 11), .ref (q 12), .ref (q 13)])), (q 11, .inl (k 0, 40, .inl (f 11))), (q 12, .inl (k 0, 40, .inl (f 12))), (q 13, .inl (k 0, 800, .inl (f 13))), (q 14, .inr (4, [.int (v 3), .int (v 4), .int (v 5), .ref (q 15), .ref (q 16), .ref (q 17), .ref (q 18), .ref (q 19), .ref (q 20)])), (q 15, .inl (k 0, 30, .inl (f 15))), (q 16, .inl (k 0, 30, .inl (f 16))), (q 17, .inl (k 0, 40, .inl (f 17))), (q 18, .inl (k 0, 40, .inl (f 18))), (q 19, .inl (k 0, 40, .inl (f 19))), (q 20, .inr (7, [.int (v 6), .ref (q 21), .ref (q 22)])), (q 21, .inl (k 0, 64, .inl (f 21))), (q 22, .inl (k 0, 64, .inl (f 22))), (q 23, .inr (5, [.int (v 7), .ref (q 24), .ref (q 25)])), (q 24, .inl (k 0, 16, .inl (f 24))), (q 25, .inl (k 0, 16, .inl (f 25))), (q 26, .inr (9, [.int (v 8), .ref (q 27), .ref (q 28), .ref (q 29), .ref (q 30)])), (q 27, .inl (k 0, 30, .inl (f 27))), (q 28, .inl (k 0, 30, .inl (f 28))), (q 29, .inl (k 0, 30, .inl (f 29))), (q 30, .inl (k 0, 30, .inl (f 30))), (q 31, .inr (13, [.ref (q 0), .ref (q 32), .int (v 9), .int (v 10), va_rf (pa 8), .ref (q 33), .ref (q 34), .ref (q 35)])), (q 32, .inl (k 3, 8, .inr (.inr (.inr (.inr pa))))), (q 33, .inr (8, [.int (v 11), .ref (q 38), .ref (q 39)])), (q 34, .inr (6, [.int (v 12), .int (v 13), .ref (q 40), .ref (q 41), .ref (q 42), .ref (q 43), .ref (q 44), .ref (q 36), .int (v 14)])), (q 35, .inr (1, [.ref (q 37), .int (v 15), .int (v 16), .int (v 17)])), (q 36, .inl (k 1, 100, .inl (f 36))), (q 37, .inl (k 2, 16, .inl (f 37)))]
def fz_WM (k : Nat → ClassId) (q : Nat → Nat) (f : Nat → Nat → Int32) (pa : Nat → Option Nat) (v : Nat → Int32) : va_W := [(q 0, .inr (14, [.int (v 0), .ref (q 1), .ref (q 2), .ref (q 3), .ref (q 4), .int (v 5), .int (v 6), .int (v 7), .int (v 8), .int (v 9), .int (v 10), .int (v 11), .int (v 12), .int (v 13), .ref (q 5), .int (v 15), .int (v 16), .int (v 17), .int (v 18), .int (v 19), .ref (q 6), .int (v 21)])), (q 1, .inl (k 0, 10535, .inl (f 1))), (q 2, .inl (k 0, 10535, .inl (f 2))), (q 3, .inl (k 0, 10535, .inl (f 3))), (q 4, .inl (k 4, 8, .inr (.inr (.inr (.inr pa))))), (q 5, .inl (k 1, 100, .inl (f 5))), (q 6, .inl (k 1, 900, .inl (f 6))), (q 7, .inl (k 0, 10535, .inl (f 7)))]
def fz_EN : List String := ["java/lang/RuntimeException", "java/lang/Exception"]
theorem fz_fit_165 : Bundle.fit "java/lang/IndexOutOfBoundsException" = true ∧ ∀ n ∈ fz_EN, Bundle.fit n = true := by decide +kernel
theorem fz_at_165 : ∀ w ∈ vx_atS RX9 165 "java/lang/IndexOutOfBoundsException" fz_EN, w ∈ lw_tbl ∧ (goodWord w || fz_kind w) = true := by decide +kernel
theorem fz_ok_165 : ∀ w ∈ Cond.classLink RX9 161 "java/lang/IndexOutOfBoundsException" :: Cond.initialized "java/lang/IndexOutOfBoundsException" :: vx_atS RX9 165 "java/lang/IndexOutOfBoundsException" fz_EN, vx_ot w = true := by decide +kernel
theorem fz_fit_73 : Bundle.fit "java/lang/IllegalArgumentException" = true ∧ ∀ n ∈ fz_EN, Bundle.fit n = true := by decide +kernel
theorem fz_at_73 : ∀ w ∈ vx_atS RX9 73 "java/lang/IllegalArgumentException" fz_EN, w ∈ lw_tbl ∧ (goodWord w || fz_kind w) = true := by decide +kernel
theorem fz_ok_73 : ∀ w ∈ Cond.classLink RX9 69 "java/lang/IllegalArgumentException" :: Cond.initialized "java/lang/IllegalArgumentException" :: vx_atS RX9 73 "java/lang/IllegalArgumentException" fz_EN, vx_ot w = true := by decide +kernel
theorem fm_0 : Cond.fieldLink RX8 9 "FindingAid$Tree" "made" "I" ∈ fz_WA := fz_in (fz_tin 58 (by decide +kernel)) (by decide +kernel)
theorem fm_1 : Cond.fieldLink RX8 25 "FindingAid$Tree" "kind" "[I" ∈ fz_WA := fz_in (fz_tin 67 (by decide +kernel)) (by decide +kernel)
theorem fm_2 : Cond.fieldLink RX8 15 "FindingAid$Tree" "size" "I" ∈ fz_WA := fz_in (fz_tin 60 (by decide +kernel)) (by decide +kernel)
theorem fm_3 : Cond.code yX9_isDay cX9_isDay 1 (some .boolean) ∈ fz_WA := fz_in (fz_tin 604 (by decide +kernel)) (by decide +kernel)
theorem fm_4 : Cond.methodLink RX9 488 yX9_isDay ∈ fz_WA := fz_in (fz_tin 602 (by decide +kernel)) (by decide +kernel)
theorem fm_5 : Cond.static yX9_isDay ∈ fz_WA := fz_in (fz_tin 603 (by decide +kernel)) (by decide +kernel)
theorem fm_6 : Cond.initialized RX9 ∈ fz_WA := fz_in (fz_tin 1 (by decide +kernel)) (by decide +kernel)
theorem fm_7 : Cond.fieldLink RX0 9 "FindingAid$Containers" "made" "I" ∈ fz_WA := fz_in (fz_tin 148 (by decide +kernel)) (by decide +kernel)
theorem fm_8 : Cond.fieldLink RX1 9 "FindingAid$Copies" "made" "I" ∈ fz_WA := fz_in (fz_tin 190 (by decide +kernel)) (by decide +kernel)
theorem fm_9 : Cond.fieldLink RX9 10 "FindingAid" "now" "LFindingAid$State;" ∈ fz_WA := fz_in (fz_tin 358 (by decide +kernel)) (by decide +kernel)
theorem fm_10 : Cond.fieldLink RX9 55 "FindingAid$State" "tree" "LFindingAid$Tree;" ∈ fz_WA := fz_in (fz_tin 239 (by decide +kernel)) (by decide +kernel)
theorem fm_11 : Cond.code yX8_has cX8_has 2 (some .boolean) ∈ fz_WA := fz_in (fz_tin 585 (by decide +kernel)) (by decide +kernel)
theorem fm_12 : Cond.methodLink RX9 284 yX8_has ∈ fz_WA := fz_in (fz_tin 582 (by decide +kernel)) (by decide +kernel)
theorem fm_13 : Cond.instanceMethod yX8_has ∈ fz_WA := fz_in (fz_tin 583 (by decide +kernel)) (by decide +kernel)
theorem fm_14 : Cond.selects RX8 yX8_has yX8_has ∈ fz_WA := fz_in (fz_tin 584 (by decide +kernel)) (by decide +kernel)
theorem fm_15 : Cond.initialized RX8 ∈ fz_WA := fz_in (fz_tin 3 (by decide +kernel)) (by decide +kernel)
theorem fm_16 : Cond.classLink RX9 161 "java/lang/IndexOutOfBoundsException" ∈ fz_WA := fz_in (fz_tin 586 (by decide +kernel)) (by decide +kernel)
theorem fm_17 : Cond.initialized "java/lang/IndexOutOfBoundsException" ∈ fz_WA := fz_in (fz_tin 20 (by decide +kernel)) (by decide +kernel)
theorem fm_18 : Cond.fieldLink RX9 115 "FindingAid$Tree" "pages" "[I" ∈ fz_WA := fz_in (fz_tin 75 (by decide +kernel)) (by decide +kernel)
theorem fm_19 : Cond.classLink RX9 69 "java/lang/IllegalArgumentException" ∈ fz_WA := fz_in (fz_tin 605 (by decide +kernel)) (by decide +kernel)
theorem fm_20 : Cond.initialized "java/lang/IllegalArgumentException" ∈ fz_WA := fz_in (fz_tin 22 (by decide +kernel)) (by decide +kernel)
theorem fm_21 : Cond.fieldLink RX9 136 "FindingAid$State" "containers" "LFindingAid$Containers;" ∈ fz_WA := fz_in (fz_tin 243 (by decide +kernel)) (by decide +kernel)
theorem fm_22 : Cond.code yX0_has cX0_has 2 (some .boolean) ∈ fz_WA := fz_in (fz_tin 849 (by decide +kernel)) (by decide +kernel)
theorem fm_23 : Cond.methodLink RX9 495 yX0_has ∈ fz_WA := fz_in (fz_tin 846 (by decide +kernel)) (by decide +kernel)
theorem fm_24 : Cond.instanceMethod yX0_has ∈ fz_WA := fz_in (fz_tin 847 (by decide +kernel)) (by decide +kernel)
theorem fm_25 : Cond.selects RX0 yX0_has yX0_has ∈ fz_WA := fz_in (fz_tin 848 (by decide +kernel)) (by decide +kernel)
theorem fm_26 : Cond.initialized RX0 ∈ fz_WA := fz_in (fz_tin 6 (by decide +kernel)) (by decide +kernel)
theorem fm_27 : Cond.fieldLink RX9 148 "FindingAid$State" "copies" "LFindingAid$Copies;" ∈ fz_WA := fz_in (fz_tin 245 (by decide +kernel)) (by decide +kernel)
theorem fm_28 : Cond.code yX1_has cX1_has 2 (some .boolean) ∈ fz_WA := fz_in (fz_tin 789 (by decide +kernel)) (by decide +kernel)
theorem fm_29 : Cond.methodLink RX9 498 yX1_has ∈ fz_WA := fz_in (fz_tin 786 (by decide +kernel)) (by decide +kernel)
theorem fm_30 : Cond.instanceMethod yX1_has ∈ fz_WA := fz_in (fz_tin 787 (by decide +kernel)) (by decide +kernel)
theorem fm_31 : Cond.selects RX1 yX1_has yX1_has ∈ fz_WA := fz_in (fz_tin 788 (by decide +kernel)) (by decide +kernel)
theorem fm_32 : Cond.initialized RX1 ∈ fz_WA := fz_in (fz_tin 8 (by decide +kernel)) (by decide +kernel)
theorem fm_33 : Cond.fieldLink RX9 314 "FindingAid$State" "requests" "LFindingAid$Requests;" ∈ fz_WA := fz_in (fz_tin 247 (by decide +kernel)) (by decide +kernel)
theorem fm_34 : Cond.fieldLink RX9 330 "FindingAid$Requests" "count" "I" ∈ fz_WA := fz_in (fz_tin 214 (by decide +kernel)) (by decide +kernel)
theorem fm_35 : Cond.code yX8_place cX8_place 3 (some .int) ∈ fz_WA := fz_in (fz_tin 469 (by decide +kernel)) (by decide +kernel)
theorem fm_36 : Cond.methodLink RX8 63 yX8_place ∈ fz_WA := fz_in (fz_tin 466 (by decide +kernel)) (by decide +kernel)
theorem fm_37 : Cond.instanceMethod yX8_place ∈ fz_WA := fz_in (fz_tin 467 (by decide +kernel)) (by decide +kernel)
theorem fm_38 : Cond.selects RX8 yX8_place yX8_place ∈ fz_WA := fz_in (fz_tin 468 (by decide +kernel)) (by decide +kernel)
theorem fm_39 : Cond.fieldLink RX8 31 "FindingAid$Tree" "below" "[I" ∈ fz_WA := fz_in (fz_tin 72 (by decide +kernel)) (by decide +kernel)
theorem fm_40 : Cond.fieldLink RX8 40 "FindingAid$Tree" "to" "[I" ∈ fz_WA := fz_in (fz_tin 81 (by decide +kernel)) (by decide +kernel)
theorem fm_41 : Cond.fieldLink RX8 18 "FindingAid$Tree" "line" "[I" ∈ fz_WA := fz_in (fz_tin 63 (by decide +kernel)) (by decide +kernel)
theorem fm_42 : Cond.methodLink RX8 70 Lib.Math.max.name ∈ fz_WA := fz_in (fz_tin 470 (by decide +kernel)) (by decide +kernel)
theorem fm_43 : Cond.static Lib.Math.max.name ∈ fz_WA := fz_in (fz_tin 471 (by decide +kernel)) (by decide +kernel)
theorem fm_44 : Cond.initialized "java/lang/Math" ∈ fz_WA := fz_in (fz_tin 25 (by decide +kernel)) (by decide +kernel)
theorem fm_45 : Cond.code Lib.Math.max.name Lib.Math.max.code 2 (some .int) ∈ fz_WA := fz_in (fz_tin 472 (by decide +kernel)) (by decide +kernel)
theorem fm_46 : Cond.fieldLink RX8 34 "FindingAid$Tree" "pages" "[I" ∈ fz_WA := fz_in (fz_tin 74 (by decide +kernel)) (by decide +kernel)
theorem fm_47 : Cond.fieldLink RX8 28 "FindingAid$Tree" "parent" "[I" ∈ fz_WA := fz_in (fz_tin 69 (by decide +kernel)) (by decide +kernel)
theorem fm_48 : Cond.fieldLink RX6 9 "FindingAid$Rules" "mode" "[I" ∈ fz_WA := fz_in (fz_tin 112 (by decide +kernel)) (by decide +kernel)
theorem fm_49 : Cond.fieldLink RX6 33 "FindingAid$Tree" "parent" "[I" ∈ fz_WA := fz_in (fz_tin 70 (by decide +kernel)) (by decide +kernel)
theorem fm_50 : Cond.code yX6_decidingNode cX6_decidingNode 7 (some .int) ∈ fz_WA := fz_in (fz_tin 461 (by decide +kernel)) (by decide +kernel)
theorem fm_51 : Cond.methodLink RX6 38 yX6_decidingNode ∈ fz_WA := fz_in (fz_tin 458 (by decide +kernel)) (by decide +kernel)
theorem fm_52 : Cond.instanceMethod yX6_decidingNode ∈ fz_WA := fz_in (fz_tin 459 (by decide +kernel)) (by decide +kernel)
theorem fm_53 : Cond.selects RX6 yX6_decidingNode yX6_decidingNode ∈ fz_WA := fz_in (fz_tin 460 (by decide +kernel)) (by decide +kernel)
theorem fm_54 : Cond.initialized RX6 ∈ fz_WA := fz_in (fz_tin 5 (by decide +kernel)) (by decide +kernel)
theorem fm_55 : Cond.code yX6_term cX6_term 4 (some .int) ∈ fz_WA := fz_in (fz_tin 457 (by decide +kernel)) (by decide +kernel)
theorem fm_56 : Cond.methodLink RX6 42 yX6_term ∈ fz_WA := fz_in (fz_tin 454 (by decide +kernel)) (by decide +kernel)
theorem fm_57 : Cond.instanceMethod yX6_term ∈ fz_WA := fz_in (fz_tin 455 (by decide +kernel)) (by decide +kernel)
theorem fm_58 : Cond.selects RX6 yX6_term yX6_term ∈ fz_WA := fz_in (fz_tin 456 (by decide +kernel)) (by decide +kernel)
theorem fm_59 : Cond.code yX8_latestDay cX8_latestDay 6 (some .int) ∈ fz_WA := fz_in (fz_tin 465 (by decide +kernel)) (by decide +kernel)
theorem fm_60 : Cond.methodLink RX6 45 yX8_latestDay ∈ fz_WA := fz_in (fz_tin 462 (by decide +kernel)) (by decide +kernel)
theorem fm_61 : Cond.instanceMethod yX8_latestDay ∈ fz_WA := fz_in (fz_tin 463 (by decide +kernel)) (by decide +kernel)
theorem fm_62 : Cond.selects RX8 yX8_latestDay yX8_latestDay ∈ fz_WA := fz_in (fz_tin 464 (by decide +kernel)) (by decide +kernel)
theorem fm_63 : Cond.code yX6_lastDay cX6_lastDay 2 (some .int) ∈ fz_WA := fz_in (fz_tin 475 (by decide +kernel)) (by decide +kernel)
theorem fm_64 : Cond.methodLink RX6 49 yX6_lastDay ∈ fz_WA := fz_in (fz_tin 473 (by decide +kernel)) (by decide +kernel)
theorem fm_65 : Cond.static yX6_lastDay ∈ fz_WA := fz_in (fz_tin 474 (by decide +kernel)) (by decide +kernel)
theorem fm_66 : Cond.fieldLink RX6 54 "FindingAid$Tree" "pages" "[I" ∈ fz_WA := fz_in (fz_tin 77 (by decide +kernel)) (by decide +kernel)
theorem fm_67 : Cond.fieldLink RX0 15 "FindingAid$Containers" "open" "I" ∈ fz_WA := fz_in (fz_tin 149 (by decide +kernel)) (by decide +kernel)
theorem fm_68 : Cond.fieldLink RX3 9 "FindingAid$Marks" "count" "I" ∈ fz_WA := fz_in (fz_tin 137 (by decide +kernel)) (by decide +kernel)
theorem fm_69 : Cond.code yX1_countOf cX1_countOf 4 (some .int) ∈ fz_WA := fz_in (fz_tin 722 (by decide +kernel)) (by decide +kernel)
theorem fm_70 : Cond.methodLink RX1 34 yX1_countOf ∈ fz_WA := fz_in (fz_tin 1112 (by decide +kernel)) (by decide +kernel)
theorem fm_71 : Cond.instanceMethod yX1_countOf ∈ fz_WA := fz_in (fz_tin 720 (by decide +kernel)) (by decide +kernel)
theorem fm_72 : Cond.selects RX1 yX1_countOf yX1_countOf ∈ fz_WA := fz_in (fz_tin 721 (by decide +kernel)) (by decide +kernel)
theorem fm_73 : Cond.fieldLink RJ5 79 "java/lang/AbstractStringBuilder" "count" "I" ∈ fz_WA := fz_in (fz_tin 347 (by decide +kernel)) (by decide +kernel)
theorem fm_74 : Cond.code yJ5_length_8abf5 cJ5_length_8abf5 1 (some .int) ∈ fz_WA := fz_in (fz_tin 1408 (by decide +kernel)) (by decide +kernel)
theorem fm_75 : Cond.methodLink RJ4 343 yJ5_length_8abf5 ∈ fz_WA := fz_in (fz_tin 1407 (by decide +kernel)) (by decide +kernel)
theorem fm_76 : Cond.sameMethod RJ5 RJ5 "length" "()I" ∈ fz_WA := fz_in (fz_tin 1403 (by decide +kernel)) (by decide +kernel)
theorem fm_77 : Cond.superclass RJ4 RJ5 ∈ fz_WA := fz_in (fz_tin 356 (by decide +kernel)) (by decide +kernel)
theorem fm_78 : Cond.instanceMethod yJ5_length_8abf5 ∈ fz_WA := fz_in (fz_tin 1402 (by decide +kernel)) (by decide +kernel)
theorem fm_79 : Cond.initialized RJ5 ∈ fz_WA := fz_in (fz_tin 12 (by decide +kernel)) (by decide +kernel)
theorem fm_80 : Cond.fieldLink RX5 9 "FindingAid$Requests" "count" "I" ∈ fz_WA := fz_in (fz_tin 212 (by decide +kernel)) (by decide +kernel)
theorem fm_81 : Cond.constant RJ6 265 1431655765 ∈ fz_WA := fz_in (fz_tin 982 (by decide +kernel)) (by decide +kernel)
theorem fm_82 : Cond.constant RJ6 266 858993459 ∈ fz_WA := fz_in (fz_tin 983 (by decide +kernel)) (by decide +kernel)
theorem fm_83 : Cond.constant RJ6 267 252645135 ∈ fz_WA := fz_in (fz_tin 984 (by decide +kernel)) (by decide +kernel)
theorem fm_84 : Cond.code yJ6_bitCount_0f7a4 cJ6_bitCount_0f7a4 1 (some .int) ∈ fz_WA := fz_in (fz_tin 981 (by decide +kernel)) (by decide +kernel)
theorem fm_85 : Cond.methodLink RX5 44 yJ6_bitCount_0f7a4 ∈ fz_WA := fz_in (fz_tin 1027 (by decide +kernel)) (by decide +kernel)
theorem fm_86 : Cond.static yJ6_bitCount_0f7a4 ∈ fz_WA := fz_in (fz_tin 980 (by decide +kernel)) (by decide +kernel)
theorem fm_87 : Cond.initialized RJ6 ∈ fz_WA := fz_in (fz_tin 28 (by decide +kernel)) (by decide +kernel)
theorem fm_88 : Cond.fieldLink RX7 42 "FindingAid$State" "requests" "LFindingAid$Requests;" ∈ fz_WA := fz_in (fz_tin 246 (by decide +kernel)) (by decide +kernel)
theorem fm_89 : Cond.fieldLink RX7 152 "FindingAid$Requests" "count" "I" ∈ fz_WA := fz_in (fz_tin 213 (by decide +kernel)) (by decide +kernel)
theorem fm_90 : Cond.fieldLink RX7 12 "FindingAid$State" "tree" "LFindingAid$Tree;" ∈ fz_WA := fz_in (fz_tin 238 (by decide +kernel)) (by decide +kernel)
theorem fm_91 : Cond.fieldLink RX7 158 "FindingAid$Tree" "size" "I" ∈ fz_WA := fz_in (fz_tin 61 (by decide +kernel)) (by decide +kernel)
theorem fm_92 : Cond.fieldLink RX7 161 "FindingAid$Tree" "line" "[I" ∈ fz_WA := fz_in (fz_tin 64 (by decide +kernel)) (by decide +kernel)
theorem fm_93 : Cond.fieldLink RX7 97 "FindingAid$Tree" "pages" "[I" ∈ fz_WA := fz_in (fz_tin 76 (by decide +kernel)) (by decide +kernel)
theorem fm_94 : Cond.fieldLink RX7 21 "FindingAid$State" "rules" "LFindingAid$Rules;" ∈ fz_WA := fz_in (fz_tin 240 (by decide +kernel)) (by decide +kernel)
theorem fm_95 : Cond.code yX6_openSet cX6_openSet 7 (some .int) ∈ fz_WA := fz_in (fz_tin 449 (by decide +kernel)) (by decide +kernel)
theorem fm_96 : Cond.methodLink RX7 83 yX6_openSet ∈ fz_WA := fz_in (fz_tin 446 (by decide +kernel)) (by decide +kernel)
theorem fm_97 : Cond.instanceMethod yX6_openSet ∈ fz_WA := fz_in (fz_tin 447 (by decide +kernel)) (by decide +kernel)
theorem fm_98 : Cond.selects RX6 yX6_openSet yX6_openSet ∈ fz_WA := fz_in (fz_tin 448 (by decide +kernel)) (by decide +kernel)
theorem fm_99 : Cond.methodLink RX7 147 yJ6_bitCount_0f7a4 ∈ fz_WA := fz_in (fz_tin 1089 (by decide +kernel)) (by decide +kernel)
theorem dX8_has_0 : decode cX8_has 0 = .ok (.iload_n 1, 1) := by decide +kernel
theorem dX8_has_1 : decode cX8_has 1 = .ok (.ifCond .lt 25, 3) := by decide +kernel
theorem dX8_has_26 : decode cX8_has 26 = .ok (.iconst 0, 1) := by decide +kernel
theorem dX8_has_27 : decode cX8_has 27 = .ok (.ireturn, 1) := by decide +kernel
theorem dX8_has_4 : decode cX8_has 4 = .ok (.iload_n 1, 1) := by decide +kernel
theorem dX8_has_5 : decode cX8_has 5 = .ok (.aload_n 0, 1) := by decide +kernel
theorem dX8_has_6 : decode cX8_has 6 = .ok (.getfield 9, 3) := by decide +kernel
theorem dX8_has_9 : decode cX8_has 9 = .ok (.if_icmp .ge 17, 3) := by decide +kernel
theorem dX8_has_12 : decode cX8_has 12 = .ok (.aload_n 0, 1) := by decide +kernel
theorem dX8_has_13 : decode cX8_has 13 = .ok (.getfield 25, 3) := by decide +kernel
theorem dX8_has_16 : decode cX8_has 16 = .ok (.iload_n 1, 1) := by decide +kernel
theorem dX8_has_17 : decode cX8_has 17 = .ok (.iaload, 1) := by decide +kernel
theorem dX8_has_18 : decode cX8_has 18 = .ok (.iconst (-1), 1) := by decide +kernel
theorem dX8_has_19 : decode cX8_has 19 = .ok (.if_icmp .eq 7, 3) := by decide +kernel
theorem dX8_has_22 : decode cX8_has 22 = .ok (.iconst 1, 1) := by decide +kernel
theorem dX8_has_23 : decode cX8_has 23 = .ok (.goto 4, 3) := by decide +kernel
theorem dX8_place_0 : decode cX8_place 0 = .ok (.iconst 0, 1) := by decide +kernel
theorem dX8_place_1 : decode cX8_place 1 = .ok (.istore_n 2, 1) := by decide +kernel
theorem dX8_place_2 : decode cX8_place 2 = .ok (.iload_n 2, 1) := by decide +kernel
theorem dX8_place_3 : decode cX8_place 3 = .ok (.aload_n 0, 1) := by decide +kernel
theorem dX8_place_4 : decode cX8_place 4 = .ok (.getfield 15, 3) := by decide +kernel
theorem dX8_place_7 : decode cX8_place 7 = .ok (.iconst 1, 1) := by decide +kernel
theorem dX8_place_8 : decode cX8_place 8 = .ok (.isub, 1) := by decide +kernel
theorem dX8_place_9 : decode cX8_place 9 = .ok (.if_icmp .ge 19, 3) := by decide +kernel
theorem dX8_place_28 : decode cX8_place 28 = .ok (.iload_n 2, 1) := by decide +kernel
theorem dX8_place_29 : decode cX8_place 29 = .ok (.ireturn, 1) := by decide +kernel
theorem dX9_isDay_0 : decode cX9_isDay 0 = .ok (.iload_n 0, 1) := by decide +kernel
theorem dX9_isDay_1 : decode cX9_isDay 1 = .ok (.ifCond .lt 14, 3) := by decide +kernel
theorem dX9_isDay_15 : decode cX9_isDay 15 = .ok (.iconst 0, 1) := by decide +kernel
theorem dX9_isDay_16 : decode cX9_isDay 16 = .ok (.ireturn, 1) := by decide +kernel
theorem dX9_isDay_4 : decode cX9_isDay 4 = .ok (.iload_n 0, 1) := by decide +kernel
theorem dX9_isDay_5 : decode cX9_isDay 5 = .ok (.sipush 9999, 3) := by decide +kernel
theorem dX9_isDay_8 : decode cX9_isDay 8 = .ok (.if_icmp .gt 7, 3) := by decide +kernel
theorem dX9_isDay_11 : decode cX9_isDay 11 = .ok (.iconst 1, 1) := by decide +kernel
theorem dX9_isDay_12 : decode cX9_isDay 12 = .ok (.goto 4, 3) := by decide +kernel
theorem dX9_fitsBelow_0 : decode cX9_fitsBelow 0 = .ok (.iload_n 1, 1) := by decide +kernel
theorem dX9_fitsBelow_1 : decode cX9_fitsBelow 1 = .ok (.iconst 1, 1) := by decide +kernel
theorem dX9_fitsBelow_2 : decode cX9_fitsBelow 2 = .ok (.if_icmp .lt 13, 3) := by decide +kernel
theorem dX9_fitsBelow_15 : decode cX9_fitsBelow 15 = .ok (.iconst 0, 1) := by decide +kernel
theorem dX9_fitsBelow_16 : decode cX9_fitsBelow 16 = .ok (.ireturn, 1) := by decide +kernel
theorem dX9_fitsBelow_5 : decode cX9_fitsBelow 5 = .ok (.iload_n 1, 1) := by decide +kernel
theorem dX9_fitsBelow_6 : decode cX9_fitsBelow 6 = .ok (.iconst 3, 1) := by decide +kernel
theorem dX9_fitsBelow_7 : decode cX9_fitsBelow 7 = .ok (.if_icmp .gt 8, 3) := by decide +kernel
theorem dX9_fitsBelow_10 : decode cX9_fitsBelow 10 = .ok (.iload_n 1, 1) := by decide +kernel
theorem dX9_fitsBelow_11 : decode cX9_fitsBelow 11 = .ok (.iload_n 0, 1) := by decide +kernel
theorem dX9_fitsBelow_12 : decode cX9_fitsBelow 12 = .ok (.if_icmp .gt 5, 3) := by decide +kernel
theorem dX9_fitsBelow_17 : decode cX9_fitsBelow 17 = .ok (.iload_n 2, 1) := by decide +kernel
theorem dX9_fitsBelow_18 : decode cX9_fitsBelow 18 = .ok (.ifCond .lt 18, 3) := by decide +kernel
theorem dX9_fitsBelow_36 : decode cX9_fitsBelow 36 = .ok (.iconst 0, 1) := by decide +kernel
theorem dX9_fitsBelow_37 : decode cX9_fitsBelow 37 = .ok (.ireturn, 1) := by decide +kernel
theorem dX9_fitsBelow_21 : decode cX9_fitsBelow 21 = .ok (.iload_n 2, 1) := by decide +kernel
theorem dX9_fitsBelow_22 : decode cX9_fitsBelow 22 = .ok (.iload_n 1, 1) := by decide +kernel
theorem dX9_fitsBelow_23 : decode cX9_fitsBelow 23 = .ok (.iconst 1, 1) := by decide +kernel
theorem dX9_fitsBelow_24 : decode cX9_fitsBelow 24 = .ok (.if_icmp .ne 7, 3) := by decide +kernel
theorem dX9_fitsBelow_31 : decode cX9_fitsBelow 31 = .ok (.bipush 20, 2) := by decide +kernel
theorem dX9_fitsBelow_33 : decode cX9_fitsBelow 33 = .ok (.if_icmp .le 5, 3) := by decide +kernel
theorem dX9_fitsBelow_38 : decode cX9_fitsBelow 38 = .ok (.iload_n 3, 1) := by decide +kernel
theorem dX9_fitsBelow_39 : decode cX9_fitsBelow 39 = .ok (.iconst (-1), 1) := by decide +kernel
theorem dX9_fitsBelow_40 : decode cX9_fitsBelow 40 = .ok (.if_icmp .eq 24, 3) := by decide +kernel
theorem dX9_fitsBelow_64 : decode cX9_fitsBelow 64 = .ok (.iconst 1, 1) := by decide +kernel
theorem dX9_fitsBelow_65 : decode cX9_fitsBelow 65 = .ok (.goto 4, 3) := by decide +kernel
theorem dX9_fitsBelow_69 : decode cX9_fitsBelow 69 = .ok (.ireturn, 1) := by decide +kernel
theorem dX9_fitsBelow_43 : decode cX9_fitsBelow 43 = .ok (.iload_n 3, 1) := by decide +kernel
theorem dX9_fitsBelow_44 : decode cX9_fitsBelow 44 = .ok (.invokestatic 488, 3) := by decide +kernel
theorem dX9_fitsBelow_47 : decode cX9_fitsBelow 47 = .ok (.ifCond .eq 21, 3) := by decide +kernel
theorem dX9_fitsBelow_50 : decode cX9_fitsBelow 50 = .ok (.iload 4, 2) := by decide +kernel
theorem dX9_fitsBelow_52 : decode cX9_fitsBelow 52 = .ok (.invokestatic 488, 3) := by decide +kernel
theorem dX9_fitsBelow_55 : decode cX9_fitsBelow 55 = .ok (.ifCond .eq 13, 3) := by decide +kernel
theorem dX9_fitsBelow_58 : decode cX9_fitsBelow 58 = .ok (.iload_n 3, 1) := by decide +kernel
theorem dX9_fitsBelow_59 : decode cX9_fitsBelow 59 = .ok (.iload 4, 2) := by decide +kernel
theorem dX9_fitsBelow_61 : decode cX9_fitsBelow 61 = .ok (.if_icmp .gt 7, 3) := by decide +kernel
theorem dX9_fitsBelow_68 : decode cX9_fitsBelow 68 = .ok (.iconst 0, 1) := by decide +kernel
theorem dX9_fitsBelow_27 : decode cX9_fitsBelow 27 = .ok (.iconst 0, 1) := by decide +kernel
theorem dX9_fitsBelow_28 : decode cX9_fitsBelow 28 = .ok (.goto 5, 3) := by decide +kernel
theorem dX0_has_0 : decode cX0_has 0 = .ok (.iload_n 1, 1) := by decide +kernel
theorem dX0_has_1 : decode cX0_has 1 = .ok (.ifCond .lt 24, 3) := by decide +kernel
theorem dX0_has_25 : decode cX0_has 25 = .ok (.iconst 0, 1) := by decide +kernel
theorem dX0_has_26 : decode cX0_has 26 = .ok (.ireturn, 1) := by decide +kernel
theorem dX0_has_4 : decode cX0_has 4 = .ok (.iload_n 1, 1) := by decide +kernel
theorem dX0_has_5 : decode cX0_has 5 = .ok (.aload_n 0, 1) := by decide +kernel
theorem dX0_has_6 : decode cX0_has 6 = .ok (.getfield 9, 3) := by decide +kernel
theorem dX0_has_9 : decode cX0_has 9 = .ok (.if_icmp .ge 16, 3) := by decide +kernel
theorem dX1_has_0 : decode cX1_has 0 = .ok (.iload_n 1, 1) := by decide +kernel
theorem dX1_has_1 : decode cX1_has 1 = .ok (.ifCond .lt 25, 3) := by decide +kernel
theorem dX1_has_26 : decode cX1_has 26 = .ok (.iconst 0, 1) := by decide +kernel
theorem dX1_has_27 : decode cX1_has 27 = .ok (.ireturn, 1) := by decide +kernel
theorem dX1_has_4 : decode cX1_has 4 = .ok (.iload_n 1, 1) := by decide +kernel
theorem dX1_has_5 : decode cX1_has 5 = .ok (.aload_n 0, 1) := by decide +kernel
theorem dX1_has_6 : decode cX1_has 6 = .ok (.getfield 9, 3) := by decide +kernel
theorem dX1_has_9 : decode cX1_has 9 = .ok (.if_icmp .ge 17, 3) := by decide +kernel
theorem dX9_requireNode_0 : decode cX9_requireNode 0 = .ok (.aload_n 0, 1) := by decide +kernel
theorem dX9_requireNode_1 : decode cX9_requireNode 1 = .ok (.getfield 10, 3) := by decide +kernel
theorem dX9_requireNode_4 : decode cX9_requireNode 4 = .ok (.getfield 55, 3) := by decide +kernel
theorem dX9_requireNode_7 : decode cX9_requireNode 7 = .ok (.iload_n 1, 1) := by decide +kernel
theorem dX9_requireNode_8 : decode cX9_requireNode 8 = .ok (.invokevirtual 284, 3) := by decide +kernel
theorem dX9_requireNode_11 : decode cX9_requireNode 11 = .ok (.ifCond .ne 14, 3) := by decide +kernel
theorem dX9_requireNode_25 : decode cX9_requireNode 25 = .ok (.return_, 1) := by decide +kernel
theorem dX9_requireNode_14 : decode cX9_requireNode 14 = .ok (.new 161, 3) := by decide +kernel
theorem dX9_requireNode_17 : decode cX9_requireNode 17 = .ok (.dup, 1) := by decide +kernel
theorem dX9_requireNode_18 : decode cX9_requireNode 18 = .ok (.ldc_w 491, 3) := by decide +kernel
theorem dX9_requireNode_21 : decode cX9_requireNode 21 = .ok (.invokespecial 165, 3) := by decide +kernel
theorem dX9_requireNode_24 : decode cX9_requireNode 24 = .ok (.athrow, 1) := by decide +kernel
theorem dX9_requireUnit_0 : decode cX9_requireUnit 0 = .ok (.aload_n 0, 1) := by decide +kernel
theorem dX9_requireUnit_1 : decode cX9_requireUnit 1 = .ok (.getfield 10, 3) := by decide +kernel
theorem dX9_requireUnit_4 : decode cX9_requireUnit 4 = .ok (.getfield 55, 3) := by decide +kernel
theorem dX9_requireUnit_7 : decode cX9_requireUnit 7 = .ok (.getfield 115, 3) := by decide +kernel
theorem dX9_requireUnit_10 : decode cX9_requireUnit 10 = .ok (.iload_n 1, 1) := by decide +kernel
theorem dX9_requireUnit_11 : decode cX9_requireUnit 11 = .ok (.iaload, 1) := by decide +kernel
theorem dX9_requireUnit_12 : decode cX9_requireUnit 12 = .ok (.ifCond .ne 14, 3) := by decide +kernel
theorem dX9_requireUnit_15 : decode cX9_requireUnit 15 = .ok (.new 69, 3) := by decide +kernel
theorem dX9_requireUnit_18 : decode cX9_requireUnit 18 = .ok (.dup, 1) := by decide +kernel
theorem dX9_requireUnit_19 : decode cX9_requireUnit 19 = .ok (.ldc_w 493, 3) := by decide +kernel
theorem dX9_requireUnit_22 : decode cX9_requireUnit 22 = .ok (.invokespecial 73, 3) := by decide +kernel
theorem dX9_requireUnit_25 : decode cX9_requireUnit 25 = .ok (.athrow, 1) := by decide +kernel
theorem dX9_requireContainer_0 : decode cX9_requireContainer 0 = .ok (.aload_n 0, 1) := by decide +kernel
theorem dX9_requireContainer_1 : decode cX9_requireContainer 1 = .ok (.getfield 10, 3) := by decide +kernel
theorem dX9_requireContainer_4 : decode cX9_requireContainer 4 = .ok (.getfield 136, 3) := by decide +kernel
theorem dX9_requireContainer_7 : decode cX9_requireContainer 7 = .ok (.iload_n 1, 1) := by decide +kernel
theorem dX9_requireContainer_8 : decode cX9_requireContainer 8 = .ok (.invokevirtual 495, 3) := by decide +kernel
theorem dX9_requireContainer_11 : decode cX9_requireContainer 11 = .ok (.ifCond .ne 14, 3) := by decide +kernel
theorem dX9_requireContainer_14 : decode cX9_requireContainer 14 = .ok (.new 161, 3) := by decide +kernel
theorem dX9_requireContainer_17 : decode cX9_requireContainer 17 = .ok (.dup, 1) := by decide +kernel
theorem dX9_requireContainer_18 : decode cX9_requireContainer 18 = .ok (.ldc_w 496, 3) := by decide +kernel
theorem dX9_requireContainer_21 : decode cX9_requireContainer 21 = .ok (.invokespecial 165, 3) := by decide +kernel
theorem dX9_requireContainer_24 : decode cX9_requireContainer 24 = .ok (.athrow, 1) := by decide +kernel
theorem dX9_requireCopy_0 : decode cX9_requireCopy 0 = .ok (.aload_n 0, 1) := by decide +kernel
theorem dX9_requireCopy_1 : decode cX9_requireCopy 1 = .ok (.getfield 10, 3) := by decide +kernel
theorem dX9_requireCopy_4 : decode cX9_requireCopy 4 = .ok (.getfield 148, 3) := by decide +kernel
theorem dX9_requireCopy_7 : decode cX9_requireCopy 7 = .ok (.iload_n 1, 1) := by decide +kernel
theorem dX9_requireCopy_8 : decode cX9_requireCopy 8 = .ok (.invokevirtual 498, 3) := by decide +kernel
theorem dX9_requireCopy_11 : decode cX9_requireCopy 11 = .ok (.ifCond .ne 14, 3) := by decide +kernel
theorem dX9_requireCopy_14 : decode cX9_requireCopy 14 = .ok (.new 161, 3) := by decide +kernel
theorem dX9_requireCopy_17 : decode cX9_requireCopy 17 = .ok (.dup, 1) := by decide +kernel
theorem dX9_requireCopy_18 : decode cX9_requireCopy 18 = .ok (.ldc_w 499, 3) := by decide +kernel
theorem dX9_requireCopy_21 : decode cX9_requireCopy 21 = .ok (.invokespecial 165, 3) := by decide +kernel
theorem dX9_requireCopy_24 : decode cX9_requireCopy 24 = .ok (.athrow, 1) := by decide +kernel
theorem dX9_requireRequest_0 : decode cX9_requireRequest 0 = .ok (.iload_n 1, 1) := by decide +kernel
theorem dX9_requireRequest_1 : decode cX9_requireRequest 1 = .ok (.ifCond .lt 17, 3) := by decide +kernel
theorem dX9_requireRequest_18 : decode cX9_requireRequest 18 = .ok (.new 161, 3) := by decide +kernel
theorem dX9_requireRequest_21 : decode cX9_requireRequest 21 = .ok (.dup, 1) := by decide +kernel
theorem dX9_requireRequest_22 : decode cX9_requireRequest 22 = .ok (.ldc_w 501, 3) := by decide +kernel
theorem dX9_requireRequest_25 : decode cX9_requireRequest 25 = .ok (.invokespecial 165, 3) := by decide +kernel
theorem dX9_requireRequest_28 : decode cX9_requireRequest 28 = .ok (.athrow, 1) := by decide +kernel
theorem dX9_requireRequest_4 : decode cX9_requireRequest 4 = .ok (.iload_n 1, 1) := by decide +kernel
theorem dX9_requireRequest_5 : decode cX9_requireRequest 5 = .ok (.aload_n 0, 1) := by decide +kernel
theorem dX9_requireRequest_6 : decode cX9_requireRequest 6 = .ok (.getfield 10, 3) := by decide +kernel
theorem dX9_requireRequest_9 : decode cX9_requireRequest 9 = .ok (.getfield 314, 3) := by decide +kernel
theorem dX9_requireRequest_12 : decode cX9_requireRequest 12 = .ok (.getfield 330, 3) := by decide +kernel
theorem dX9_requireRequest_15 : decode cX9_requireRequest 15 = .ok (.if_icmp .lt 14, 3) := by decide +kernel
theorem dX9_requirePart_0 : decode cX9_requirePart 0 = .ok (.iload_n 0, 1) := by decide +kernel
theorem dX9_requirePart_1 : decode cX9_requirePart 1 = .ok (.ifCond .lt 8, 3) := by decide +kernel
theorem dX9_requirePart_9 : decode cX9_requirePart 9 = .ok (.new 69, 3) := by decide +kernel
theorem dX9_requirePart_12 : decode cX9_requirePart 12 = .ok (.dup, 1) := by decide +kernel
theorem dX9_requirePart_13 : decode cX9_requirePart 13 = .ok (.ldc_w 503, 3) := by decide +kernel
theorem dX9_requirePart_16 : decode cX9_requirePart 16 = .ok (.invokespecial 73, 3) := by decide +kernel
theorem dX9_requirePart_19 : decode cX9_requirePart 19 = .ok (.athrow, 1) := by decide +kernel
theorem dX9_requirePart_4 : decode cX9_requirePart 4 = .ok (.iload_n 0, 1) := by decide +kernel
theorem dX9_requirePart_5 : decode cX9_requirePart 5 = .ok (.iload_n 1, 1) := by decide +kernel
theorem dX9_requirePart_6 : decode cX9_requirePart 6 = .ok (.if_icmp .le 14, 3) := by decide +kernel
theorem dX9_requirePart_20 : decode cX9_requirePart 20 = .ok (.return_, 1) := by decide +kernel
theorem dX9_requireDay_0 : decode cX9_requireDay 0 = .ok (.iload_n 0, 1) := by decide +kernel
theorem dX9_requireDay_1 : decode cX9_requireDay 1 = .ok (.invokestatic 488, 3) := by decide +kernel
theorem dX9_requireDay_4 : decode cX9_requireDay 4 = .ok (.ifCond .ne 14, 3) := by decide +kernel
theorem dX9_requireDay_18 : decode cX9_requireDay 18 = .ok (.return_, 1) := by decide +kernel
theorem dX9_requireDay_7 : decode cX9_requireDay 7 = .ok (.new 69, 3) := by decide +kernel
theorem dX9_requireDay_10 : decode cX9_requireDay 10 = .ok (.dup, 1) := by decide +kernel
theorem dX9_requireDay_11 : decode cX9_requireDay 11 = .ok (.ldc_w 505, 3) := by decide +kernel
theorem dX9_requireDay_14 : decode cX9_requireDay 14 = .ok (.invokespecial 73, 3) := by decide +kernel
theorem dX9_requireDay_17 : decode cX9_requireDay 17 = .ok (.athrow, 1) := by decide +kernel
theorem dX9_requireCapacity_0 : decode cX9_requireCapacity 0 = .ok (.iload_n 0, 1) := by decide +kernel
theorem dX9_requireCapacity_1 : decode cX9_requireCapacity 1 = .ok (.iconst 1, 1) := by decide +kernel
theorem dX9_requireCapacity_2 : decode cX9_requireCapacity 2 = .ok (.if_icmp .lt 10, 3) := by decide +kernel
theorem dX9_requireCapacity_12 : decode cX9_requireCapacity 12 = .ok (.new 69, 3) := by decide +kernel
theorem dX9_requireCapacity_15 : decode cX9_requireCapacity 15 = .ok (.dup, 1) := by decide +kernel
theorem dX9_requireCapacity_16 : decode cX9_requireCapacity 16 = .ok (.ldc_w 507, 3) := by decide +kernel
theorem dX9_requireCapacity_19 : decode cX9_requireCapacity 19 = .ok (.invokespecial 73, 3) := by decide +kernel
theorem dX9_requireCapacity_22 : decode cX9_requireCapacity 22 = .ok (.athrow, 1) := by decide +kernel
theorem dX9_requireCapacity_5 : decode cX9_requireCapacity 5 = .ok (.iload_n 0, 1) := by decide +kernel
theorem dX9_requireCapacity_6 : decode cX9_requireCapacity 6 = .ok (.sipush 200, 3) := by decide +kernel
theorem dX9_requireCapacity_9 : decode cX9_requireCapacity 9 = .ok (.if_icmp .le 14, 3) := by decide +kernel
theorem dX9_requireCapacity_23 : decode cX9_requireCapacity 23 = .ok (.return_, 1) := by decide +kernel
theorem dX8_latestDay_0 : decode cX8_latestDay 0 = .ok (.aload_n 0, 1) := by decide +kernel
theorem dX8_latestDay_1 : decode cX8_latestDay 1 = .ok (.iload_n 1, 1) := by decide +kernel
theorem dX8_latestDay_2 : decode cX8_latestDay 2 = .ok (.invokevirtual 63, 3) := by decide +kernel
theorem dX8_latestDay_5 : decode cX8_latestDay 5 = .ok (.istore_n 2, 1) := by decide +kernel
theorem dX8_latestDay_6 : decode cX8_latestDay 6 = .ok (.iload_n 2, 1) := by decide +kernel
theorem dX8_latestDay_7 : decode cX8_latestDay 7 = .ok (.aload_n 0, 1) := by decide +kernel
theorem dX8_latestDay_8 : decode cX8_latestDay 8 = .ok (.getfield 31, 3) := by decide +kernel
theorem dX8_latestDay_11 : decode cX8_latestDay 11 = .ok (.iload_n 1, 1) := by decide +kernel
theorem dX8_latestDay_12 : decode cX8_latestDay 12 = .ok (.iaload, 1) := by decide +kernel
theorem dX8_latestDay_13 : decode cX8_latestDay 13 = .ok (.iadd, 1) := by decide +kernel
theorem dX8_latestDay_14 : decode cX8_latestDay 14 = .ok (.istore_n 3, 1) := by decide +kernel
theorem dX8_latestDay_15 : decode cX8_latestDay 15 = .ok (.iconst (-1), 1) := by decide +kernel
theorem dX8_latestDay_16 : decode cX8_latestDay 16 = .ok (.istore 4, 2) := by decide +kernel
theorem dX8_latestDay_18 : decode cX8_latestDay 18 = .ok (.iload_n 2, 1) := by decide +kernel
theorem dX8_latestDay_19 : decode cX8_latestDay 19 = .ok (.istore 5, 2) := by decide +kernel
theorem dX8_latestDay_21 : decode cX8_latestDay 21 = .ok (.iload 5, 2) := by decide +kernel
theorem dX8_latestDay_23 : decode cX8_latestDay 23 = .ok (.iload_n 3, 1) := by decide +kernel
theorem dX8_latestDay_24 : decode cX8_latestDay 24 = .ok (.if_icmp .gt 28, 3) := by decide +kernel
theorem dX8_latestDay_27 : decode cX8_latestDay 27 = .ok (.iload 4, 2) := by decide +kernel
theorem dX8_latestDay_29 : decode cX8_latestDay 29 = .ok (.aload_n 0, 1) := by decide +kernel
theorem dX8_latestDay_30 : decode cX8_latestDay 30 = .ok (.getfield 40, 3) := by decide +kernel
theorem dX8_latestDay_33 : decode cX8_latestDay 33 = .ok (.aload_n 0, 1) := by decide +kernel
theorem dX8_latestDay_34 : decode cX8_latestDay 34 = .ok (.getfield 18, 3) := by decide +kernel
theorem dX8_latestDay_37 : decode cX8_latestDay 37 = .ok (.iload 5, 2) := by decide +kernel
theorem dX8_latestDay_39 : decode cX8_latestDay 39 = .ok (.iaload, 1) := by decide +kernel
theorem dX8_latestDay_40 : decode cX8_latestDay 40 = .ok (.iaload, 1) := by decide +kernel
theorem dX8_latestDay_41 : decode cX8_latestDay 41 = .ok (.invokestatic 70, 3) := by decide +kernel
theorem dX8_latestDay_44 : decode cX8_latestDay 44 = .ok (.istore 4, 2) := by decide +kernel
theorem dX8_latestDay_46 : decode cX8_latestDay 46 = .ok (.iinc 5 1, 3) := by decide +kernel
theorem dX8_latestDay_49 : decode cX8_latestDay 49 = .ok (.goto (-28), 3) := by decide +kernel
theorem dX8_latestDay_52 : decode cX8_latestDay 52 = .ok (.iload 4, 2) := by decide +kernel
theorem dX8_latestDay_54 : decode cX8_latestDay 54 = .ok (.ireturn, 1) := by decide +kernel
theorem dX8_countPages_0 : decode cX8_countPages 0 = .ok (.aload_n 0, 1) := by decide +kernel
theorem dX8_countPages_1 : decode cX8_countPages 1 = .ok (.iload_n 1, 1) := by decide +kernel
theorem dX8_countPages_2 : decode cX8_countPages 2 = .ok (.invokevirtual 63, 3) := by decide +kernel
theorem dX8_countPages_5 : decode cX8_countPages 5 = .ok (.istore_n 2, 1) := by decide +kernel
theorem dX8_countPages_6 : decode cX8_countPages 6 = .ok (.iload_n 2, 1) := by decide +kernel
theorem dX8_countPages_7 : decode cX8_countPages 7 = .ok (.aload_n 0, 1) := by decide +kernel
theorem dX8_countPages_8 : decode cX8_countPages 8 = .ok (.getfield 31, 3) := by decide +kernel
theorem dX8_countPages_11 : decode cX8_countPages 11 = .ok (.iload_n 1, 1) := by decide +kernel
theorem dX8_countPages_12 : decode cX8_countPages 12 = .ok (.iaload, 1) := by decide +kernel
theorem dX8_countPages_13 : decode cX8_countPages 13 = .ok (.iadd, 1) := by decide +kernel
theorem dX8_countPages_14 : decode cX8_countPages 14 = .ok (.istore_n 3, 1) := by decide +kernel
theorem dX8_countPages_15 : decode cX8_countPages 15 = .ok (.iconst 0, 1) := by decide +kernel
theorem dX8_countPages_16 : decode cX8_countPages 16 = .ok (.istore 4, 2) := by decide +kernel
theorem dX8_countPages_18 : decode cX8_countPages 18 = .ok (.iload_n 2, 1) := by decide +kernel
theorem dX8_countPages_19 : decode cX8_countPages 19 = .ok (.istore 5, 2) := by decide +kernel
theorem dX8_countPages_21 : decode cX8_countPages 21 = .ok (.iload 5, 2) := by decide +kernel
theorem dX8_countPages_23 : decode cX8_countPages 23 = .ok (.iload_n 3, 1) := by decide +kernel
theorem dX8_countPages_24 : decode cX8_countPages 24 = .ok (.if_icmp .gt 26, 3) := by decide +kernel
theorem dX8_countPages_27 : decode cX8_countPages 27 = .ok (.iload 4, 2) := by decide +kernel
theorem dX8_countPages_29 : decode cX8_countPages 29 = .ok (.aload_n 0, 1) := by decide +kernel
theorem dX8_countPages_30 : decode cX8_countPages 30 = .ok (.getfield 34, 3) := by decide +kernel
theorem dX8_countPages_33 : decode cX8_countPages 33 = .ok (.aload_n 0, 1) := by decide +kernel
theorem dX8_countPages_34 : decode cX8_countPages 34 = .ok (.getfield 18, 3) := by decide +kernel
theorem dX8_countPages_37 : decode cX8_countPages 37 = .ok (.iload 5, 2) := by decide +kernel
theorem dX8_countPages_39 : decode cX8_countPages 39 = .ok (.iaload, 1) := by decide +kernel
theorem dX8_countPages_40 : decode cX8_countPages 40 = .ok (.iaload, 1) := by decide +kernel
theorem dX8_countPages_41 : decode cX8_countPages 41 = .ok (.iadd, 1) := by decide +kernel
theorem dX8_countPages_42 : decode cX8_countPages 42 = .ok (.istore 4, 2) := by decide +kernel
theorem dX8_countPages_44 : decode cX8_countPages 44 = .ok (.iinc 5 1, 3) := by decide +kernel
theorem dX8_countPages_47 : decode cX8_countPages 47 = .ok (.goto (-26), 3) := by decide +kernel
theorem dX8_countPages_50 : decode cX8_countPages 50 = .ok (.iload 4, 2) := by decide +kernel
theorem dX8_countPages_52 : decode cX8_countPages 52 = .ok (.ireturn, 1) := by decide +kernel
theorem dX8_countUnits_0 : decode cX8_countUnits 0 = .ok (.iconst 0, 1) := by decide +kernel
theorem dX8_countUnits_1 : decode cX8_countUnits 1 = .ok (.istore_n 1, 1) := by decide +kernel
theorem dX8_countUnits_2 : decode cX8_countUnits 2 = .ok (.iconst 0, 1) := by decide +kernel
theorem dX8_countUnits_3 : decode cX8_countUnits 3 = .ok (.istore_n 2, 1) := by decide +kernel
theorem dX8_countUnits_4 : decode cX8_countUnits 4 = .ok (.iload_n 2, 1) := by decide +kernel
theorem dX8_countUnits_5 : decode cX8_countUnits 5 = .ok (.aload_n 0, 1) := by decide +kernel
theorem dX8_countUnits_6 : decode cX8_countUnits 6 = .ok (.getfield 15, 3) := by decide +kernel
theorem dX8_countUnits_9 : decode cX8_countUnits 9 = .ok (.if_icmp .ge 26, 3) := by decide +kernel
theorem dX8_countUnits_12 : decode cX8_countUnits 12 = .ok (.aload_n 0, 1) := by decide +kernel
theorem dX8_countUnits_13 : decode cX8_countUnits 13 = .ok (.getfield 34, 3) := by decide +kernel
theorem dX8_countUnits_16 : decode cX8_countUnits 16 = .ok (.aload_n 0, 1) := by decide +kernel
theorem dX8_countUnits_17 : decode cX8_countUnits 17 = .ok (.getfield 18, 3) := by decide +kernel
theorem dX8_countUnits_20 : decode cX8_countUnits 20 = .ok (.iload_n 2, 1) := by decide +kernel
theorem dX8_countUnits_21 : decode cX8_countUnits 21 = .ok (.iaload, 1) := by decide +kernel
theorem dX8_countUnits_22 : decode cX8_countUnits 22 = .ok (.iaload, 1) := by decide +kernel
theorem dX8_countUnits_23 : decode cX8_countUnits 23 = .ok (.ifCond .le 6, 3) := by decide +kernel
theorem dX8_countUnits_29 : decode cX8_countUnits 29 = .ok (.iinc 2 1, 3) := by decide +kernel
theorem dX8_countUnits_32 : decode cX8_countUnits 32 = .ok (.goto (-28), 3) := by decide +kernel
theorem dX8_countUnits_35 : decode cX8_countUnits 35 = .ok (.iload_n 1, 1) := by decide +kernel
theorem dX8_countUnits_36 : decode cX8_countUnits 36 = .ok (.ireturn, 1) := by decide +kernel
theorem dX8_countChildren_0 : decode cX8_countChildren 0 = .ok (.iconst 0, 1) := by decide +kernel
theorem dX8_countChildren_1 : decode cX8_countChildren 1 = .ok (.istore_n 2, 1) := by decide +kernel
theorem dX8_countChildren_2 : decode cX8_countChildren 2 = .ok (.iconst 0, 1) := by decide +kernel
theorem dX8_countChildren_3 : decode cX8_countChildren 3 = .ok (.istore_n 3, 1) := by decide +kernel
theorem dX8_countChildren_4 : decode cX8_countChildren 4 = .ok (.iload_n 3, 1) := by decide +kernel
theorem dX8_countChildren_5 : decode cX8_countChildren 5 = .ok (.aload_n 0, 1) := by decide +kernel
theorem dX8_countChildren_6 : decode cX8_countChildren 6 = .ok (.getfield 15, 3) := by decide +kernel
theorem dX8_countChildren_9 : decode cX8_countChildren 9 = .ok (.if_icmp .ge 27, 3) := by decide +kernel
theorem dX8_countChildren_12 : decode cX8_countChildren 12 = .ok (.aload_n 0, 1) := by decide +kernel
theorem dX8_countChildren_13 : decode cX8_countChildren 13 = .ok (.getfield 28, 3) := by decide +kernel
theorem dX8_countChildren_16 : decode cX8_countChildren 16 = .ok (.aload_n 0, 1) := by decide +kernel
theorem dX8_countChildren_17 : decode cX8_countChildren 17 = .ok (.getfield 18, 3) := by decide +kernel
theorem dX8_countChildren_20 : decode cX8_countChildren 20 = .ok (.iload_n 3, 1) := by decide +kernel
theorem dX8_countChildren_21 : decode cX8_countChildren 21 = .ok (.iaload, 1) := by decide +kernel
theorem dX8_countChildren_22 : decode cX8_countChildren 22 = .ok (.iaload, 1) := by decide +kernel
theorem dX8_countChildren_23 : decode cX8_countChildren 23 = .ok (.iload_n 1, 1) := by decide +kernel
theorem dX8_countChildren_24 : decode cX8_countChildren 24 = .ok (.if_icmp .ne 6, 3) := by decide +kernel
theorem dX8_countChildren_30 : decode cX8_countChildren 30 = .ok (.iinc 3 1, 3) := by decide +kernel
theorem dX8_countChildren_33 : decode cX8_countChildren 33 = .ok (.goto (-29), 3) := by decide +kernel
theorem dX8_countChildren_36 : decode cX8_countChildren 36 = .ok (.iload_n 2, 1) := by decide +kernel
theorem dX8_countChildren_37 : decode cX8_countChildren 37 = .ok (.ireturn, 1) := by decide +kernel
theorem dX8_findChild_0 : decode cX8_findChild 0 = .ok (.iconst 0, 1) := by decide +kernel
theorem dX8_findChild_1 : decode cX8_findChild 1 = .ok (.istore_n 3, 1) := by decide +kernel
theorem dX8_findChild_2 : decode cX8_findChild 2 = .ok (.iconst 0, 1) := by decide +kernel
theorem dX8_findChild_3 : decode cX8_findChild 3 = .ok (.istore 4, 2) := by decide +kernel
theorem dX8_findChild_5 : decode cX8_findChild 5 = .ok (.iload 4, 2) := by decide +kernel
theorem dX8_findChild_7 : decode cX8_findChild 7 = .ok (.aload_n 0, 1) := by decide +kernel
theorem dX8_findChild_8 : decode cX8_findChild 8 = .ok (.getfield 15, 3) := by decide +kernel
theorem dX8_findChild_11 : decode cX8_findChild 11 = .ok (.if_icmp .ge 41, 3) := by decide +kernel
theorem dX8_findChild_14 : decode cX8_findChild 14 = .ok (.aload_n 0, 1) := by decide +kernel
theorem dX8_findChild_15 : decode cX8_findChild 15 = .ok (.getfield 28, 3) := by decide +kernel
theorem dX8_findChild_18 : decode cX8_findChild 18 = .ok (.aload_n 0, 1) := by decide +kernel
theorem dX8_findChild_19 : decode cX8_findChild 19 = .ok (.getfield 18, 3) := by decide +kernel
theorem dX8_findChild_22 : decode cX8_findChild 22 = .ok (.iload 4, 2) := by decide +kernel
theorem dX8_findChild_24 : decode cX8_findChild 24 = .ok (.iaload, 1) := by decide +kernel
theorem dX8_findChild_25 : decode cX8_findChild 25 = .ok (.iaload, 1) := by decide +kernel
theorem dX8_findChild_26 : decode cX8_findChild 26 = .ok (.iload_n 1, 1) := by decide +kernel
theorem dX8_findChild_27 : decode cX8_findChild 27 = .ok (.if_icmp .ne 19, 3) := by decide +kernel
theorem dX8_findChild_46 : decode cX8_findChild 46 = .ok (.iinc 4 1, 3) := by decide +kernel
theorem dX8_findChild_49 : decode cX8_findChild 49 = .ok (.goto (-44), 3) := by decide +kernel
theorem dX8_findChild_52 : decode cX8_findChild 52 = .ok (.iconst (-1), 1) := by decide +kernel
theorem dX8_findChild_53 : decode cX8_findChild 53 = .ok (.ireturn, 1) := by decide +kernel
theorem dX8_depth_0 : decode cX8_depth 0 = .ok (.iconst 0, 1) := by decide +kernel
theorem dX8_depth_1 : decode cX8_depth 1 = .ok (.istore_n 2, 1) := by decide +kernel
theorem dX8_depth_2 : decode cX8_depth 2 = .ok (.aload_n 0, 1) := by decide +kernel
theorem dX8_depth_3 : decode cX8_depth 3 = .ok (.getfield 28, 3) := by decide +kernel
theorem dX8_depth_6 : decode cX8_depth 6 = .ok (.iload_n 1, 1) := by decide +kernel
theorem dX8_depth_7 : decode cX8_depth 7 = .ok (.iaload, 1) := by decide +kernel
theorem dX8_depth_8 : decode cX8_depth 8 = .ok (.istore_n 3, 1) := by decide +kernel
theorem dX8_depth_9 : decode cX8_depth 9 = .ok (.iload_n 2, 1) := by decide +kernel
theorem dX8_depth_10 : decode cX8_depth 10 = .ok (.iconst 3, 1) := by decide +kernel
theorem dX8_depth_11 : decode cX8_depth 11 = .ok (.if_icmp .ge 21, 3) := by decide +kernel
theorem dX8_depth_14 : decode cX8_depth 14 = .ok (.iload_n 3, 1) := by decide +kernel
theorem dX8_depth_15 : decode cX8_depth 15 = .ok (.iconst (-1), 1) := by decide +kernel
theorem dX8_depth_16 : decode cX8_depth 16 = .ok (.if_icmp .eq 16, 3) := by decide +kernel
theorem dX8_depth_32 : decode cX8_depth 32 = .ok (.iload_n 2, 1) := by decide +kernel
theorem dX8_depth_33 : decode cX8_depth 33 = .ok (.ireturn, 1) := by decide +kernel
theorem dX6_decidingNode_0 : decode cX6_decidingNode 0 = .ok (.iconst (-1), 1) := by decide +kernel
theorem dX6_decidingNode_1 : decode cX6_decidingNode 1 = .ok (.istore_n 3, 1) := by decide +kernel
theorem dX6_decidingNode_2 : decode cX6_decidingNode 2 = .ok (.iconst 0, 1) := by decide +kernel
theorem dX6_decidingNode_3 : decode cX6_decidingNode 3 = .ok (.istore 4, 2) := by decide +kernel
theorem dX6_decidingNode_5 : decode cX6_decidingNode 5 = .ok (.iload_n 2, 1) := by decide +kernel
theorem dX6_decidingNode_6 : decode cX6_decidingNode 6 = .ok (.istore 5, 2) := by decide +kernel
theorem dX6_decidingNode_8 : decode cX6_decidingNode 8 = .ok (.iconst 0, 1) := by decide +kernel
theorem dX6_decidingNode_9 : decode cX6_decidingNode 9 = .ok (.istore 6, 2) := by decide +kernel
theorem dX6_decidingNode_11 : decode cX6_decidingNode 11 = .ok (.iload 6, 2) := by decide +kernel
theorem dX6_decidingNode_13 : decode cX6_decidingNode 13 = .ok (.iconst 3, 1) := by decide +kernel
theorem dX6_decidingNode_14 : decode cX6_decidingNode 14 = .ok (.if_icmp .gt 85, 3) := by decide +kernel
theorem dX6_decidingNode_17 : decode cX6_decidingNode 17 = .ok (.iload 5, 2) := by decide +kernel
theorem dX6_decidingNode_19 : decode cX6_decidingNode 19 = .ok (.iconst (-1), 1) := by decide +kernel
theorem dX6_decidingNode_20 : decode cX6_decidingNode 20 = .ok (.if_icmp .eq 79, 3) := by decide +kernel
theorem dX6_decidingNode_23 : decode cX6_decidingNode 23 = .ok (.aload_n 0, 1) := by decide +kernel
theorem dX6_decidingNode_24 : decode cX6_decidingNode 24 = .ok (.getfield 9, 3) := by decide +kernel
theorem dX6_decidingNode_27 : decode cX6_decidingNode 27 = .ok (.iload 5, 2) := by decide +kernel
theorem dX6_decidingNode_29 : decode cX6_decidingNode 29 = .ok (.iaload, 1) := by decide +kernel
theorem dX6_decidingNode_30 : decode cX6_decidingNode 30 = .ok (.iconst 2, 1) := by decide +kernel
theorem dX6_decidingNode_31 : decode cX6_decidingNode 31 = .ok (.if_icmp .eq 68, 3) := by decide +kernel
theorem dX6_decidingNode_34 : decode cX6_decidingNode 34 = .ok (.aload_n 0, 1) := by decide +kernel
theorem dX6_decidingNode_35 : decode cX6_decidingNode 35 = .ok (.getfield 9, 3) := by decide +kernel
theorem dX6_decidingNode_38 : decode cX6_decidingNode 38 = .ok (.iload 5, 2) := by decide +kernel
theorem dX6_decidingNode_40 : decode cX6_decidingNode 40 = .ok (.iaload, 1) := by decide +kernel
theorem dX6_decidingNode_41 : decode cX6_decidingNode 41 = .ok (.iconst (-1), 1) := by decide +kernel
theorem dX6_decidingNode_42 : decode cX6_decidingNode 42 = .ok (.if_icmp .eq 27, 3) := by decide +kernel
theorem dX6_decidingNode_69 : decode cX6_decidingNode 69 = .ok (.aload_n 0, 1) := by decide +kernel
theorem dX6_decidingNode_70 : decode cX6_decidingNode 70 = .ok (.getfield 9, 3) := by decide +kernel
theorem dX6_decidingNode_73 : decode cX6_decidingNode 73 = .ok (.iload 5, 2) := by decide +kernel
theorem dX6_decidingNode_75 : decode cX6_decidingNode 75 = .ok (.iaload, 1) := by decide +kernel
theorem dX6_decidingNode_76 : decode cX6_decidingNode 76 = .ok (.iconst 1, 1) := by decide +kernel
theorem dX6_decidingNode_77 : decode cX6_decidingNode 77 = .ok (.if_icmp .ne 7, 3) := by decide +kernel
theorem dX6_decidingNode_84 : decode cX6_decidingNode 84 = .ok (.aload_n 1, 1) := by decide +kernel
theorem dX6_decidingNode_85 : decode cX6_decidingNode 85 = .ok (.getfield 33, 3) := by decide +kernel
theorem dX6_decidingNode_88 : decode cX6_decidingNode 88 = .ok (.iload 5, 2) := by decide +kernel
theorem dX6_decidingNode_90 : decode cX6_decidingNode 90 = .ok (.iaload, 1) := by decide +kernel
theorem dX6_decidingNode_91 : decode cX6_decidingNode 91 = .ok (.istore 5, 2) := by decide +kernel
theorem dX6_decidingNode_93 : decode cX6_decidingNode 93 = .ok (.iinc 6 1, 3) := by decide +kernel
theorem dX6_decidingNode_96 : decode cX6_decidingNode 96 = .ok (.goto (-85), 3) := by decide +kernel
theorem dX6_decidingNode_99 : decode cX6_decidingNode 99 = .ok (.iload_n 3, 1) := by decide +kernel
theorem dX6_decidingNode_100 : decode cX6_decidingNode 100 = .ok (.ireturn, 1) := by decide +kernel
theorem dX6_term_0 : decode cX6_term 0 = .ok (.aload_n 0, 1) := by decide +kernel
theorem dX6_term_1 : decode cX6_term 1 = .ok (.aload_n 1, 1) := by decide +kernel
theorem dX6_term_2 : decode cX6_term 2 = .ok (.iload_n 2, 1) := by decide +kernel
theorem dX6_term_3 : decode cX6_term 3 = .ok (.invokevirtual 38, 3) := by decide +kernel
theorem dX6_term_6 : decode cX6_term 6 = .ok (.istore_n 3, 1) := by decide +kernel
theorem dX6_term_7 : decode cX6_term 7 = .ok (.iload_n 3, 1) := by decide +kernel
theorem dX6_term_8 : decode cX6_term 8 = .ok (.iconst (-1), 1) := by decide +kernel
theorem dX6_term_9 : decode cX6_term 9 = .ok (.if_icmp .ne 7, 3) := by decide +kernel
theorem dX6_term_12 : decode cX6_term 12 = .ok (.iconst 0, 1) := by decide +kernel
theorem dX6_term_13 : decode cX6_term 13 = .ok (.goto 9, 3) := by decide +kernel
theorem dX6_term_22 : decode cX6_term 22 = .ok (.ireturn, 1) := by decide +kernel
theorem dX6_lastDay_0 : decode cX6_lastDay 0 = .ok (.iload_n 0, 1) := by decide +kernel
theorem dX6_lastDay_1 : decode cX6_lastDay 1 = .ok (.ifCond .ne 5, 3) := by decide +kernel
theorem dX6_lastDay_4 : decode cX6_lastDay 4 = .ok (.iconst (-1), 1) := by decide +kernel
theorem dX6_lastDay_5 : decode cX6_lastDay 5 = .ok (.ireturn, 1) := by decide +kernel
theorem dX6_lastClosedDay_0 : decode cX6_lastClosedDay 0 = .ok (.aload_n 0, 1) := by decide +kernel
theorem dX6_lastClosedDay_1 : decode cX6_lastClosedDay 1 = .ok (.aload_n 1, 1) := by decide +kernel
theorem dX6_lastClosedDay_2 : decode cX6_lastClosedDay 2 = .ok (.iload_n 2, 1) := by decide +kernel
theorem dX6_lastClosedDay_3 : decode cX6_lastClosedDay 3 = .ok (.invokevirtual 42, 3) := by decide +kernel
theorem dX6_lastClosedDay_6 : decode cX6_lastClosedDay 6 = .ok (.aload_n 1, 1) := by decide +kernel
theorem dX6_lastClosedDay_7 : decode cX6_lastClosedDay 7 = .ok (.iload_n 2, 1) := by decide +kernel
theorem dX6_lastClosedDay_8 : decode cX6_lastClosedDay 8 = .ok (.invokevirtual 45, 3) := by decide +kernel
theorem dX6_lastClosedDay_11 : decode cX6_lastClosedDay 11 = .ok (.invokestatic 49, 3) := by decide +kernel
theorem dX6_lastClosedDay_14 : decode cX6_lastClosedDay 14 = .ok (.ireturn, 1) := by decide +kernel
theorem dX6_openSet_0 : decode cX6_openSet 0 = .ok (.aload_n 1, 1) := by decide +kernel
theorem dX6_openSet_1 : decode cX6_openSet 1 = .ok (.getfield 54, 3) := by decide +kernel
theorem dX6_openSet_4 : decode cX6_openSet 4 = .ok (.iload_n 2, 1) := by decide +kernel
theorem dX6_openSet_5 : decode cX6_openSet 5 = .ok (.iaload, 1) := by decide +kernel
theorem dX6_openSet_6 : decode cX6_openSet 6 = .ok (.ifCond .eq 13, 3) := by decide +kernel
theorem dX6_openSet_19 : decode cX6_openSet 19 = .ok (.iconst 0, 1) := by decide +kernel
theorem dX6_openSet_20 : decode cX6_openSet 20 = .ok (.ireturn, 1) := by decide +kernel
theorem dX0_canOpen_0 : decode cX0_canOpen 0 = .ok (.aload_n 0, 1) := by decide +kernel
theorem dX0_canOpen_1 : decode cX0_canOpen 1 = .ok (.getfield 15, 3) := by decide +kernel
theorem dX0_canOpen_4 : decode cX0_canOpen 4 = .ok (.bipush 10, 2) := by decide +kernel
theorem dX0_canOpen_6 : decode cX0_canOpen 6 = .ok (.if_icmp .ge 16, 3) := by decide +kernel
theorem dX0_canOpen_9 : decode cX0_canOpen 9 = .ok (.aload_n 0, 1) := by decide +kernel
theorem dX0_canOpen_10 : decode cX0_canOpen 10 = .ok (.getfield 9, 3) := by decide +kernel
theorem dX0_canOpen_13 : decode cX0_canOpen 13 = .ok (.bipush 30, 2) := by decide +kernel
theorem dX0_canOpen_15 : decode cX0_canOpen 15 = .ok (.if_icmp .ge 7, 3) := by decide +kernel
theorem dX0_canOpen_18 : decode cX0_canOpen 18 = .ok (.iconst 1, 1) := by decide +kernel
theorem dX0_canOpen_19 : decode cX0_canOpen 19 = .ok (.goto 4, 3) := by decide +kernel
theorem dX0_canOpen_23 : decode cX0_canOpen 23 = .ok (.ireturn, 1) := by decide +kernel
theorem dX3_unitOf_0 : decode cX3_unitOf 0 = .ok (.iconst 0, 1) := by decide +kernel
theorem dX3_unitOf_1 : decode cX3_unitOf 1 = .ok (.istore_n 3, 1) := by decide +kernel
theorem dX3_unitOf_2 : decode cX3_unitOf 2 = .ok (.iconst 0, 1) := by decide +kernel
theorem dX3_unitOf_3 : decode cX3_unitOf 3 = .ok (.istore 4, 2) := by decide +kernel
theorem dX3_unitOf_5 : decode cX3_unitOf 5 = .ok (.iload 4, 2) := by decide +kernel
theorem dX3_unitOf_7 : decode cX3_unitOf 7 = .ok (.aload_n 0, 1) := by decide +kernel
theorem dX3_unitOf_8 : decode cX3_unitOf 8 = .ok (.getfield 9, 3) := by decide +kernel
theorem dX3_unitOf_11 : decode cX3_unitOf 11 = .ok (.if_icmp .ge 36, 3) := by decide +kernel
theorem dX3_unitOf_47 : decode cX3_unitOf 47 = .ok (.iconst (-1), 1) := by decide +kernel
theorem dX3_unitOf_48 : decode cX3_unitOf 48 = .ok (.ireturn, 1) := by decide +kernel
theorem dX3_countReferring_0 : decode cX3_countReferring 0 = .ok (.iconst 0, 1) := by decide +kernel
theorem dX3_countReferring_1 : decode cX3_countReferring 1 = .ok (.istore_n 2, 1) := by decide +kernel
theorem dX3_countReferring_2 : decode cX3_countReferring 2 = .ok (.iconst 0, 1) := by decide +kernel
theorem dX3_countReferring_3 : decode cX3_countReferring 3 = .ok (.istore_n 3, 1) := by decide +kernel
theorem dX3_countReferring_4 : decode cX3_countReferring 4 = .ok (.iload_n 3, 1) := by decide +kernel
theorem dX3_countReferring_5 : decode cX3_countReferring 5 = .ok (.aload_n 0, 1) := by decide +kernel
theorem dX3_countReferring_6 : decode cX3_countReferring 6 = .ok (.getfield 9, 3) := by decide +kernel
theorem dX3_countReferring_9 : decode cX3_countReferring 9 = .ok (.if_icmp .ge 25, 3) := by decide +kernel
theorem dX3_countReferring_34 : decode cX3_countReferring 34 = .ok (.iload_n 2, 1) := by decide +kernel
theorem dX3_countReferring_35 : decode cX3_countReferring 35 = .ok (.ireturn, 1) := by decide +kernel
theorem dX1_countOf_0 : decode cX1_countOf 0 = .ok (.iconst 0, 1) := by decide +kernel
theorem dX1_countOf_1 : decode cX1_countOf 1 = .ok (.istore_n 2, 1) := by decide +kernel
theorem dX1_countOf_2 : decode cX1_countOf 2 = .ok (.iconst 0, 1) := by decide +kernel
theorem dX1_countOf_3 : decode cX1_countOf 3 = .ok (.istore_n 3, 1) := by decide +kernel
theorem dX1_countOf_4 : decode cX1_countOf 4 = .ok (.iload_n 3, 1) := by decide +kernel
theorem dX1_countOf_5 : decode cX1_countOf 5 = .ok (.aload_n 0, 1) := by decide +kernel
theorem dX1_countOf_6 : decode cX1_countOf 6 = .ok (.getfield 9, 3) := by decide +kernel
theorem dX1_countOf_9 : decode cX1_countOf 9 = .ok (.if_icmp .ge 22, 3) := by decide +kernel
theorem dX1_countOf_31 : decode cX1_countOf 31 = .ok (.iload_n 2, 1) := by decide +kernel
theorem dX1_countOf_32 : decode cX1_countOf 32 = .ok (.ireturn, 1) := by decide +kernel
theorem dX1_countPresent_0 : decode cX1_countPresent 0 = .ok (.aload_n 0, 1) := by decide +kernel
theorem dX1_countPresent_1 : decode cX1_countPresent 1 = .ok (.getfield 9, 3) := by decide +kernel
theorem dX1_countPresent_4 : decode cX1_countPresent 4 = .ok (.aload_n 0, 1) := by decide +kernel
theorem dX1_countPresent_5 : decode cX1_countPresent 5 = .ok (.iconst (-1), 1) := by decide +kernel
theorem dX1_countPresent_6 : decode cX1_countPresent 6 = .ok (.invokevirtual 34, 3) := by decide +kernel
theorem dX1_countPresent_9 : decode cX1_countPresent 9 = .ok (.isub, 1) := by decide +kernel
theorem dX1_countPresent_10 : decode cX1_countPresent 10 = .ok (.ireturn, 1) := by decide +kernel
theorem dJ5_length_8abf5_0 : decode cJ5_length_8abf5 0 = .ok (.aload_n 0, 1) := by decide +kernel
theorem dJ5_length_8abf5_1 : decode cJ5_length_8abf5 1 = .ok (.getfield 79, 3) := by decide +kernel
theorem dJ5_length_8abf5_4 : decode cJ5_length_8abf5 4 = .ok (.ireturn, 1) := by decide +kernel
theorem dJ4_length_8abf5_0 : decode cJ4_length_8abf5 0 = .ok (.aload_n 0, 1) := by decide +kernel
theorem dJ4_length_8abf5_1 : decode cJ4_length_8abf5 1 = .ok (.invokespecial 343, 3) := by decide +kernel
theorem dJ4_length_8abf5_4 : decode cJ4_length_8abf5 4 = .ok (.ireturn, 1) := by decide +kernel
theorem dX5_countOn_0 : decode cX5_countOn 0 = .ok (.iconst 0, 1) := by decide +kernel
theorem dX5_countOn_1 : decode cX5_countOn 1 = .ok (.istore_n 2, 1) := by decide +kernel
theorem dX5_countOn_2 : decode cX5_countOn 2 = .ok (.iconst 0, 1) := by decide +kernel
theorem dX5_countOn_3 : decode cX5_countOn 3 = .ok (.istore_n 3, 1) := by decide +kernel
theorem dX5_countOn_4 : decode cX5_countOn 4 = .ok (.iload_n 3, 1) := by decide +kernel
theorem dX5_countOn_5 : decode cX5_countOn 5 = .ok (.aload_n 0, 1) := by decide +kernel
theorem dX5_countOn_6 : decode cX5_countOn 6 = .ok (.getfield 9, 3) := by decide +kernel
theorem dX5_countOn_9 : decode cX5_countOn 9 = .ok (.if_icmp .ge 22, 3) := by decide +kernel
theorem dX5_countOn_31 : decode cX5_countOn 31 = .ok (.iload_n 2, 1) := by decide +kernel
theorem dX5_countOn_32 : decode cX5_countOn 32 = .ok (.ireturn, 1) := by decide +kernel
theorem dJ6_bitCount_0f7a4_0 : decode cJ6_bitCount_0f7a4 0 = .ok (.iload_n 0, 1) := by decide +kernel
theorem dJ6_bitCount_0f7a4_1 : decode cJ6_bitCount_0f7a4 1 = .ok (.iload_n 0, 1) := by decide +kernel
theorem dJ6_bitCount_0f7a4_2 : decode cJ6_bitCount_0f7a4 2 = .ok (.iconst 1, 1) := by decide +kernel
theorem dJ6_bitCount_0f7a4_3 : decode cJ6_bitCount_0f7a4 3 = .ok (.iushr, 1) := by decide +kernel
theorem dJ6_bitCount_0f7a4_4 : decode cJ6_bitCount_0f7a4 4 = .ok (.ldc_w 265, 3) := by decide +kernel
theorem dJ6_bitCount_0f7a4_7 : decode cJ6_bitCount_0f7a4 7 = .ok (.iand, 1) := by decide +kernel
theorem dJ6_bitCount_0f7a4_8 : decode cJ6_bitCount_0f7a4 8 = .ok (.isub, 1) := by decide +kernel
theorem dJ6_bitCount_0f7a4_9 : decode cJ6_bitCount_0f7a4 9 = .ok (.istore_n 0, 1) := by decide +kernel
theorem dJ6_bitCount_0f7a4_10 : decode cJ6_bitCount_0f7a4 10 = .ok (.iload_n 0, 1) := by decide +kernel
theorem dJ6_bitCount_0f7a4_11 : decode cJ6_bitCount_0f7a4 11 = .ok (.ldc_w 266, 3) := by decide +kernel
theorem dJ6_bitCount_0f7a4_14 : decode cJ6_bitCount_0f7a4 14 = .ok (.iand, 1) := by decide +kernel
theorem dJ6_bitCount_0f7a4_15 : decode cJ6_bitCount_0f7a4 15 = .ok (.iload_n 0, 1) := by decide +kernel
theorem dJ6_bitCount_0f7a4_16 : decode cJ6_bitCount_0f7a4 16 = .ok (.iconst 2, 1) := by decide +kernel
theorem dJ6_bitCount_0f7a4_17 : decode cJ6_bitCount_0f7a4 17 = .ok (.iushr, 1) := by decide +kernel
theorem dJ6_bitCount_0f7a4_18 : decode cJ6_bitCount_0f7a4 18 = .ok (.ldc_w 266, 3) := by decide +kernel
theorem dJ6_bitCount_0f7a4_21 : decode cJ6_bitCount_0f7a4 21 = .ok (.iand, 1) := by decide +kernel
theorem dJ6_bitCount_0f7a4_22 : decode cJ6_bitCount_0f7a4 22 = .ok (.iadd, 1) := by decide +kernel
theorem dJ6_bitCount_0f7a4_23 : decode cJ6_bitCount_0f7a4 23 = .ok (.istore_n 0, 1) := by decide +kernel
theorem dJ6_bitCount_0f7a4_24 : decode cJ6_bitCount_0f7a4 24 = .ok (.iload_n 0, 1) := by decide +kernel
theorem dJ6_bitCount_0f7a4_25 : decode cJ6_bitCount_0f7a4 25 = .ok (.iload_n 0, 1) := by decide +kernel
theorem dJ6_bitCount_0f7a4_26 : decode cJ6_bitCount_0f7a4 26 = .ok (.iconst 4, 1) := by decide +kernel
theorem dJ6_bitCount_0f7a4_27 : decode cJ6_bitCount_0f7a4 27 = .ok (.iushr, 1) := by decide +kernel
theorem dJ6_bitCount_0f7a4_28 : decode cJ6_bitCount_0f7a4 28 = .ok (.iadd, 1) := by decide +kernel
theorem dJ6_bitCount_0f7a4_29 : decode cJ6_bitCount_0f7a4 29 = .ok (.ldc_w 267, 3) := by decide +kernel
theorem dJ6_bitCount_0f7a4_32 : decode cJ6_bitCount_0f7a4 32 = .ok (.iand, 1) := by decide +kernel
theorem dJ6_bitCount_0f7a4_33 : decode cJ6_bitCount_0f7a4 33 = .ok (.istore_n 0, 1) := by decide +kernel
theorem dJ6_bitCount_0f7a4_34 : decode cJ6_bitCount_0f7a4 34 = .ok (.iload_n 0, 1) := by decide +kernel
theorem dJ6_bitCount_0f7a4_35 : decode cJ6_bitCount_0f7a4 35 = .ok (.iload_n 0, 1) := by decide +kernel
theorem dJ6_bitCount_0f7a4_36 : decode cJ6_bitCount_0f7a4 36 = .ok (.bipush 8, 2) := by decide +kernel
theorem dJ6_bitCount_0f7a4_38 : decode cJ6_bitCount_0f7a4 38 = .ok (.iushr, 1) := by decide +kernel
theorem dJ6_bitCount_0f7a4_39 : decode cJ6_bitCount_0f7a4 39 = .ok (.iadd, 1) := by decide +kernel
theorem dJ6_bitCount_0f7a4_40 : decode cJ6_bitCount_0f7a4 40 = .ok (.istore_n 0, 1) := by decide +kernel
theorem dJ6_bitCount_0f7a4_41 : decode cJ6_bitCount_0f7a4 41 = .ok (.iload_n 0, 1) := by decide +kernel
theorem dJ6_bitCount_0f7a4_42 : decode cJ6_bitCount_0f7a4 42 = .ok (.iload_n 0, 1) := by decide +kernel
theorem dJ6_bitCount_0f7a4_43 : decode cJ6_bitCount_0f7a4 43 = .ok (.bipush 16, 2) := by decide +kernel
theorem dJ6_bitCount_0f7a4_45 : decode cJ6_bitCount_0f7a4 45 = .ok (.iushr, 1) := by decide +kernel
theorem dJ6_bitCount_0f7a4_46 : decode cJ6_bitCount_0f7a4 46 = .ok (.iadd, 1) := by decide +kernel
theorem dJ6_bitCount_0f7a4_47 : decode cJ6_bitCount_0f7a4 47 = .ok (.istore_n 0, 1) := by decide +kernel
theorem dJ6_bitCount_0f7a4_48 : decode cJ6_bitCount_0f7a4 48 = .ok (.iload_n 0, 1) := by decide +kernel
theorem dJ6_bitCount_0f7a4_49 : decode cJ6_bitCount_0f7a4 49 = .ok (.bipush 63, 2) := by decide +kernel
theorem dJ6_bitCount_0f7a4_51 : decode cJ6_bitCount_0f7a4 51 = .ok (.iand, 1) := by decide +kernel
theorem dJ6_bitCount_0f7a4_52 : decode cJ6_bitCount_0f7a4 52 = .ok (.ireturn, 1) := by decide +kernel
theorem dX5_countReaders_0 : decode cX5_countReaders 0 = .ok (.iconst 0, 1) := by decide +kernel
theorem dX5_countReaders_1 : decode cX5_countReaders 1 = .ok (.istore_n 2, 1) := by decide +kernel
theorem dX5_countReaders_2 : decode cX5_countReaders 2 = .ok (.iconst 0, 1) := by decide +kernel
theorem dX5_countReaders_3 : decode cX5_countReaders 3 = .ok (.istore_n 3, 1) := by decide +kernel
theorem dX5_countReaders_4 : decode cX5_countReaders 4 = .ok (.iload_n 3, 1) := by decide +kernel
theorem dX5_countReaders_5 : decode cX5_countReaders 5 = .ok (.aload_n 0, 1) := by decide +kernel
theorem dX5_countReaders_6 : decode cX5_countReaders 6 = .ok (.getfield 9, 3) := by decide +kernel
theorem dX5_countReaders_9 : decode cX5_countReaders 9 = .ok (.if_icmp .ge 30, 3) := by decide +kernel
theorem dX5_countReaders_39 : decode cX5_countReaders 39 = .ok (.iload_n 2, 1) := by decide +kernel
theorem dX5_countReaders_40 : decode cX5_countReaders 40 = .ok (.invokestatic 44, 3) := by decide +kernel
theorem dX5_countReaders_43 : decode cX5_countReaders 43 = .ok (.ireturn, 1) := by decide +kernel
theorem dX5_countShowing_0 : decode cX5_countShowing 0 = .ok (.iconst 0, 1) := by decide +kernel
theorem dX5_countShowing_1 : decode cX5_countShowing 1 = .ok (.istore_n 2, 1) := by decide +kernel
theorem dX5_countShowing_2 : decode cX5_countShowing 2 = .ok (.iconst 0, 1) := by decide +kernel
theorem dX5_countShowing_3 : decode cX5_countShowing 3 = .ok (.istore_n 3, 1) := by decide +kernel
theorem dX5_countShowing_4 : decode cX5_countShowing 4 = .ok (.iload_n 3, 1) := by decide +kernel
theorem dX5_countShowing_5 : decode cX5_countShowing 5 = .ok (.aload_n 0, 1) := by decide +kernel
theorem dX5_countShowing_6 : decode cX5_countShowing 6 = .ok (.getfield 9, 3) := by decide +kernel
theorem dX5_countShowing_9 : decode cX5_countShowing 9 = .ok (.if_icmp .ge 22, 3) := by decide +kernel
theorem dX5_countShowing_31 : decode cX5_countShowing 31 = .ok (.iload_n 2, 1) := by decide +kernel
theorem dX5_countShowing_32 : decode cX5_countShowing 32 = .ok (.ireturn, 1) := by decide +kernel
theorem dX7_countAllShownPages_0 : decode cX7_countAllShownPages 0 = .ok (.iconst 0, 1) := by decide +kernel
theorem dX7_countAllShownPages_1 : decode cX7_countAllShownPages 1 = .ok (.istore_n 1, 1) := by decide +kernel
theorem dX7_countAllShownPages_2 : decode cX7_countAllShownPages 2 = .ok (.iconst 0, 1) := by decide +kernel
theorem dX7_countAllShownPages_3 : decode cX7_countAllShownPages 3 = .ok (.istore_n 2, 1) := by decide +kernel
theorem dX7_countAllShownPages_4 : decode cX7_countAllShownPages 4 = .ok (.iload_n 2, 1) := by decide +kernel
theorem dX7_countAllShownPages_5 : decode cX7_countAllShownPages 5 = .ok (.aload_n 0, 1) := by decide +kernel
theorem dX7_countAllShownPages_6 : decode cX7_countAllShownPages 6 = .ok (.getfield 42, 3) := by decide +kernel
theorem dX7_countAllShownPages_9 : decode cX7_countAllShownPages 9 = .ok (.getfield 152, 3) := by decide +kernel
theorem dX7_countAllShownPages_12 : decode cX7_countAllShownPages 12 = .ok (.if_icmp .ge 17, 3) := by decide +kernel
theorem dX7_countAllShownPages_29 : decode cX7_countAllShownPages 29 = .ok (.iload_n 1, 1) := by decide +kernel
theorem dX7_countAllShownPages_30 : decode cX7_countAllShownPages 30 = .ok (.ireturn, 1) := by decide +kernel
theorem dX7_countOpenUnits_0 : decode cX7_countOpenUnits 0 = .ok (.iconst 0, 1) := by decide +kernel
theorem dX7_countOpenUnits_1 : decode cX7_countOpenUnits 1 = .ok (.istore_n 2, 1) := by decide +kernel
theorem dX7_countOpenUnits_2 : decode cX7_countOpenUnits 2 = .ok (.iconst 0, 1) := by decide +kernel
theorem dX7_countOpenUnits_3 : decode cX7_countOpenUnits 3 = .ok (.istore_n 3, 1) := by decide +kernel
theorem dX7_countOpenUnits_4 : decode cX7_countOpenUnits 4 = .ok (.iload_n 3, 1) := by decide +kernel
theorem dX7_countOpenUnits_5 : decode cX7_countOpenUnits 5 = .ok (.aload_n 0, 1) := by decide +kernel
theorem dX7_countOpenUnits_6 : decode cX7_countOpenUnits 6 = .ok (.getfield 12, 3) := by decide +kernel
theorem dX7_countOpenUnits_9 : decode cX7_countOpenUnits 9 = .ok (.getfield 158, 3) := by decide +kernel
theorem dX7_countOpenUnits_12 : decode cX7_countOpenUnits 12 = .ok (.if_icmp .ge 47, 3) := by decide +kernel
theorem dX7_countOpenUnits_15 : decode cX7_countOpenUnits 15 = .ok (.aload_n 0, 1) := by decide +kernel
theorem dX7_countOpenUnits_16 : decode cX7_countOpenUnits 16 = .ok (.getfield 12, 3) := by decide +kernel
theorem dX7_countOpenUnits_19 : decode cX7_countOpenUnits 19 = .ok (.getfield 161, 3) := by decide +kernel
theorem dX7_countOpenUnits_22 : decode cX7_countOpenUnits 22 = .ok (.iload_n 3, 1) := by decide +kernel
theorem dX7_countOpenUnits_23 : decode cX7_countOpenUnits 23 = .ok (.iaload, 1) := by decide +kernel
theorem dX7_countOpenUnits_24 : decode cX7_countOpenUnits 24 = .ok (.istore 4, 2) := by decide +kernel
theorem dX7_countOpenUnits_26 : decode cX7_countOpenUnits 26 = .ok (.aload_n 0, 1) := by decide +kernel
theorem dX7_countOpenUnits_27 : decode cX7_countOpenUnits 27 = .ok (.getfield 12, 3) := by decide +kernel
theorem dX7_countOpenUnits_30 : decode cX7_countOpenUnits 30 = .ok (.getfield 97, 3) := by decide +kernel
theorem dX7_countOpenUnits_33 : decode cX7_countOpenUnits 33 = .ok (.iload 4, 2) := by decide +kernel
theorem dX7_countOpenUnits_35 : decode cX7_countOpenUnits 35 = .ok (.iaload, 1) := by decide +kernel
theorem dX7_countOpenUnits_36 : decode cX7_countOpenUnits 36 = .ok (.ifCond .le 17, 3) := by decide +kernel
theorem dX7_countOpenUnits_53 : decode cX7_countOpenUnits 53 = .ok (.iinc 3 1, 3) := by decide +kernel
theorem dX7_countOpenUnits_56 : decode cX7_countOpenUnits 56 = .ok (.goto (-52), 3) := by decide +kernel
theorem dX7_countOpenUnits_59 : decode cX7_countOpenUnits 59 = .ok (.iload_n 2, 1) := by decide +kernel
theorem dX7_countOpenUnits_60 : decode cX7_countOpenUnits 60 = .ok (.ireturn, 1) := by decide +kernel
theorem dX7_countOpenPages_0 : decode cX7_countOpenPages 0 = .ok (.iconst 0, 1) := by decide +kernel
theorem dX7_countOpenPages_1 : decode cX7_countOpenPages 1 = .ok (.istore_n 2, 1) := by decide +kernel
theorem dX7_countOpenPages_2 : decode cX7_countOpenPages 2 = .ok (.iconst 0, 1) := by decide +kernel
theorem dX7_countOpenPages_3 : decode cX7_countOpenPages 3 = .ok (.istore_n 3, 1) := by decide +kernel
theorem dX7_countOpenPages_4 : decode cX7_countOpenPages 4 = .ok (.iload_n 3, 1) := by decide +kernel
theorem dX7_countOpenPages_5 : decode cX7_countOpenPages 5 = .ok (.aload_n 0, 1) := by decide +kernel
theorem dX7_countOpenPages_6 : decode cX7_countOpenPages 6 = .ok (.getfield 12, 3) := by decide +kernel
theorem dX7_countOpenPages_9 : decode cX7_countOpenPages 9 = .ok (.getfield 158, 3) := by decide +kernel
theorem dX7_countOpenPages_12 : decode cX7_countOpenPages 12 = .ok (.if_icmp .ge 36, 3) := by decide +kernel
theorem dX7_countOpenPages_15 : decode cX7_countOpenPages 15 = .ok (.iload_n 2, 1) := by decide +kernel
theorem dX7_countOpenPages_16 : decode cX7_countOpenPages 16 = .ok (.aload_n 0, 1) := by decide +kernel
theorem dX7_countOpenPages_17 : decode cX7_countOpenPages 17 = .ok (.getfield 21, 3) := by decide +kernel
theorem dX7_countOpenPages_20 : decode cX7_countOpenPages 20 = .ok (.aload_n 0, 1) := by decide +kernel
theorem dX7_countOpenPages_21 : decode cX7_countOpenPages 21 = .ok (.getfield 12, 3) := by decide +kernel
theorem dX7_countOpenPages_24 : decode cX7_countOpenPages 24 = .ok (.aload_n 0, 1) := by decide +kernel
theorem dX7_countOpenPages_25 : decode cX7_countOpenPages 25 = .ok (.getfield 12, 3) := by decide +kernel
theorem dX7_countOpenPages_28 : decode cX7_countOpenPages 28 = .ok (.getfield 161, 3) := by decide +kernel
theorem dX7_countOpenPages_31 : decode cX7_countOpenPages 31 = .ok (.iload_n 3, 1) := by decide +kernel
theorem dX7_countOpenPages_32 : decode cX7_countOpenPages 32 = .ok (.iaload, 1) := by decide +kernel
theorem dX7_countOpenPages_33 : decode cX7_countOpenPages 33 = .ok (.iload_n 1, 1) := by decide +kernel
theorem dX7_countOpenPages_34 : decode cX7_countOpenPages 34 = .ok (.invokevirtual 83, 3) := by decide +kernel
theorem dX7_countOpenPages_37 : decode cX7_countOpenPages 37 = .ok (.invokestatic 147, 3) := by decide +kernel
theorem dX7_countOpenPages_40 : decode cX7_countOpenPages 40 = .ok (.iadd, 1) := by decide +kernel
theorem dX7_countOpenPages_41 : decode cX7_countOpenPages 41 = .ok (.istore_n 2, 1) := by decide +kernel
theorem dX7_countOpenPages_42 : decode cX7_countOpenPages 42 = .ok (.iinc 3 1, 3) := by decide +kernel
theorem dX7_countOpenPages_45 : decode cX7_countOpenPages 45 = .ok (.goto (-41), 3) := by decide +kernel
theorem dX7_countOpenPages_48 : decode cX7_countOpenPages 48 = .ok (.iload_n 2, 1) := by decide +kernel
theorem dX7_countOpenPages_49 : decode cX7_countOpenPages 49 = .ok (.ireturn, 1) := by decide +kernel
theorem fz_lt (a b : Int32) : a < b ↔ a.toInt < b.toInt := Int32.lt_iff_toInt_lt
theorem fz_le (a b : Int32) : a ≤ b ↔ a.toInt ≤ b.toInt := Int32.le_iff_toInt_le
theorem fz_eq (a b : Int32) : a = b ↔ a.toInt = b.toInt := Int32.toInt_inj.symm
theorem fl_m1 : ((-1) : Int32).toInt = -1 := by decide
theorem fl_0 : (0 : Int32).toInt = 0 := by decide
theorem fl_1 : (1 : Int32).toInt = 1 := by decide
theorem fl_3 : (3 : Int32).toInt = 3 := by decide
theorem fl_20 : (20 : Int32).toInt = 20 := by decide
theorem fl_200 : (200 : Int32).toInt = 200 := by decide
theorem fl_9999 : (9999 : Int32).toInt = 9999 := by decide
theorem fq_0 (x0 : Int32) (h0 : x0 < 0) : ¬ (x0 = 0) := by first | decide | (simp only [fz_lt, fz_le, fz_eq, true_and, and_true, false_and, and_false, true_or, or_true, false_or, or_false, not_true_eq_false, not_false_eq_true, fl_m1, fl_0, fl_1, fl_3, fl_20, fl_200, fl_9999] at *; omega) | (simp only [fz_lt, fz_le, fz_eq, true_and, and_true, false_and, and_false, true_or, or_true, false_or, or_false, not_true_eq_false, not_false_eq_true, fl_m1, fl_0, fl_1, fl_3, fl_20, fl_200, fl_9999] at *; done) | omega
theorem fq_1 (x0 : Int32) (h0 : 1 ≤ x0) : ¬ (x0 = 0) := by first | decide | (simp only [fz_lt, fz_le, fz_eq, true_and, and_true, false_and, and_false, true_or, or_true, false_or, or_false, not_true_eq_false, not_false_eq_true, fl_m1, fl_0, fl_1, fl_3, fl_20, fl_200, fl_9999] at *; omega) | (simp only [fz_lt, fz_le, fz_eq, true_and, and_true, false_and, and_false, true_or, or_true, false_or, or_false, not_true_eq_false, not_false_eq_true, fl_m1, fl_0, fl_1, fl_3, fl_20, fl_200, fl_9999] at *; done) | omega
theorem fq_2 (x0 : Int32) (h0 : ¬ (x0 < 0)) (h1 : ¬ (1 ≤ x0)) : x0 = 0 := by first | decide | (simp only [fz_lt, fz_le, fz_eq, true_and, and_true, false_and, and_false, true_or, or_true, false_or, or_false, not_true_eq_false, not_false_eq_true, fl_m1, fl_0, fl_1, fl_3, fl_20, fl_200, fl_9999] at *; omega) | (simp only [fz_lt, fz_le, fz_eq, true_and, and_true, false_and, and_false, true_or, or_true, false_or, or_false, not_true_eq_false, not_false_eq_true, fl_m1, fl_0, fl_1, fl_3, fl_20, fl_200, fl_9999] at *; done) | omega
theorem fq_3  : (0 : Int32) = 0 := by first | decide | (simp only [fz_lt, fz_le, fz_eq, true_and, and_true, false_and, and_false, true_or, or_true, false_or, or_false, not_true_eq_false, not_false_eq_true, fl_m1, fl_0, fl_1, fl_3, fl_20, fl_200, fl_9999] at *; omega) | (simp only [fz_lt, fz_le, fz_eq, true_and, and_true, false_and, and_false, true_or, or_true, false_or, or_false, not_true_eq_false, not_false_eq_true, fl_m1, fl_0, fl_1, fl_3, fl_20, fl_200, fl_9999] at *; done) | omega
theorem fq_4 (x0 : Int32) (h0 : x0 < 0) : ¬ ((0 ≤ x0 ∧ x0 ≤ 9999)) := by first | decide | (simp only [fz_lt, fz_le, fz_eq, true_and, and_true, false_and, and_false, true_or, or_true, false_or, or_false, not_true_eq_false, not_false_eq_true, fl_m1, fl_0, fl_1, fl_3, fl_20, fl_200, fl_9999] at *; omega) | (simp only [fz_lt, fz_le, fz_eq, true_and, and_true, false_and, and_false, true_or, or_true, false_or, or_false, not_true_eq_false, not_false_eq_true, fl_m1, fl_0, fl_1, fl_3, fl_20, fl_200, fl_9999] at *; done) | omega
theorem fq_5 (x0 : Int32) (h0 : 9999 < x0) : ¬ ((0 ≤ x0 ∧ x0 ≤ 9999)) := by first | decide | (simp only [fz_lt, fz_le, fz_eq, true_and, and_true, false_and, and_false, true_or, or_true, false_or, or_false, not_true_eq_false, not_false_eq_true, fl_m1, fl_0, fl_1, fl_3, fl_20, fl_200, fl_9999] at *; omega) | (simp only [fz_lt, fz_le, fz_eq, true_and, and_true, false_and, and_false, true_or, or_true, false_or, or_false, not_true_eq_false, not_false_eq_true, fl_m1, fl_0, fl_1, fl_3, fl_20, fl_200, fl_9999] at *; done) | omega
theorem fq_6 (x0 : Int32) (h0 : ¬ (x0 < 0)) (h1 : ¬ (9999 < x0)) : (0 ≤ x0 ∧ x0 ≤ 9999) := by first | decide | (simp only [fz_lt, fz_le, fz_eq, true_and, and_true, false_and, and_false, true_or, or_true, false_or, or_false, not_true_eq_false, not_false_eq_true, fl_m1, fl_0, fl_1, fl_3, fl_20, fl_200, fl_9999] at *; omega) | (simp only [fz_lt, fz_le, fz_eq, true_and, and_true, false_and, and_false, true_or, or_true, false_or, or_false, not_true_eq_false, not_false_eq_true, fl_m1, fl_0, fl_1, fl_3, fl_20, fl_200, fl_9999] at *; done) | omega
theorem fq_7 (x0 x1 x2 x3 : Int32) (h0 : x0 < 1) : ¬ (((1 ≤ x0 ∧ x0 ≤ 3) ∧ 0 ≤ x1 ∧ ((x0 = 1 ∧ x1 ≤ 0) ∨ (¬ (x0 = 1) ∧ x1 ≤ 20)) ∧ (x2 = (-1) ∨ ((0 ≤ x2 ∧ x2 ≤ 9999) ∧ (0 ≤ x3 ∧ x3 ≤ 9999) ∧ x2 ≤ x3)))) := by first | decide | (simp only [fz_lt, fz_le, fz_eq, true_and, and_true, false_and, and_false, true_or, or_true, false_or, or_false, not_true_eq_false, not_false_eq_true, fl_m1, fl_0, fl_1, fl_3, fl_20, fl_200, fl_9999] at *; omega) | (simp only [fz_lt, fz_le, fz_eq, true_and, and_true, false_and, and_false, true_or, or_true, false_or, or_false, not_true_eq_false, not_false_eq_true, fl_m1, fl_0, fl_1, fl_3, fl_20, fl_200, fl_9999] at *; done) | omega
theorem fq_8 (x0 x1 x2 x3 : Int32) (h0 : 3 < x0) : ¬ (((1 ≤ x0 ∧ x0 ≤ 3) ∧ 0 ≤ x1 ∧ ((x0 = 1 ∧ x1 ≤ 0) ∨ (¬ (x0 = 1) ∧ x1 ≤ 20)) ∧ (x2 = (-1) ∨ ((0 ≤ x2 ∧ x2 ≤ 9999) ∧ (0 ≤ x3 ∧ x3 ≤ 9999) ∧ x2 ≤ x3)))) := by first | decide | (simp only [fz_lt, fz_le, fz_eq, true_and, and_true, false_and, and_false, true_or, or_true, false_or, or_false, not_true_eq_false, not_false_eq_true, fl_m1, fl_0, fl_1, fl_3, fl_20, fl_200, fl_9999] at *; omega) | (simp only [fz_lt, fz_le, fz_eq, true_and, and_true, false_and, and_false, true_or, or_true, false_or, or_false, not_true_eq_false, not_false_eq_true, fl_m1, fl_0, fl_1, fl_3, fl_20, fl_200, fl_9999] at *; done) | omega
theorem fq_9 (x0 : Int32) (h0 : ¬ (x0 < 1)) (h1 : ¬ (0 < x0)) : False := by first | decide | (simp only [fz_lt, fz_le, fz_eq, true_and, and_true, false_and, and_false, true_or, or_true, false_or, or_false, not_true_eq_false, not_false_eq_true, fl_m1, fl_0, fl_1, fl_3, fl_20, fl_200, fl_9999] at *; omega) | (simp only [fz_lt, fz_le, fz_eq, true_and, and_true, false_and, and_false, true_or, or_true, false_or, or_false, not_true_eq_false, not_false_eq_true, fl_m1, fl_0, fl_1, fl_3, fl_20, fl_200, fl_9999] at *; done) | omega
theorem fq_10 (x0 x1 x2 x3 : Int32) (h0 : x1 < 0) : ¬ (((1 ≤ x0 ∧ x0 ≤ 3) ∧ 0 ≤ x1 ∧ ((x0 = 1 ∧ x1 ≤ 0) ∨ (¬ (x0 = 1) ∧ x1 ≤ 20)) ∧ (x2 = (-1) ∨ ((0 ≤ x2 ∧ x2 ≤ 9999) ∧ (0 ≤ x3 ∧ x3 ≤ 9999) ∧ x2 ≤ x3)))) := by first | decide | (simp only [fz_lt, fz_le, fz_eq, true_and, and_true, false_and, and_false, true_or, or_true, false_or, or_false, not_true_eq_false, not_false_eq_true, fl_m1, fl_0, fl_1, fl_3, fl_20, fl_200, fl_9999] at *; omega) | (simp only [fz_lt, fz_le, fz_eq, true_and, and_true, false_and, and_false, true_or, or_true, false_or, or_false, not_true_eq_false, not_false_eq_true, fl_m1, fl_0, fl_1, fl_3, fl_20, fl_200, fl_9999] at *; done) | omega
theorem fq_11 (x0 : Int32) (h0 : x0 = (-1)) : x0 = (-1) := by first | decide | (simp only [fz_lt, fz_le, fz_eq, true_and, and_true, false_and, and_false, true_or, or_true, false_or, or_false, not_true_eq_false, not_false_eq_true, fl_m1, fl_0, fl_1, fl_3, fl_20, fl_200, fl_9999] at *; omega) | (simp only [fz_lt, fz_le, fz_eq, true_and, and_true, false_and, and_false, true_or, or_true, false_or, or_false, not_true_eq_false, not_false_eq_true, fl_m1, fl_0, fl_1, fl_3, fl_20, fl_200, fl_9999] at *; done) | omega
theorem fq_12 (x0 x1 x2 : Int32) (h0 : ¬ (3 < x0)) (h1 : 0 < x0) (h2 : ¬ (x1 < 0)) (h3 : ¬ (x0 = 1)) (h4 : x1 ≤ 20) : ((1 ≤ x0 ∧ x0 ≤ 3) ∧ 0 ≤ x1 ∧ ((x0 = 1 ∧ x1 ≤ 0) ∨ (¬ (x0 = 1) ∧ x1 ≤ 20)) ∧ (((-1) : Int32) = (-1) ∨ (((0 : Int32) ≤ (-1) ∧ ((-1) : Int32) ≤ 9999) ∧ (0 ≤ x2 ∧ x2 ≤ 9999) ∧ (-1) ≤ x2))) := by first | decide | (simp only [fz_lt, fz_le, fz_eq, true_and, and_true, false_and, and_false, true_or, or_true, false_or, or_false, not_true_eq_false, not_false_eq_true, fl_m1, fl_0, fl_1, fl_3, fl_20, fl_200, fl_9999] at *; omega) | (simp only [fz_lt, fz_le, fz_eq, true_and, and_true, false_and, and_false, true_or, or_true, false_or, or_false, not_true_eq_false, not_false_eq_true, fl_m1, fl_0, fl_1, fl_3, fl_20, fl_200, fl_9999] at *; done) | omega
theorem fq_13 (x0 x1 x2 x3 : Int32) (h0 : (0 ≤ x3 ∧ x3 ≤ 9999)) (h1 : x3 < x2) : ¬ (((1 ≤ x0 ∧ x0 ≤ 3) ∧ 0 ≤ x1 ∧ ((x0 = 1 ∧ x1 ≤ 0) ∨ (¬ (x0 = 1) ∧ x1 ≤ 20)) ∧ (x2 = (-1) ∨ ((0 ≤ x2 ∧ x2 ≤ 9999) ∧ (0 ≤ x3 ∧ x3 ≤ 9999) ∧ x2 ≤ x3)))) := by first | decide | (simp only [fz_lt, fz_le, fz_eq, true_and, and_true, false_and, and_false, true_or, or_true, false_or, or_false, not_true_eq_false, not_false_eq_true, fl_m1, fl_0, fl_1, fl_3, fl_20, fl_200, fl_9999] at *; omega) | (simp only [fz_lt, fz_le, fz_eq, true_and, and_true, false_and, and_false, true_or, or_true, false_or, or_false, not_true_eq_false, not_false_eq_true, fl_m1, fl_0, fl_1, fl_3, fl_20, fl_200, fl_9999] at *; done) | omega
theorem fq_14 (x0 x1 x2 x3 : Int32) (h0 : ¬ (3 < x0)) (h1 : 0 < x0) (h2 : ¬ (x1 < 0)) (h3 : ¬ (x0 = 1)) (h4 : x1 ≤ 20) (h5 : (0 ≤ x2 ∧ x2 ≤ 9999)) (h6 : (0 ≤ x3 ∧ x3 ≤ 9999)) (h7 : ¬ (x3 < x2)) : ((1 ≤ x0 ∧ x0 ≤ 3) ∧ 0 ≤ x1 ∧ ((x0 = 1 ∧ x1 ≤ 0) ∨ (¬ (x0 = 1) ∧ x1 ≤ 20)) ∧ (x2 = (-1) ∨ ((0 ≤ x2 ∧ x2 ≤ 9999) ∧ (0 ≤ x3 ∧ x3 ≤ 9999) ∧ x2 ≤ x3))) := by first | decide | (simp only [fz_lt, fz_le, fz_eq, true_and, and_true, false_and, and_false, true_or, or_true, false_or, or_false, not_true_eq_false, not_false_eq_true, fl_m1, fl_0, fl_1, fl_3, fl_20, fl_200, fl_9999] at *; omega) | (simp only [fz_lt, fz_le, fz_eq, true_and, and_true, false_and, and_false, true_or, or_true, false_or, or_false, not_true_eq_false, not_false_eq_true, fl_m1, fl_0, fl_1, fl_3, fl_20, fl_200, fl_9999] at *; done) | omega
theorem fq_15 (x0 x1 x2 x3 : Int32) (h0 : (0 ≤ x2 ∧ x2 ≤ 9999)) (h1 : ¬ ((0 ≤ x3 ∧ x3 ≤ 9999))) : ¬ (((1 ≤ x0 ∧ x0 ≤ 3) ∧ 0 ≤ x1 ∧ ((x0 = 1 ∧ x1 ≤ 0) ∨ (¬ (x0 = 1) ∧ x1 ≤ 20)) ∧ (x2 = (-1) ∨ ((0 ≤ x2 ∧ x2 ≤ 9999) ∧ (0 ≤ x3 ∧ x3 ≤ 9999) ∧ x2 ≤ x3)))) := by first | decide | (simp only [fz_lt, fz_le, fz_eq, true_and, and_true, false_and, and_false, true_or, or_true, false_or, or_false, not_true_eq_false, not_false_eq_true, fl_m1, fl_0, fl_1, fl_3, fl_20, fl_200, fl_9999] at *; omega) | (simp only [fz_lt, fz_le, fz_eq, true_and, and_true, false_and, and_false, true_or, or_true, false_or, or_false, not_true_eq_false, not_false_eq_true, fl_m1, fl_0, fl_1, fl_3, fl_20, fl_200, fl_9999] at *; done) | omega
theorem fq_16 (x0 x1 x2 x3 : Int32) (h0 : ¬ (x2 = (-1))) (h1 : ¬ ((0 ≤ x2 ∧ x2 ≤ 9999))) : ¬ (((1 ≤ x0 ∧ x0 ≤ 3) ∧ 0 ≤ x1 ∧ ((x0 = 1 ∧ x1 ≤ 0) ∨ (¬ (x0 = 1) ∧ x1 ≤ 20)) ∧ (x2 = (-1) ∨ ((0 ≤ x2 ∧ x2 ≤ 9999) ∧ (0 ≤ x3 ∧ x3 ≤ 9999) ∧ x2 ≤ x3)))) := by first | decide | (simp only [fz_lt, fz_le, fz_eq, true_and, and_true, false_and, and_false, true_or, or_true, false_or, or_false, not_true_eq_false, not_false_eq_true, fl_m1, fl_0, fl_1, fl_3, fl_20, fl_200, fl_9999] at *; omega) | (simp only [fz_lt, fz_le, fz_eq, true_and, and_true, false_and, and_false, true_or, or_true, false_or, or_false, not_true_eq_false, not_false_eq_true, fl_m1, fl_0, fl_1, fl_3, fl_20, fl_200, fl_9999] at *; done) | omega
theorem fq_17 (x0 x1 x2 x3 : Int32) (h0 : ¬ (x1 ≤ 20)) : ¬ (((1 ≤ x0 ∧ x0 ≤ 3) ∧ 0 ≤ x1 ∧ ((x0 = 1 ∧ x1 ≤ 0) ∨ (¬ (x0 = 1) ∧ x1 ≤ 20)) ∧ (x2 = (-1) ∨ ((0 ≤ x2 ∧ x2 ≤ 9999) ∧ (0 ≤ x3 ∧ x3 ≤ 9999) ∧ x2 ≤ x3)))) := by first | decide | (simp only [fz_lt, fz_le, fz_eq, true_and, and_true, false_and, and_false, true_or, or_true, false_or, or_false, not_true_eq_false, not_false_eq_true, fl_m1, fl_0, fl_1, fl_3, fl_20, fl_200, fl_9999] at *; omega) | (simp only [fz_lt, fz_le, fz_eq, true_and, and_true, false_and, and_false, true_or, or_true, false_or, or_false, not_true_eq_false, not_false_eq_true, fl_m1, fl_0, fl_1, fl_3, fl_20, fl_200, fl_9999] at *; done) | omega
theorem fq_18 (x0 : Int32) (h0 : x0 = 1) : x0 = 1 := by first | decide | (simp only [fz_lt, fz_le, fz_eq, true_and, and_true, false_and, and_false, true_or, or_true, false_or, or_false, not_true_eq_false, not_false_eq_true, fl_m1, fl_0, fl_1, fl_3, fl_20, fl_200, fl_9999] at *; omega) | (simp only [fz_lt, fz_le, fz_eq, true_and, and_true, false_and, and_false, true_or, or_true, false_or, or_false, not_true_eq_false, not_false_eq_true, fl_m1, fl_0, fl_1, fl_3, fl_20, fl_200, fl_9999] at *; done) | omega
theorem fq_19 (x0 : Int32) (h0 : ¬ (x0 < 0)) (h1 : x0 ≤ 0) : x0 = 0 := by first | decide | (simp only [fz_lt, fz_le, fz_eq, true_and, and_true, false_and, and_false, true_or, or_true, false_or, or_false, not_true_eq_false, not_false_eq_true, fl_m1, fl_0, fl_1, fl_3, fl_20, fl_200, fl_9999] at *; omega) | (simp only [fz_lt, fz_le, fz_eq, true_and, and_true, false_and, and_false, true_or, or_true, false_or, or_false, not_true_eq_false, not_false_eq_true, fl_m1, fl_0, fl_1, fl_3, fl_20, fl_200, fl_9999] at *; done) | omega
theorem fq_20 (x0 : Int32)  : (((1 : Int32) ≤ 1 ∧ (1 : Int32) ≤ 3) ∧ (0 : Int32) ≤ 0 ∧ (((1 : Int32) = 1 ∧ (0 : Int32) ≤ 0) ∨ (¬ ((1 : Int32) = 1) ∧ (0 : Int32) ≤ 20)) ∧ (((-1) : Int32) = (-1) ∨ (((0 : Int32) ≤ (-1) ∧ ((-1) : Int32) ≤ 9999) ∧ (0 ≤ x0 ∧ x0 ≤ 9999) ∧ (-1) ≤ x0))) := by first | decide | (simp only [fz_lt, fz_le, fz_eq, true_and, and_true, false_and, and_false, true_or, or_true, false_or, or_false, not_true_eq_false, not_false_eq_true, fl_m1, fl_0, fl_1, fl_3, fl_20, fl_200, fl_9999] at *; omega) | (simp only [fz_lt, fz_le, fz_eq, true_and, and_true, false_and, and_false, true_or, or_true, false_or, or_false, not_true_eq_false, not_false_eq_true, fl_m1, fl_0, fl_1, fl_3, fl_20, fl_200, fl_9999] at *; done) | omega
theorem fq_21 (x0 x1 : Int32) (h0 : (0 ≤ x1 ∧ x1 ≤ 9999)) (h1 : x1 < x0) : ¬ ((((1 : Int32) ≤ 1 ∧ (1 : Int32) ≤ 3) ∧ (0 : Int32) ≤ 0 ∧ (((1 : Int32) = 1 ∧ (0 : Int32) ≤ 0) ∨ (¬ ((1 : Int32) = 1) ∧ (0 : Int32) ≤ 20)) ∧ (x0 = (-1) ∨ ((0 ≤ x0 ∧ x0 ≤ 9999) ∧ (0 ≤ x1 ∧ x1 ≤ 9999) ∧ x0 ≤ x1)))) := by first | decide | (simp only [fz_lt, fz_le, fz_eq, true_and, and_true, false_and, and_false, true_or, or_true, false_or, or_false, not_true_eq_false, not_false_eq_true, fl_m1, fl_0, fl_1, fl_3, fl_20, fl_200, fl_9999] at *; omega) | (simp only [fz_lt, fz_le, fz_eq, true_and, and_true, false_and, and_false, true_or, or_true, false_or, or_false, not_true_eq_false, not_false_eq_true, fl_m1, fl_0, fl_1, fl_3, fl_20, fl_200, fl_9999] at *; done) | omega
theorem fq_22 (x0 x1 : Int32) (h0 : (0 ≤ x0 ∧ x0 ≤ 9999)) (h1 : (0 ≤ x1 ∧ x1 ≤ 9999)) (h2 : ¬ (x1 < x0)) : (((1 : Int32) ≤ 1 ∧ (1 : Int32) ≤ 3) ∧ (0 : Int32) ≤ 0 ∧ (((1 : Int32) = 1 ∧ (0 : Int32) ≤ 0) ∨ (¬ ((1 : Int32) = 1) ∧ (0 : Int32) ≤ 20)) ∧ (x0 = (-1) ∨ ((0 ≤ x0 ∧ x0 ≤ 9999) ∧ (0 ≤ x1 ∧ x1 ≤ 9999) ∧ x0 ≤ x1))) := by first | decide | (simp only [fz_lt, fz_le, fz_eq, true_and, and_true, false_and, and_false, true_or, or_true, false_or, or_false, not_true_eq_false, not_false_eq_true, fl_m1, fl_0, fl_1, fl_3, fl_20, fl_200, fl_9999] at *; omega) | (simp only [fz_lt, fz_le, fz_eq, true_and, and_true, false_and, and_false, true_or, or_true, false_or, or_false, not_true_eq_false, not_false_eq_true, fl_m1, fl_0, fl_1, fl_3, fl_20, fl_200, fl_9999] at *; done) | omega
theorem fq_23 (x0 x1 : Int32) (h0 : (0 ≤ x0 ∧ x0 ≤ 9999)) (h1 : ¬ ((0 ≤ x1 ∧ x1 ≤ 9999))) : ¬ ((((1 : Int32) ≤ 1 ∧ (1 : Int32) ≤ 3) ∧ (0 : Int32) ≤ 0 ∧ (((1 : Int32) = 1 ∧ (0 : Int32) ≤ 0) ∨ (¬ ((1 : Int32) = 1) ∧ (0 : Int32) ≤ 20)) ∧ (x0 = (-1) ∨ ((0 ≤ x0 ∧ x0 ≤ 9999) ∧ (0 ≤ x1 ∧ x1 ≤ 9999) ∧ x0 ≤ x1)))) := by first | decide | (simp only [fz_lt, fz_le, fz_eq, true_and, and_true, false_and, and_false, true_or, or_true, false_or, or_false, not_true_eq_false, not_false_eq_true, fl_m1, fl_0, fl_1, fl_3, fl_20, fl_200, fl_9999] at *; omega) | (simp only [fz_lt, fz_le, fz_eq, true_and, and_true, false_and, and_false, true_or, or_true, false_or, or_false, not_true_eq_false, not_false_eq_true, fl_m1, fl_0, fl_1, fl_3, fl_20, fl_200, fl_9999] at *; done) | omega
theorem fq_24 (x0 x1 : Int32) (h0 : ¬ (x0 = (-1))) (h1 : ¬ ((0 ≤ x0 ∧ x0 ≤ 9999))) : ¬ ((((1 : Int32) ≤ 1 ∧ (1 : Int32) ≤ 3) ∧ (0 : Int32) ≤ 0 ∧ (((1 : Int32) = 1 ∧ (0 : Int32) ≤ 0) ∨ (¬ ((1 : Int32) = 1) ∧ (0 : Int32) ≤ 20)) ∧ (x0 = (-1) ∨ ((0 ≤ x0 ∧ x0 ≤ 9999) ∧ (0 ≤ x1 ∧ x1 ≤ 9999) ∧ x0 ≤ x1)))) := by first | decide | (simp only [fz_lt, fz_le, fz_eq, true_and, and_true, false_and, and_false, true_or, or_true, false_or, or_false, not_true_eq_false, not_false_eq_true, fl_m1, fl_0, fl_1, fl_3, fl_20, fl_200, fl_9999] at *; omega) | (simp only [fz_lt, fz_le, fz_eq, true_and, and_true, false_and, and_false, true_or, or_true, false_or, or_false, not_true_eq_false, not_false_eq_true, fl_m1, fl_0, fl_1, fl_3, fl_20, fl_200, fl_9999] at *; done) | omega
theorem fq_25 (x0 x1 x2 : Int32) (h0 : ¬ (x0 ≤ 0)) : ¬ ((((1 : Int32) ≤ 1 ∧ (1 : Int32) ≤ 3) ∧ 0 ≤ x0 ∧ (((1 : Int32) = 1 ∧ x0 ≤ 0) ∨ (¬ ((1 : Int32) = 1) ∧ x0 ≤ 20)) ∧ (x1 = (-1) ∨ ((0 ≤ x1 ∧ x1 ≤ 9999) ∧ (0 ≤ x2 ∧ x2 ≤ 9999) ∧ x1 ≤ x2)))) := by first | decide | (simp only [fz_lt, fz_le, fz_eq, true_and, and_true, false_and, and_false, true_or, or_true, false_or, or_false, not_true_eq_false, not_false_eq_true, fl_m1, fl_0, fl_1, fl_3, fl_20, fl_200, fl_9999] at *; omega) | (simp only [fz_lt, fz_le, fz_eq, true_and, and_true, false_and, and_false, true_or, or_true, false_or, or_false, not_true_eq_false, not_false_eq_true, fl_m1, fl_0, fl_1, fl_3, fl_20, fl_200, fl_9999] at *; done) | omega
theorem fq_26 (x0 : Int32) (h0 : ¬ (x0 < 0)) (h1 : ¬ (0 ≤ x0)) : False := by first | decide | (simp only [fz_lt, fz_le, fz_eq, true_and, and_true, false_and, and_false, true_or, or_true, false_or, or_false, not_true_eq_false, not_false_eq_true, fl_m1, fl_0, fl_1, fl_3, fl_20, fl_200, fl_9999] at *; omega) | (simp only [fz_lt, fz_le, fz_eq, true_and, and_true, false_and, and_false, true_or, or_true, false_or, or_false, not_true_eq_false, not_false_eq_true, fl_m1, fl_0, fl_1, fl_3, fl_20, fl_200, fl_9999] at *; done) | omega
theorem fq_27 (x0 : Int32) (h0 : x0 = 0) : x0 = 0 := by first | decide | (simp only [fz_lt, fz_le, fz_eq, true_and, and_true, false_and, and_false, true_or, or_true, false_or, or_false, not_true_eq_false, not_false_eq_true, fl_m1, fl_0, fl_1, fl_3, fl_20, fl_200, fl_9999] at *; omega) | (simp only [fz_lt, fz_le, fz_eq, true_and, and_true, false_and, and_false, true_or, or_true, false_or, or_false, not_true_eq_false, not_false_eq_true, fl_m1, fl_0, fl_1, fl_3, fl_20, fl_200, fl_9999] at *; done) | omega
theorem fq_28 (x0 : Int32) (h0 : ¬ (x0 = 0)) : ¬ (x0 = 0) := by first | decide | (simp only [fz_lt, fz_le, fz_eq, true_and, and_true, false_and, and_false, true_or, or_true, false_or, or_false, not_true_eq_false, not_false_eq_true, fl_m1, fl_0, fl_1, fl_3, fl_20, fl_200, fl_9999] at *; omega) | (simp only [fz_lt, fz_le, fz_eq, true_and, and_true, false_and, and_false, true_or, or_true, false_or, or_false, not_true_eq_false, not_false_eq_true, fl_m1, fl_0, fl_1, fl_3, fl_20, fl_200, fl_9999] at *; done) | omega
theorem fq_29 (x0 : Int32) (h0 : ¬ (x0 < 0)) (h1 : x0 < 0) : False := by first | decide | (simp only [fz_lt, fz_le, fz_eq, true_and, and_true, false_and, and_false, true_or, or_true, false_or, or_false, not_true_eq_false, not_false_eq_true, fl_m1, fl_0, fl_1, fl_3, fl_20, fl_200, fl_9999] at *; omega) | (simp only [fz_lt, fz_le, fz_eq, true_and, and_true, false_and, and_false, true_or, or_true, false_or, or_false, not_true_eq_false, not_false_eq_true, fl_m1, fl_0, fl_1, fl_3, fl_20, fl_200, fl_9999] at *; done) | omega
theorem fq_30 (x0 x1 : Int32) (h0 : x0 < 0) : (x0 < 0 ∨ x1 < x0) := by first | decide | (simp only [fz_lt, fz_le, fz_eq, true_and, and_true, false_and, and_false, true_or, or_true, false_or, or_false, not_true_eq_false, not_false_eq_true, fl_m1, fl_0, fl_1, fl_3, fl_20, fl_200, fl_9999] at *; omega) | (simp only [fz_lt, fz_le, fz_eq, true_and, and_true, false_and, and_false, true_or, or_true, false_or, or_false, not_true_eq_false, not_false_eq_true, fl_m1, fl_0, fl_1, fl_3, fl_20, fl_200, fl_9999] at *; done) | omega
theorem fq_31 (x0 x1 : Int32) (h0 : ¬ (x0 < 0)) (h1 : x0 ≤ x1) : (0 ≤ x0 ∧ x0 ≤ x1) := by first | decide | (simp only [fz_lt, fz_le, fz_eq, true_and, and_true, false_and, and_false, true_or, or_true, false_or, or_false, not_true_eq_false, not_false_eq_true, fl_m1, fl_0, fl_1, fl_3, fl_20, fl_200, fl_9999] at *; omega) | (simp only [fz_lt, fz_le, fz_eq, true_and, and_true, false_and, and_false, true_or, or_true, false_or, or_false, not_true_eq_false, not_false_eq_true, fl_m1, fl_0, fl_1, fl_3, fl_20, fl_200, fl_9999] at *; done) | omega
theorem fq_32 (x0 x1 : Int32) (h0 : ¬ (x0 ≤ x1)) : (x0 < 0 ∨ x1 < x0) := by first | decide | (simp only [fz_lt, fz_le, fz_eq, true_and, and_true, false_and, and_false, true_or, or_true, false_or, or_false, not_true_eq_false, not_false_eq_true, fl_m1, fl_0, fl_1, fl_3, fl_20, fl_200, fl_9999] at *; omega) | (simp only [fz_lt, fz_le, fz_eq, true_and, and_true, false_and, and_false, true_or, or_true, false_or, or_false, not_true_eq_false, not_false_eq_true, fl_m1, fl_0, fl_1, fl_3, fl_20, fl_200, fl_9999] at *; done) | omega
theorem fq_33 (x0 : Int32) (h0 : (0 ≤ x0 ∧ x0 ≤ 9999)) : (0 ≤ x0 ∧ x0 ≤ 9999) := by first | decide | (simp only [fz_lt, fz_le, fz_eq, true_and, and_true, false_and, and_false, true_or, or_true, false_or, or_false, not_true_eq_false, not_false_eq_true, fl_m1, fl_0, fl_1, fl_3, fl_20, fl_200, fl_9999] at *; omega) | (simp only [fz_lt, fz_le, fz_eq, true_and, and_true, false_and, and_false, true_or, or_true, false_or, or_false, not_true_eq_false, not_false_eq_true, fl_m1, fl_0, fl_1, fl_3, fl_20, fl_200, fl_9999] at *; done) | omega
theorem fq_34 (x0 : Int32) (h0 : ¬ ((0 ≤ x0 ∧ x0 ≤ 9999))) : ¬ ((0 ≤ x0 ∧ x0 ≤ 9999)) := by first | decide | (simp only [fz_lt, fz_le, fz_eq, true_and, and_true, false_and, and_false, true_or, or_true, false_or, or_false, not_true_eq_false, not_false_eq_true, fl_m1, fl_0, fl_1, fl_3, fl_20, fl_200, fl_9999] at *; omega) | (simp only [fz_lt, fz_le, fz_eq, true_and, and_true, false_and, and_false, true_or, or_true, false_or, or_false, not_true_eq_false, not_false_eq_true, fl_m1, fl_0, fl_1, fl_3, fl_20, fl_200, fl_9999] at *; done) | omega
theorem fq_35 (x0 : Int32) (h0 : x0 < 1) : ¬ ((1 ≤ x0 ∧ x0 ≤ 200)) := by first | decide | (simp only [fz_lt, fz_le, fz_eq, true_and, and_true, false_and, and_false, true_or, or_true, false_or, or_false, not_true_eq_false, not_false_eq_true, fl_m1, fl_0, fl_1, fl_3, fl_20, fl_200, fl_9999] at *; omega) | (simp only [fz_lt, fz_le, fz_eq, true_and, and_true, false_and, and_false, true_or, or_true, false_or, or_false, not_true_eq_false, not_false_eq_true, fl_m1, fl_0, fl_1, fl_3, fl_20, fl_200, fl_9999] at *; done) | omega
theorem fq_36 (x0 : Int32) (h0 : ¬ (x0 < 1)) (h1 : x0 ≤ 200) : (1 ≤ x0 ∧ x0 ≤ 200) := by first | decide | (simp only [fz_lt, fz_le, fz_eq, true_and, and_true, false_and, and_false, true_or, or_true, false_or, or_false, not_true_eq_false, not_false_eq_true, fl_m1, fl_0, fl_1, fl_3, fl_20, fl_200, fl_9999] at *; omega) | (simp only [fz_lt, fz_le, fz_eq, true_and, and_true, false_and, and_false, true_or, or_true, false_or, or_false, not_true_eq_false, not_false_eq_true, fl_m1, fl_0, fl_1, fl_3, fl_20, fl_200, fl_9999] at *; done) | omega
theorem fq_37 (x0 : Int32) (h0 : ¬ (x0 ≤ 200)) : ¬ ((1 ≤ x0 ∧ x0 ≤ 200)) := by first | decide | (simp only [fz_lt, fz_le, fz_eq, true_and, and_true, false_and, and_false, true_or, or_true, false_or, or_false, not_true_eq_false, not_false_eq_true, fl_m1, fl_0, fl_1, fl_3, fl_20, fl_200, fl_9999] at *; omega) | (simp only [fz_lt, fz_le, fz_eq, true_and, and_true, false_and, and_false, true_or, or_true, false_or, or_false, not_true_eq_false, not_false_eq_true, fl_m1, fl_0, fl_1, fl_3, fl_20, fl_200, fl_9999] at *; done) | omega
end
section
set_option maxHeartbeats 4000000 in
set_option maxRecDepth 100000 in
theorem c_has (l : Launch) (A : Nat → Prop) (D : va_G) (k : Nat → ClassId) (q : Nat → Nat) (f : Nat → Nat → Int32) (pa : Nat → Option Nat) (v : Nat → Int32) (p0 : Int32) (g_v_1 : v 1 = 1) (g_f_4_0 : f 4 0 = 0)  :
    Met l yX8_has (fz_ws yX8_has cX8_has 2 (some .boolean)) { frames := 0, cells := 0, slots := 0, locals := 0 } (va_Pc [.ref (q 1), .int p0] (fz_PC A D (fz_tys k) (fz_WC k q f pa v))) (fz_QI D A (fun (_ : Unit) => fz_WC k q f pa v) (fun (r : Int32) (_ : Unit) => (r = 1 ∧ p0 = 0) ∨ (r = 0 ∧ ¬ (p0 = 0)))) 0 0 A := by
  refine fz_of (by decide +kernel) (Nat.le_of_ble_eq_true rfl) ?_
  intro p e s m below meth c hx hb hr hml hown hlocks hts hin hA hP hK hD hG hS ls hl
  have hown : s.vm.findClass RX8 = some m.cls := hown
  have S0 : CallFix p m c cX8_has 2 s [.ref (q 1), .int p0].toArray (fz_ws yX8_has cX8_has 2 (some .boolean)) RX8 := ⟨hx, hb, hml, hown, hts⟩
  have hl : lv_has ls 2 [(0, .ref (q 1)), (1, .int p0)] := hl
  refine lv_iload_n hx hb dX8_has_0 rfl (lv_at hl 1 rfl) ?_
  refine lv_if_lt (tgt := 26) hx hb dX8_has_1 (by decide) (fun c_1 => ?_) (fun c_1 => ?_)
  · skip
    refine lv_iconst (v := 0) hx hb dX8_has_26 (by decide) ?_
    exact fz_iret hx hb hr rfl hlocks hS dX8_has_27 () (Or.inr ⟨rfl, (fq_0 p0 c_1)⟩) hP (Nat.le_of_ble_eq_true rfl) (Nat.le_of_ble_eq_true rfl)
  · skip
    refine lv_iload_n hx hb dX8_has_4 rfl (lv_at hl 1 rfl) ?_
    refine lv_aload_n hx hb dX8_has_5 rfl (lv_at hl 0 rfl) ?_
    refine va_get (D := D) (ci := 12) (v := .int (v 1)) (C := RX8) (T := TX8) (N := 10) hx hb hts (fun w9 h9 => fz_m (fin_X8 w9 h9)) hown hK hP 1 rfl rfl 0 (by decide) (hts _ (fz_m fm_0)) (fun _ h9 => h9) rfl dX8_has_6 ?_
    refine fz_I (y := 1) g_v_1 ?_
    refine lv_icmp_ge (tgt := 26) hx hb dX8_has_9 (by decide) (fun c_2 => ?_) (fun c_2 => ?_)
    · skip
      refine lv_iconst (v := 0) hx hb dX8_has_26 (by decide) ?_
      exact fz_iret hx hb hr rfl hlocks hS dX8_has_27 () (Or.inr ⟨rfl, (fq_1 p0 c_2)⟩) hP (Nat.le_of_ble_eq_true rfl) (Nat.le_of_ble_eq_true rfl)
    · skip
      obtain rfl : p0 = 0 := (fq_2 p0 c_1 c_2)
      refine lv_aload_n hx hb dX8_has_12 rfl (lv_at hl 0 rfl) ?_
      refine va_get (D := D) (ci := 12) (v := .ref (q 4)) (C := RX8) (T := TX8) (N := 10) hx hb hts (fun w9 h9 => fz_m (fin_X8 w9 h9)) hown hK hP 1 rfl rfl 4 (by decide) (hts _ (fz_m fm_1)) (fun _ h9 => h9) rfl dX8_has_13 ?_
      refine lv_iload_n hx hb dX8_has_16 rfl (lv_at hl 1 rfl) ?_
      refine va_iald hx hb hK hP 4 0 rfl rfl (fz_vin (by decide)) dX8_has_17 ?_
      refine fz_I (y := 0) g_f_4_0 ?_
      refine lv_iconst (v := (-1)) hx hb dX8_has_18 (by decide) ?_
      refine lv_icmp_eq (tgt := 26) hx hb dX8_has_19 (by decide) (fun c_3 => absurd c_3 (by decide)) (fun c_3 => ?_)
      refine lv_iconst (v := 1) hx hb dX8_has_22 (by decide) ?_
      refine lv_goto (tgt := 27) hx hb dX8_has_23 (by decide) ?_
      exact fz_iret hx hb hr rfl hlocks hS dX8_has_27 () (Or.inl ⟨rfl, (fq_3 )⟩) hP (Nat.le_of_ble_eq_true rfl) (Nat.le_of_ble_eq_true rfl)

set_option maxHeartbeats 4000000 in
set_option maxRecDepth 100000 in
theorem c_place (l : Launch) (A : Nat → Prop) (D : va_G) (k : Nat → ClassId) (q : Nat → Nat) (f : Nat → Nat → Int32) (pa : Nat → Option Nat) (v : Nat → Int32) (p0 : Int32) (g_v_2 : v 2 = 1)  :
    Met l yX8_place (fz_ws yX8_place cX8_place 3 (some .int)) { frames := 0, cells := 0, slots := 0, locals := 0 } (va_Pc [.ref (q 1), .int p0] (fz_PC A D (fz_tys k) (fz_WC k q f pa v))) (fz_QI D A (fun (_ : Unit) => fz_WC k q f pa v) (fun (r : Int32) (_ : Unit) => r = 0)) 0 0 A := by
  refine fz_of (by decide +kernel) (Nat.le_of_ble_eq_true rfl) ?_
  intro p e s m below meth c hx hb hr hml hown hlocks hts hin hA hP hK hD hG hS ls hl
  have hown : s.vm.findClass RX8 = some m.cls := hown
  have S0 : CallFix p m c cX8_place 3 s [.ref (q 1), .int p0].toArray (fz_ws yX8_place cX8_place 3 (some .int)) RX8 := ⟨hx, hb, hml, hown, hts⟩
  have hl : lv_has ls 3 [(0, .ref (q 1)), (1, .int p0)] := hl
  refine lv_iconst (v := 0) hx hb dX8_place_0 (by decide) ?_
  refine lv_istore_n (lv' := [(2, .int 0), (0, .ref (q 1)), (1, .int p0)]) hx hb dX8_place_1 rfl hl (by decide) rfl (fun ls hl => ?_)
  refine lv_iload_n hx hb dX8_place_2 rfl (lv_at hl 0 rfl) ?_
  refine lv_aload_n hx hb dX8_place_3 rfl (lv_at hl 1 rfl) ?_
  refine va_get (D := D) (ci := 12) (v := .int (v 2)) (C := RX8) (T := TX8) (N := 10) hx hb hts (fun w9 h9 => fz_m (fin_X8 w9 h9)) hown hK hP 1 rfl rfl 1 (by decide) (hts _ (fz_m fm_2)) (fun _ h9 => h9) rfl dX8_place_4 ?_
  refine fz_I (y := 1) g_v_2 ?_
  refine lv_iconst (v := 1) hx hb dX8_place_7 (by decide) ?_
  refine lv_isub hx hb dX8_place_8 ?_
  refine fz_I (y := 0) (by decide) ?_
  refine lv_icmp_ge (tgt := 28) hx hb dX8_place_9 (by decide) (fun c_1 => ?_) (fun c_1 => absurd (by decide) c_1)
  refine lv_iload_n hx hb dX8_place_28 rfl (lv_at hl 0 rfl) ?_
  exact fz_iret hx hb hr rfl hlocks hS dX8_place_29 () rfl hP (Nat.le_of_ble_eq_true rfl) (Nat.le_of_ble_eq_true rfl)

set_option maxHeartbeats 4000000 in
set_option maxRecDepth 100000 in
theorem c_isDay (l : Launch) (A : Nat → Prop) (D : va_G) (k : Nat → ClassId) (q : Nat → Nat) (f : Nat → Nat → Int32) (pa : Nat → Option Nat) (v : Nat → Int32) (p0 : Int32)   :
    Met l yX9_isDay (fz_ws yX9_isDay cX9_isDay 1 (some .boolean)) { frames := 0, cells := 0, slots := 0, locals := 0 } (va_Pc [.int p0] (fz_PC A D (fz_tys k) (fz_WC k q f pa v))) (fz_QI D A (fun (_ : Unit) => fz_WC k q f pa v) (fun (r : Int32) (_ : Unit) => (r = 1 ∧ (0 ≤ p0 ∧ p0 ≤ 9999)) ∨ (r = 0 ∧ ¬ ((0 ≤ p0 ∧ p0 ≤ 9999))))) 0 0 A := by
  refine fz_of (by decide +kernel) (Nat.le_of_ble_eq_true rfl) ?_
  intro p e s m below meth c hx hb hr hml hown hlocks hts hin hA hP hK hD hG hS ls hl
  have hown : s.vm.findClass RX9 = some m.cls := hown
  have S0 : CallFix p m c cX9_isDay 1 s [.int p0].toArray (fz_ws yX9_isDay cX9_isDay 1 (some .boolean)) RX9 := ⟨hx, hb, hml, hown, hts⟩
  have hl : lv_has ls 1 [(0, .int p0)] := hl
  refine lv_iload_n hx hb dX9_isDay_0 rfl (lv_at hl 0 rfl) ?_
  refine lv_if_lt (tgt := 15) hx hb dX9_isDay_1 (by decide) (fun c_1 => ?_) (fun c_1 => ?_)
  · skip
    refine lv_iconst (v := 0) hx hb dX9_isDay_15 (by decide) ?_
    exact fz_iret hx hb hr rfl hlocks hS dX9_isDay_16 () (Or.inr ⟨rfl, (fq_4 p0 c_1)⟩) hP (Nat.le_of_ble_eq_true rfl) (Nat.le_of_ble_eq_true rfl)
  · skip
    refine lv_iload_n hx hb dX9_isDay_4 rfl (lv_at hl 0 rfl) ?_
    refine lv_sipush (v := 9999) hx hb dX9_isDay_5 (by decide) ?_
    refine lv_icmp_gt (tgt := 15) hx hb dX9_isDay_8 (by decide) (fun c_2 => ?_) (fun c_2 => ?_)
    · skip
      refine lv_iconst (v := 0) hx hb dX9_isDay_15 (by decide) ?_
      exact fz_iret hx hb hr rfl hlocks hS dX9_isDay_16 () (Or.inr ⟨rfl, (fq_5 p0 c_2)⟩) hP (Nat.le_of_ble_eq_true rfl) (Nat.le_of_ble_eq_true rfl)
    · skip
      refine lv_iconst (v := 1) hx hb dX9_isDay_11 (by decide) ?_
      refine lv_goto (tgt := 16) hx hb dX9_isDay_12 (by decide) ?_
      exact fz_iret hx hb hr rfl hlocks hS dX9_isDay_16 () (Or.inl ⟨rfl, (fq_6 p0 c_1 c_2)⟩) hP (Nat.le_of_ble_eq_true rfl) (Nat.le_of_ble_eq_true rfl)

set_option maxHeartbeats 4000000 in
set_option maxRecDepth 100000 in
theorem c_fits (l : Launch) (A : Nat → Prop) (D : va_G) (k : Nat → ClassId) (q : Nat → Nat) (f : Nat → Nat → Int32) (pa : Nat → Option Nat) (v : Nat → Int32) (p1 p2 p3 p4 : Int32)   :
    Met l yX9_fitsBelow (fz_ws yX9_fitsBelow cX9_fitsBelow 5 (some .boolean)) { frames := 12, cells := 0, slots := 0, locals := 160 } (va_Pc [.int 0, .int p1, .int p2, .int p3, .int p4] (fz_PC A D (fz_tys k) (fz_WC k q f pa v))) (fz_QI D A (fun (_ : Unit) => fz_WC k q f pa v) (fun (r : Int32) (_ : Unit) => (r = 1 ∧ ((1 ≤ p1 ∧ p1 ≤ 3) ∧ 0 ≤ p2 ∧ ((p1 = 1 ∧ p2 ≤ 0) ∨ (¬ (p1 = 1) ∧ p2 ≤ 20)) ∧ (p3 = (-1) ∨ ((0 ≤ p3 ∧ p3 ≤ 9999) ∧ (0 ≤ p4 ∧ p4 ≤ 9999) ∧ p3 ≤ p4)))) ∨ (r = 0 ∧ ¬ (((1 ≤ p1 ∧ p1 ≤ 3) ∧ 0 ≤ p2 ∧ ((p1 = 1 ∧ p2 ≤ 0) ∨ (¬ (p1 = 1) ∧ p2 ≤ 20)) ∧ (p3 = (-1) ∨ ((0 ≤ p3 ∧ p3 ≤ 9999) ∧ (0 ≤ p4 ∧ p4 ≤ 9999) ∧ p3 ≤ p4))))))) 0 0 A := by
  refine fz_of (by decide +kernel) (Nat.le_of_ble_eq_true rfl) ?_
  intro p e s m below meth c hx hb hr hml hown hlocks hts hin hA hP hK hD hG hS ls hl
  have hown : s.vm.findClass RX9 = some m.cls := hown
  have S0 : CallFix p m c cX9_fitsBelow 5 s [.int 0, .int p1, .int p2, .int p3, .int p4].toArray (fz_ws yX9_fitsBelow cX9_fitsBelow 5 (some .boolean)) RX9 := ⟨hx, hb, hml, hown, hts⟩
  have hl : lv_has ls 5 [(0, .int 0), (1, .int p1), (2, .int p2), (3, .int p3), (4, .int p4)] := hl
  refine lv_iload_n hx hb dX9_fitsBelow_0 rfl (lv_at hl 1 rfl) ?_
  refine lv_iconst (v := 1) hx hb dX9_fitsBelow_1 (by decide) ?_
  refine lv_icmp_lt (tgt := 15) hx hb dX9_fitsBelow_2 (by decide) (fun c_1 => ?_) (fun c_1 => ?_)
  · skip
    refine lv_iconst (v := 0) hx hb dX9_fitsBelow_15 (by decide) ?_
    exact fz_iret hx hb hr rfl hlocks hS dX9_fitsBelow_16 () (Or.inr ⟨rfl, (fq_7 p1 p2 p3 p4 c_1)⟩) hP (Nat.le_of_ble_eq_true rfl) (Nat.le_of_ble_eq_true rfl)
  · skip
    refine lv_iload_n hx hb dX9_fitsBelow_5 rfl (lv_at hl 1 rfl) ?_
    refine lv_iconst (v := 3) hx hb dX9_fitsBelow_6 (by decide) ?_
    refine lv_icmp_gt (tgt := 15) hx hb dX9_fitsBelow_7 (by decide) (fun c_2 => ?_) (fun c_2 => ?_)
    · skip
      refine lv_iconst (v := 0) hx hb dX9_fitsBelow_15 (by decide) ?_
      exact fz_iret hx hb hr rfl hlocks hS dX9_fitsBelow_16 () (Or.inr ⟨rfl, (fq_8 p1 p2 p3 p4 c_2)⟩) hP (Nat.le_of_ble_eq_true rfl) (Nat.le_of_ble_eq_true rfl)
    · skip
      refine lv_iload_n hx hb dX9_fitsBelow_10 rfl (lv_at hl 1 rfl) ?_
      refine lv_iload_n hx hb dX9_fitsBelow_11 rfl (lv_at hl 0 rfl) ?_
      refine lv_icmp_gt (tgt := 17) hx hb dX9_fitsBelow_12 (by decide) (fun c_3 => ?_) (fun c_3 => (fq_9 p1 c_1 c_3).elim)
      refine lv_iload_n hx hb dX9_fitsBelow_17 rfl (lv_at hl 2 rfl) ?_
      refine lv_if_lt (tgt := 36) hx hb dX9_fitsBelow_18 (by decide) (fun c_4 => ?_) (fun c_4 => ?_)
      · skip
        refine lv_iconst (v := 0) hx hb dX9_fitsBelow_36 (by decide) ?_
        exact fz_iret hx hb hr rfl hlocks hS dX9_fitsBelow_37 () (Or.inr ⟨rfl, (fq_10 p1 p2 p3 p4 c_4)⟩) hP (Nat.le_of_ble_eq_true rfl) (Nat.le_of_ble_eq_true rfl)
      · skip
        refine lv_iload_n hx hb dX9_fitsBelow_21 rfl (lv_at hl 2 rfl) ?_
        refine lv_iload_n hx hb dX9_fitsBelow_22 rfl (lv_at hl 1 rfl) ?_
        refine lv_iconst (v := 1) hx hb dX9_fitsBelow_23 (by decide) ?_
        refine lv_icmp_ne (tgt := 31) hx hb dX9_fitsBelow_24 (by decide) (fun c_5 => ?_) (fun c_5 => ?_)
        · skip
          refine lv_bipush (v := 20) hx hb dX9_fitsBelow_31 (by decide) ?_
          refine lv_icmp_le (tgt := 38) hx hb dX9_fitsBelow_33 (by decide) (fun c_6 => ?_) (fun c_6 => ?_)
          · skip
            refine lv_iload_n hx hb dX9_fitsBelow_38 rfl (lv_at hl 3 rfl) ?_
            refine lv_iconst (v := (-1)) hx hb dX9_fitsBelow_39 (by decide) ?_
            refine lv_icmp_eq (tgt := 64) hx hb dX9_fitsBelow_40 (by decide) (fun c_7 => ?_) (fun c_7 => ?_)
            · skip
              obtain rfl : p3 = (-1) := (fq_11 p3 c_7)
              refine lv_iconst (v := 1) hx hb dX9_fitsBelow_64 (by decide) ?_
              refine lv_goto (tgt := 69) hx hb dX9_fitsBelow_65 (by decide) ?_
              exact fz_iret hx hb hr rfl hlocks hS dX9_fitsBelow_69 () (Or.inl ⟨rfl, (fq_12 p1 p2 p4 c_2 c_3 c_4 c_5 c_6)⟩) hP (Nat.le_of_ble_eq_true rfl) (Nat.le_of_ble_eq_true rfl)
            · skip
              refine lv_iload_n hx hb dX9_fitsBelow_43 rfl (lv_at hl 3 rfl) ?_
              refine fz_cSi (As := [.int p3]) (rest := []) S0 (c_isDay l A D k q f pa v p3) (fz_cwS 1 hts fm_3 fm_4 fm_5 fm_6 rfl rfl ⟨by decide, by decide, by decide +kernel⟩ ⟨Nat.le_of_ble_eq_true rfl, Nat.le_of_ble_eq_true rfl⟩) (fun _ h9 => h9) (fun a9 h9 => hA a9 (Nat.le_trans hS.1 h9)) hG hS hP hK hD rfl hl.1 rfl (Nat.le_of_ble_eq_true rfl) dX9_fitsBelow_44 ⟨Nat.le_of_ble_eq_true rfl, Nat.le_of_ble_eq_true rfl⟩ (fun r_8 u_8 H locs hw hz1 hk1 hP hS => ?_)
              have hP : va_P D vwCl (fz_WC k q f pa v) H := hP
              rcases (show (r_8 = 1 ∧ (0 ≤ p3 ∧ p3 ≤ 9999)) ∨ (r_8 = 0 ∧ ¬ ((0 ≤ p3 ∧ p3 ≤ 9999))) from hw) with ⟨rfl, hq_8⟩ | ⟨rfl, hq_8⟩
              · skip
                refine lv_if_eq (tgt := 68) hx hb dX9_fitsBelow_47 (by decide) (fun c_9 => absurd c_9 (by decide)) (fun c_9 => ?_)
                refine lv_iload hx hb dX9_fitsBelow_50 (lv_at hl 4 rfl) ?_
                refine fz_cSi (As := [.int p4]) (rest := []) S0 (c_isDay l A D k q f pa v p4) (fz_cwS 1 hts fm_3 fm_4 fm_5 fm_6 rfl rfl ⟨by decide, by decide, by decide +kernel⟩ ⟨Nat.le_of_ble_eq_true rfl, Nat.le_of_ble_eq_true rfl⟩) (fun _ h9 => h9) (fun a9 h9 => hA a9 (Nat.le_trans hS.1 h9)) hG hS hP hK hD rfl hl.1 rfl (Nat.le_of_ble_eq_true rfl) dX9_fitsBelow_52 ⟨Nat.le_of_ble_eq_true rfl, Nat.le_of_ble_eq_true rfl⟩ (fun r_10 u_10 H locs hw hz1 hk1 hP hS => ?_)
                have hP : va_P D vwCl (fz_WC k q f pa v) H := hP
                rcases (show (r_10 = 1 ∧ (0 ≤ p4 ∧ p4 ≤ 9999)) ∨ (r_10 = 0 ∧ ¬ ((0 ≤ p4 ∧ p4 ≤ 9999))) from hw) with ⟨rfl, hq_10⟩ | ⟨rfl, hq_10⟩
                · skip
                  refine lv_if_eq (tgt := 68) hx hb dX9_fitsBelow_55 (by decide) (fun c_11 => absurd c_11 (by decide)) (fun c_11 => ?_)
                  refine lv_iload_n hx hb dX9_fitsBelow_58 rfl (lv_at hl 3 rfl) ?_
                  refine lv_iload hx hb dX9_fitsBelow_59 (lv_at hl 4 rfl) ?_
                  refine lv_icmp_gt (tgt := 68) hx hb dX9_fitsBelow_61 (by decide) (fun c_12 => ?_) (fun c_12 => ?_)
                  · skip
                    refine lv_iconst (v := 0) hx hb dX9_fitsBelow_68 (by decide) ?_
                    exact fz_iret hx hb hr rfl hlocks hS dX9_fitsBelow_69 () (Or.inr ⟨rfl, (fq_13 p1 p2 p3 p4 hq_10 c_12)⟩) hP (Nat.le_of_ble_eq_true rfl) (Nat.le_of_ble_eq_true rfl)
                  · skip
                    refine lv_iconst (v := 1) hx hb dX9_fitsBelow_64 (by decide) ?_
                    refine lv_goto (tgt := 69) hx hb dX9_fitsBelow_65 (by decide) ?_
                    exact fz_iret hx hb hr rfl hlocks hS dX9_fitsBelow_69 () (Or.inl ⟨rfl, (fq_14 p1 p2 p3 p4 c_2 c_3 c_4 c_5 c_6 hq_8 hq_10 c_12)⟩) hP (Nat.le_of_ble_eq_true rfl) (Nat.le_of_ble_eq_true rfl)
                · skip
                  refine lv_if_eq (tgt := 68) hx hb dX9_fitsBelow_55 (by decide) (fun c_13 => ?_) (fun c_13 => absurd (by decide) c_13)
                  refine lv_iconst (v := 0) hx hb dX9_fitsBelow_68 (by decide) ?_
                  exact fz_iret hx hb hr rfl hlocks hS dX9_fitsBelow_69 () (Or.inr ⟨rfl, (fq_15 p1 p2 p3 p4 hq_8 hq_10)⟩) hP (Nat.le_of_ble_eq_true rfl) (Nat.le_of_ble_eq_true rfl)
              · skip
                refine lv_if_eq (tgt := 68) hx hb dX9_fitsBelow_47 (by decide) (fun c_14 => ?_) (fun c_14 => absurd (by decide) c_14)
                refine lv_iconst (v := 0) hx hb dX9_fitsBelow_68 (by decide) ?_
                exact fz_iret hx hb hr rfl hlocks hS dX9_fitsBelow_69 () (Or.inr ⟨rfl, (fq_16 p1 p2 p3 p4 c_7 hq_8)⟩) hP (Nat.le_of_ble_eq_true rfl) (Nat.le_of_ble_eq_true rfl)
          · skip
            refine lv_iconst (v := 0) hx hb dX9_fitsBelow_36 (by decide) ?_
            exact fz_iret hx hb hr rfl hlocks hS dX9_fitsBelow_37 () (Or.inr ⟨rfl, (fq_17 p1 p2 p3 p4 c_6)⟩) hP (Nat.le_of_ble_eq_true rfl) (Nat.le_of_ble_eq_true rfl)
        · skip
          obtain rfl : p1 = 1 := (fq_18 p1 c_5)
          refine lv_iconst (v := 0) hx hb dX9_fitsBelow_27 (by decide) ?_
          refine lv_goto (tgt := 33) hx hb dX9_fitsBelow_28 (by decide) ?_
          refine lv_icmp_le (tgt := 38) hx hb dX9_fitsBelow_33 (by decide) (fun c_15 => ?_) (fun c_15 => ?_)
          · skip
            obtain rfl : p2 = 0 := (fq_19 p2 c_4 c_15)
            refine lv_iload_n hx hb dX9_fitsBelow_38 rfl (lv_at hl 3 rfl) ?_
            refine lv_iconst (v := (-1)) hx hb dX9_fitsBelow_39 (by decide) ?_
            refine lv_icmp_eq (tgt := 64) hx hb dX9_fitsBelow_40 (by decide) (fun c_16 => ?_) (fun c_16 => ?_)
            · skip
              obtain rfl : p3 = (-1) := (fq_11 p3 c_16)
              refine lv_iconst (v := 1) hx hb dX9_fitsBelow_64 (by decide) ?_
              refine lv_goto (tgt := 69) hx hb dX9_fitsBelow_65 (by decide) ?_
              exact fz_iret hx hb hr rfl hlocks hS dX9_fitsBelow_69 () (Or.inl ⟨rfl, (fq_20 p4)⟩) hP (Nat.le_of_ble_eq_true rfl) (Nat.le_of_ble_eq_true rfl)
            · skip
              refine lv_iload_n hx hb dX9_fitsBelow_43 rfl (lv_at hl 3 rfl) ?_
              refine fz_cSi (As := [.int p3]) (rest := []) S0 (c_isDay l A D k q f pa v p3) (fz_cwS 1 hts fm_3 fm_4 fm_5 fm_6 rfl rfl ⟨by decide, by decide, by decide +kernel⟩ ⟨Nat.le_of_ble_eq_true rfl, Nat.le_of_ble_eq_true rfl⟩) (fun _ h9 => h9) (fun a9 h9 => hA a9 (Nat.le_trans hS.1 h9)) hG hS hP hK hD rfl hl.1 rfl (Nat.le_of_ble_eq_true rfl) dX9_fitsBelow_44 ⟨Nat.le_of_ble_eq_true rfl, Nat.le_of_ble_eq_true rfl⟩ (fun r_17 u_17 H locs hw hz1 hk1 hP hS => ?_)
              have hP : va_P D vwCl (fz_WC k q f pa v) H := hP
              rcases (show (r_17 = 1 ∧ (0 ≤ p3 ∧ p3 ≤ 9999)) ∨ (r_17 = 0 ∧ ¬ ((0 ≤ p3 ∧ p3 ≤ 9999))) from hw) with ⟨rfl, hq_17⟩ | ⟨rfl, hq_17⟩
              · skip
                refine lv_if_eq (tgt := 68) hx hb dX9_fitsBelow_47 (by decide) (fun c_18 => absurd c_18 (by decide)) (fun c_18 => ?_)
                refine lv_iload hx hb dX9_fitsBelow_50 (lv_at hl 4 rfl) ?_
                refine fz_cSi (As := [.int p4]) (rest := []) S0 (c_isDay l A D k q f pa v p4) (fz_cwS 1 hts fm_3 fm_4 fm_5 fm_6 rfl rfl ⟨by decide, by decide, by decide +kernel⟩ ⟨Nat.le_of_ble_eq_true rfl, Nat.le_of_ble_eq_true rfl⟩) (fun _ h9 => h9) (fun a9 h9 => hA a9 (Nat.le_trans hS.1 h9)) hG hS hP hK hD rfl hl.1 rfl (Nat.le_of_ble_eq_true rfl) dX9_fitsBelow_52 ⟨Nat.le_of_ble_eq_true rfl, Nat.le_of_ble_eq_true rfl⟩ (fun r_19 u_19 H locs hw hz1 hk1 hP hS => ?_)
                have hP : va_P D vwCl (fz_WC k q f pa v) H := hP
                rcases (show (r_19 = 1 ∧ (0 ≤ p4 ∧ p4 ≤ 9999)) ∨ (r_19 = 0 ∧ ¬ ((0 ≤ p4 ∧ p4 ≤ 9999))) from hw) with ⟨rfl, hq_19⟩ | ⟨rfl, hq_19⟩
                · skip
                  refine lv_if_eq (tgt := 68) hx hb dX9_fitsBelow_55 (by decide) (fun c_20 => absurd c_20 (by decide)) (fun c_20 => ?_)
                  refine lv_iload_n hx hb dX9_fitsBelow_58 rfl (lv_at hl 3 rfl) ?_
                  refine lv_iload hx hb dX9_fitsBelow_59 (lv_at hl 4 rfl) ?_
                  refine lv_icmp_gt (tgt := 68) hx hb dX9_fitsBelow_61 (by decide) (fun c_21 => ?_) (fun c_21 => ?_)
                  · skip
                    refine lv_iconst (v := 0) hx hb dX9_fitsBelow_68 (by decide) ?_
                    exact fz_iret hx hb hr rfl hlocks hS dX9_fitsBelow_69 () (Or.inr ⟨rfl, (fq_21 p3 p4 hq_19 c_21)⟩) hP (Nat.le_of_ble_eq_true rfl) (Nat.le_of_ble_eq_true rfl)
                  · skip
                    refine lv_iconst (v := 1) hx hb dX9_fitsBelow_64 (by decide) ?_
                    refine lv_goto (tgt := 69) hx hb dX9_fitsBelow_65 (by decide) ?_
                    exact fz_iret hx hb hr rfl hlocks hS dX9_fitsBelow_69 () (Or.inl ⟨rfl, (fq_22 p3 p4 hq_17 hq_19 c_21)⟩) hP (Nat.le_of_ble_eq_true rfl) (Nat.le_of_ble_eq_true rfl)
                · skip
                  refine lv_if_eq (tgt := 68) hx hb dX9_fitsBelow_55 (by decide) (fun c_22 => ?_) (fun c_22 => absurd (by decide) c_22)
                  refine lv_iconst (v := 0) hx hb dX9_fitsBelow_68 (by decide) ?_
                  exact fz_iret hx hb hr rfl hlocks hS dX9_fitsBelow_69 () (Or.inr ⟨rfl, (fq_23 p3 p4 hq_17 hq_19)⟩) hP (Nat.le_of_ble_eq_true rfl) (Nat.le_of_ble_eq_true rfl)
              · skip
                refine lv_if_eq (tgt := 68) hx hb dX9_fitsBelow_47 (by decide) (fun c_23 => ?_) (fun c_23 => absurd (by decide) c_23)
                refine lv_iconst (v := 0) hx hb dX9_fitsBelow_68 (by decide) ?_
                exact fz_iret hx hb hr rfl hlocks hS dX9_fitsBelow_69 () (Or.inr ⟨rfl, (fq_24 p3 p4 c_16 hq_17)⟩) hP (Nat.le_of_ble_eq_true rfl) (Nat.le_of_ble_eq_true rfl)
          · skip
            refine lv_iconst (v := 0) hx hb dX9_fitsBelow_36 (by decide) ?_
            exact fz_iret hx hb hr rfl hlocks hS dX9_fitsBelow_37 () (Or.inr ⟨rfl, (fq_25 p2 p3 p4 c_15)⟩) hP (Nat.le_of_ble_eq_true rfl) (Nat.le_of_ble_eq_true rfl)

set_option maxHeartbeats 4000000 in
set_option maxRecDepth 100000 in
theorem c_contHas (l : Launch) (A : Nat → Prop) (D : va_G) (k : Nat → ClassId) (q : Nat → Nat) (f : Nat → Nat → Int32) (pa : Nat → Option Nat) (v : Nat → Int32) (p0 : Int32) (g_v_3 : v 3 = 0)  :
    Met l yX0_has (fz_ws yX0_has cX0_has 2 (some .boolean)) { frames := 0, cells := 0, slots := 0, locals := 0 } (va_Pc [.ref (q 14), .int p0] (fz_PC A D (fz_tys k) (fz_WC k q f pa v))) (fz_QI D A (fun (_ : Unit) => fz_WC k q f pa v) (fun (r : Int32) (_ : Unit) => r = 0)) 0 0 A := by
  refine fz_of (by decide +kernel) (Nat.le_of_ble_eq_true rfl) ?_
  intro p e s m below meth c hx hb hr hml hown hlocks hts hin hA hP hK hD hG hS ls hl
  have hown : s.vm.findClass RX0 = some m.cls := hown
  have S0 : CallFix p m c cX0_has 2 s [.ref (q 14), .int p0].toArray (fz_ws yX0_has cX0_has 2 (some .boolean)) RX0 := ⟨hx, hb, hml, hown, hts⟩
  have hl : lv_has ls 2 [(0, .ref (q 14)), (1, .int p0)] := hl
  refine lv_iload_n hx hb dX0_has_0 rfl (lv_at hl 1 rfl) ?_
  refine lv_if_lt (tgt := 25) hx hb dX0_has_1 (by decide) (fun c_1 => ?_) (fun c_1 => ?_)
  · skip
    refine lv_iconst (v := 0) hx hb dX0_has_25 (by decide) ?_
    exact fz_iret hx hb hr rfl hlocks hS dX0_has_26 () rfl hP (Nat.le_of_ble_eq_true rfl) (Nat.le_of_ble_eq_true rfl)
  · skip
    refine lv_iload_n hx hb dX0_has_4 rfl (lv_at hl 1 rfl) ?_
    refine lv_aload_n hx hb dX0_has_5 rfl (lv_at hl 0 rfl) ?_
    refine va_get (D := D) (ci := 4) (v := .int (v 3)) (C := RX0) (T := TX0) (N := 9) hx hb hts (fun w9 h9 => fz_m (fin_X0 w9 h9)) hown hK hP 14 rfl rfl 0 (by decide) (hts _ (fz_m fm_7)) (fun _ h9 => h9) rfl dX0_has_6 ?_
    refine fz_I (y := 0) g_v_3 ?_
    refine lv_icmp_ge (tgt := 25) hx hb dX0_has_9 (by decide) (fun c_2 => ?_) (fun c_2 => (fq_26 p0 c_1 c_2).elim)
    refine lv_iconst (v := 0) hx hb dX0_has_25 (by decide) ?_
    exact fz_iret hx hb hr rfl hlocks hS dX0_has_26 () rfl hP (Nat.le_of_ble_eq_true rfl) (Nat.le_of_ble_eq_true rfl)

set_option maxHeartbeats 4000000 in
set_option maxRecDepth 100000 in
theorem c_copHas (l : Launch) (A : Nat → Prop) (D : va_G) (k : Nat → ClassId) (q : Nat → Nat) (f : Nat → Nat → Int32) (pa : Nat → Option Nat) (v : Nat → Int32) (p0 : Int32) (g_v_7 : v 7 = 0)  :
    Met l yX1_has (fz_ws yX1_has cX1_has 2 (some .boolean)) { frames := 0, cells := 0, slots := 0, locals := 0 } (va_Pc [.ref (q 23), .int p0] (fz_PC A D (fz_tys k) (fz_WC k q f pa v))) (fz_QI D A (fun (_ : Unit) => fz_WC k q f pa v) (fun (r : Int32) (_ : Unit) => r = 0)) 0 0 A := by
  refine fz_of (by decide +kernel) (Nat.le_of_ble_eq_true rfl) ?_
  intro p e s m below meth c hx hb hr hml hown hlocks hts hin hA hP hK hD hG hS ls hl
  have hown : s.vm.findClass RX1 = some m.cls := hown
  have S0 : CallFix p m c cX1_has 2 s [.ref (q 23), .int p0].toArray (fz_ws yX1_has cX1_has 2 (some .boolean)) RX1 := ⟨hx, hb, hml, hown, hts⟩
  have hl : lv_has ls 2 [(0, .ref (q 23)), (1, .int p0)] := hl
  refine lv_iload_n hx hb dX1_has_0 rfl (lv_at hl 1 rfl) ?_
  refine lv_if_lt (tgt := 26) hx hb dX1_has_1 (by decide) (fun c_1 => ?_) (fun c_1 => ?_)
  · skip
    refine lv_iconst (v := 0) hx hb dX1_has_26 (by decide) ?_
    exact fz_iret hx hb hr rfl hlocks hS dX1_has_27 () rfl hP (Nat.le_of_ble_eq_true rfl) (Nat.le_of_ble_eq_true rfl)
  · skip
    refine lv_iload_n hx hb dX1_has_4 rfl (lv_at hl 1 rfl) ?_
    refine lv_aload_n hx hb dX1_has_5 rfl (lv_at hl 0 rfl) ?_
    refine va_get (D := D) (ci := 5) (v := .int (v 7)) (C := RX1) (T := TX1) (N := 3) hx hb hts (fun w9 h9 => fz_m (fin_X1 w9 h9)) hown hK hP 23 rfl rfl 0 (by decide) (hts _ (fz_m fm_8)) (fun _ h9 => h9) rfl dX1_has_6 ?_
    refine fz_I (y := 0) g_v_7 ?_
    refine lv_icmp_ge (tgt := 26) hx hb dX1_has_9 (by decide) (fun c_2 => ?_) (fun c_2 => (fq_26 p0 c_1 c_2).elim)
    refine lv_iconst (v := 0) hx hb dX1_has_26 (by decide) ?_
    exact fz_iret hx hb hr rfl hlocks hS dX1_has_27 () rfl hP (Nat.le_of_ble_eq_true rfl) (Nat.le_of_ble_eq_true rfl)

set_option maxHeartbeats 4000000 in
set_option maxRecDepth 100000 in
theorem c_reqNode (l : Launch) (hl0 : l.stackTraces = false) (A : Nat → Prop) (D : va_G) (k : Nat → ClassId) (q : Nat → Nat) (f : Nat → Nat → Int32) (pa : Nat → Option Nat) (v : Nat → Int32) (p0 : Int32) (g_v_1 : v 1 = 1) (g_f_4_0 : f 4 0 = 0)  :
    vx_Met l yX9_requireNode (fz_ws yX9_requireNode cX9_requireNode 2 none) { frames := 12, cells := 1, slots := 6, locals := 160 } (va_Pc [.ref (q 31), .int p0] (fz_PC A D (fz_tys k) (fz_WC k q f pa v))) (fz_QV D A (fun (_ : Unit) => fz_WC k q f pa v) (fun (_ : Unit) => p0 = 0)) (fz_XC (fun E => (E = "java/lang/IndexOutOfBoundsException" ∧ ¬ (p0 = 0))) A) 1 6 A := by
  refine fz_ofX (by decide +kernel) (Nat.le_of_ble_eq_true rfl) ?_
  intro p e s m below meth c hx hb hr hml hown hlocks hts ht hA hP hK hD hG hS ls hl
  have hown : s.vm.findClass RX9 = some m.cls := hown
  have S0 : CallFix p m c cX9_requireNode 2 s [.ref (q 31), .int p0].toArray (fz_ws yX9_requireNode cX9_requireNode 2 none) RX9 := ⟨hx, hb, hml, hown, hts⟩
  have hl : lv_has ls 2 [(0, .ref (q 31)), (1, .int p0)] := hl
  refine lv_aload_n hx hb dX9_requireNode_0 rfl (lv_at hl 0 rfl) ?_
  refine va_get (D := D) (ci := 13) (v := .ref (q 0)) (C := RX9) (T := TX9) (N := 8) hx hb hts (fun w9 h9 => fz_m (fin_X9 w9 h9)) hown hK hP 31 rfl rfl 0 (by decide) (hts _ (fz_m fm_9)) (fun _ h9 => h9) rfl dX9_requireNode_1 ?_
  refine va_get (D := D) (ci := 11) (v := .ref (q 1)) (C := RX7) (T := TX7) (N := 6) hx hb hts (fun w9 h9 => fz_m (fin_X7 w9 h9)) hown hK hP 0 rfl rfl 0 (by decide) (hts _ (fz_m fm_10)) (fun _ h9 => h9) rfl dX9_requireNode_4 ?_
  refine lv_iload_n hx hb dX9_requireNode_7 rfl (lv_at hl 1 rfl) ?_
  refine fz_cVi (As := [.int p0]) (rest := []) S0 (c_has l A D k q f pa v p0 g_v_1 g_f_4_0) (fz_cwV (C := RX8) 1 hts fm_11 fm_12 fm_13 fm_14 fm_15 rfl rfl ⟨by decide, by decide, by decide +kernel⟩ ⟨Nat.le_of_ble_eq_true rfl, Nat.le_of_ble_eq_true rfl⟩) (va_recv hK hP (ci := 12) (q0 := 1) rfl rfl) (fun _ h9 => h9) (fun a9 h9 => hA a9 (Nat.le_trans hS.1 h9)) hG hS hP hK hD rfl hl.1 rfl (Nat.le_of_ble_eq_true rfl) dX9_requireNode_8 ⟨Nat.le_of_ble_eq_true rfl, Nat.le_of_ble_eq_true rfl⟩ (fun r_1 u_1 H locs hw hz1 hk1 hP hS => ?_)
  have hP : va_P D vwCl (fz_WC k q f pa v) H := hP
  rcases (show (r_1 = 1 ∧ p0 = 0) ∨ (r_1 = 0 ∧ ¬ (p0 = 0)) from hw) with ⟨rfl, hq_1⟩ | ⟨rfl, hq_1⟩
  · skip
    obtain rfl : p0 = 0 := (fq_27 p0 hq_1)
    refine lv_if_ne (tgt := 25) hx hb dX9_requireNode_11 (by decide) (fun c_2 => ?_) (fun c_2 => absurd c_2 (by decide))
    exact vx_ret (fz_vret hx hb hr hlocks hS dX9_requireNode_25 () (fq_3 ) hP (Nat.le_of_ble_eq_true rfl) (Nat.le_of_ble_eq_true rfl))
  · skip
    refine lv_if_ne (tgt := 25) hx hb dX9_requireNode_11 (by decide) (fun c_3 => absurd (by decide) c_3) (fun c_3 => ?_)
    exact fz_throwW (cls := "java/lang/IndexOutOfBoundsException") (text := "no such node") (names := fz_EN) (ik := 161) (is := 491) (ic := 165) hx hb hl0 hown hts hG (fz_fit_165) ⟨fm_16, fm_17⟩ (by decide) fz_at_165 fz_ok_165 hS (hl.1.trans hml.symm) dX9_requireNode_14 dX9_requireNode_17 dX9_requireNode_18 dX9_requireNode_21 dX9_requireNode_24 ht hlocks ⟨Nat.le_of_ble_eq_true rfl, Nat.le_of_ble_eq_true rfl, Nat.le_of_ble_eq_true rfl, Nat.le_of_ble_eq_true rfl⟩ ⟨rfl, (fq_28 p0 hq_1)⟩ ⟨Nat.le_of_ble_eq_true rfl, Nat.le_of_ble_eq_true rfl⟩

set_option maxHeartbeats 4000000 in
set_option maxRecDepth 100000 in
theorem c_reqUnit (l : Launch) (hl0 : l.stackTraces = false) (A : Nat → Prop) (D : va_G) (k : Nat → ClassId) (q : Nat → Nat) (f : Nat → Nat → Int32) (pa : Nat → Option Nat) (v : Nat → Int32) (g_f_7_0 : f 7 0 = 0)  :
    vx_Met l yX9_requireUnit (fz_ws yX9_requireUnit cX9_requireUnit 2 none) { frames := 12, cells := 1, slots := 6, locals := 160 } (va_Pc [.ref (q 31), .int 0] (fz_PC A D (fz_tys k) (fz_WC k q f pa v))) (fz_QV D A (fun (_ : Unit) => fz_WC k q f pa v) (fun (_ : Unit) => False)) (fz_XC (fun E => (E = "java/lang/IllegalArgumentException" ∧ True)) A) 1 6 A := by
  refine fz_ofX (by decide +kernel) (Nat.le_of_ble_eq_true rfl) ?_
  intro p e s m below meth c hx hb hr hml hown hlocks hts ht hA hP hK hD hG hS ls hl
  have hown : s.vm.findClass RX9 = some m.cls := hown
  have S0 : CallFix p m c cX9_requireUnit 2 s [.ref (q 31), .int 0].toArray (fz_ws yX9_requireUnit cX9_requireUnit 2 none) RX9 := ⟨hx, hb, hml, hown, hts⟩
  have hl : lv_has ls 2 [(0, .ref (q 31)), (1, .int 0)] := hl
  refine lv_aload_n hx hb dX9_requireUnit_0 rfl (lv_at hl 0 rfl) ?_
  refine va_get (D := D) (ci := 13) (v := .ref (q 0)) (C := RX9) (T := TX9) (N := 8) hx hb hts (fun w9 h9 => fz_m (fin_X9 w9 h9)) hown hK hP 31 rfl rfl 0 (by decide) (hts _ (fz_m fm_9)) (fun _ h9 => h9) rfl dX9_requireUnit_1 ?_
  refine va_get (D := D) (ci := 11) (v := .ref (q 1)) (C := RX7) (T := TX7) (N := 6) hx hb hts (fun w9 h9 => fz_m (fin_X7 w9 h9)) hown hK hP 0 rfl rfl 0 (by decide) (hts _ (fz_m fm_10)) (fun _ h9 => h9) rfl dX9_requireUnit_4 ?_
  refine va_get (D := D) (ci := 12) (v := .ref (q 7)) (C := RX8) (T := TX8) (N := 10) hx hb hts (fun w9 h9 => fz_m (fin_X8 w9 h9)) hown hK hP 1 rfl rfl 7 (by decide) (hts _ (fz_m fm_18)) (fun _ h9 => h9) rfl dX9_requireUnit_7 ?_
  refine lv_iload_n hx hb dX9_requireUnit_10 rfl (lv_at hl 1 rfl) ?_
  refine va_iald hx hb hK hP 7 0 rfl rfl (fz_vin (by decide)) dX9_requireUnit_11 ?_
  refine fz_I (y := 0) g_f_7_0 ?_
  refine lv_if_ne (tgt := 26) hx hb dX9_requireUnit_12 (by decide) (fun c_1 => absurd (by decide) c_1) (fun c_1 => ?_)
  exact fz_throwW (cls := "java/lang/IllegalArgumentException") (text := "the node is no unit") (names := fz_EN) (ik := 69) (is := 493) (ic := 73) hx hb hl0 hown hts hG (fz_fit_73) ⟨fm_19, fm_20⟩ (by decide) fz_at_73 fz_ok_73 hS (hl.1.trans hml.symm) dX9_requireUnit_15 dX9_requireUnit_18 dX9_requireUnit_19 dX9_requireUnit_22 dX9_requireUnit_25 ht hlocks ⟨Nat.le_of_ble_eq_true rfl, Nat.le_of_ble_eq_true rfl, Nat.le_of_ble_eq_true rfl, Nat.le_of_ble_eq_true rfl⟩ ⟨rfl, trivial⟩ ⟨Nat.le_of_ble_eq_true rfl, Nat.le_of_ble_eq_true rfl⟩

set_option maxHeartbeats 4000000 in
set_option maxRecDepth 100000 in
theorem c_reqCont (l : Launch) (hl0 : l.stackTraces = false) (A : Nat → Prop) (D : va_G) (k : Nat → ClassId) (q : Nat → Nat) (f : Nat → Nat → Int32) (pa : Nat → Option Nat) (v : Nat → Int32) (p0 : Int32) (g_v_3 : v 3 = 0)  :
    vx_Met l yX9_requireContainer (fz_ws yX9_requireContainer cX9_requireContainer 2 none) { frames := 12, cells := 1, slots := 6, locals := 160 } (va_Pc [.ref (q 31), .int p0] (fz_PC A D (fz_tys k) (fz_WC k q f pa v))) (fz_QV D A (fun (_ : Unit) => fz_WC k q f pa v) (fun (_ : Unit) => False)) (fz_XC (fun E => (E = "java/lang/IndexOutOfBoundsException" ∧ True)) A) 1 6 A := by
  refine fz_ofX (by decide +kernel) (Nat.le_of_ble_eq_true rfl) ?_
  intro p e s m below meth c hx hb hr hml hown hlocks hts ht hA hP hK hD hG hS ls hl
  have hown : s.vm.findClass RX9 = some m.cls := hown
  have S0 : CallFix p m c cX9_requireContainer 2 s [.ref (q 31), .int p0].toArray (fz_ws yX9_requireContainer cX9_requireContainer 2 none) RX9 := ⟨hx, hb, hml, hown, hts⟩
  have hl : lv_has ls 2 [(0, .ref (q 31)), (1, .int p0)] := hl
  refine lv_aload_n hx hb dX9_requireContainer_0 rfl (lv_at hl 0 rfl) ?_
  refine va_get (D := D) (ci := 13) (v := .ref (q 0)) (C := RX9) (T := TX9) (N := 8) hx hb hts (fun w9 h9 => fz_m (fin_X9 w9 h9)) hown hK hP 31 rfl rfl 0 (by decide) (hts _ (fz_m fm_9)) (fun _ h9 => h9) rfl dX9_requireContainer_1 ?_
  refine va_get (D := D) (ci := 11) (v := .ref (q 14)) (C := RX7) (T := TX7) (N := 6) hx hb hts (fun w9 h9 => fz_m (fin_X7 w9 h9)) hown hK hP 0 rfl rfl 2 (by decide) (hts _ (fz_m fm_21)) (fun _ h9 => h9) rfl dX9_requireContainer_4 ?_
  refine lv_iload_n hx hb dX9_requireContainer_7 rfl (lv_at hl 1 rfl) ?_
  refine fz_cVi (As := [.int p0]) (rest := []) S0 (c_contHas l A D k q f pa v p0 g_v_3) (fz_cwV (C := RX0) 1 hts fm_22 fm_23 fm_24 fm_25 fm_26 rfl rfl ⟨by decide, by decide, by decide +kernel⟩ ⟨Nat.le_of_ble_eq_true rfl, Nat.le_of_ble_eq_true rfl⟩) (va_recv hK hP (ci := 4) (q0 := 14) rfl rfl) (fun _ h9 => h9) (fun a9 h9 => hA a9 (Nat.le_trans hS.1 h9)) hG hS hP hK hD rfl hl.1 rfl (Nat.le_of_ble_eq_true rfl) dX9_requireContainer_8 ⟨Nat.le_of_ble_eq_true rfl, Nat.le_of_ble_eq_true rfl⟩ (fun r_1 u_1 H locs hw hz1 hk1 hP hS => ?_)
  have hP : va_P D vwCl (fz_WC k q f pa v) H := hP
  obtain rfl : r_1 = 0 := hw
  refine lv_if_ne (tgt := 25) hx hb dX9_requireContainer_11 (by decide) (fun c_2 => absurd (by decide) c_2) (fun c_2 => ?_)
  exact fz_throwW (cls := "java/lang/IndexOutOfBoundsException") (text := "no such container") (names := fz_EN) (ik := 161) (is := 496) (ic := 165) hx hb hl0 hown hts hG (fz_fit_165) ⟨fm_16, fm_17⟩ (by decide) fz_at_165 fz_ok_165 hS (hl.1.trans hml.symm) dX9_requireContainer_14 dX9_requireContainer_17 dX9_requireContainer_18 dX9_requireContainer_21 dX9_requireContainer_24 ht hlocks ⟨Nat.le_of_ble_eq_true rfl, Nat.le_of_ble_eq_true rfl, Nat.le_of_ble_eq_true rfl, Nat.le_of_ble_eq_true rfl⟩ ⟨rfl, trivial⟩ ⟨Nat.le_of_ble_eq_true rfl, Nat.le_of_ble_eq_true rfl⟩

set_option maxHeartbeats 4000000 in
set_option maxRecDepth 100000 in
theorem c_reqCopy (l : Launch) (hl0 : l.stackTraces = false) (A : Nat → Prop) (D : va_G) (k : Nat → ClassId) (q : Nat → Nat) (f : Nat → Nat → Int32) (pa : Nat → Option Nat) (v : Nat → Int32) (p0 : Int32) (g_v_7 : v 7 = 0)  :
    vx_Met l yX9_requireCopy (fz_ws yX9_requireCopy cX9_requireCopy 2 none) { frames := 12, cells := 1, slots := 6, locals := 160 } (va_Pc [.ref (q 31), .int p0] (fz_PC A D (fz_tys k) (fz_WC k q f pa v))) (fz_QV D A (fun (_ : Unit) => fz_WC k q f pa v) (fun (_ : Unit) => False)) (fz_XC (fun E => (E = "java/lang/IndexOutOfBoundsException" ∧ True)) A) 1 6 A := by
  refine fz_ofX (by decide +kernel) (Nat.le_of_ble_eq_true rfl) ?_
  intro p e s m below meth c hx hb hr hml hown hlocks hts ht hA hP hK hD hG hS ls hl
  have hown : s.vm.findClass RX9 = some m.cls := hown
  have S0 : CallFix p m c cX9_requireCopy 2 s [.ref (q 31), .int p0].toArray (fz_ws yX9_requireCopy cX9_requireCopy 2 none) RX9 := ⟨hx, hb, hml, hown, hts⟩
  have hl : lv_has ls 2 [(0, .ref (q 31)), (1, .int p0)] := hl
  refine lv_aload_n hx hb dX9_requireCopy_0 rfl (lv_at hl 0 rfl) ?_
  refine va_get (D := D) (ci := 13) (v := .ref (q 0)) (C := RX9) (T := TX9) (N := 8) hx hb hts (fun w9 h9 => fz_m (fin_X9 w9 h9)) hown hK hP 31 rfl rfl 0 (by decide) (hts _ (fz_m fm_9)) (fun _ h9 => h9) rfl dX9_requireCopy_1 ?_
  refine va_get (D := D) (ci := 11) (v := .ref (q 23)) (C := RX7) (T := TX7) (N := 6) hx hb hts (fun w9 h9 => fz_m (fin_X7 w9 h9)) hown hK hP 0 rfl rfl 3 (by decide) (hts _ (fz_m fm_27)) (fun _ h9 => h9) rfl dX9_requireCopy_4 ?_
  refine lv_iload_n hx hb dX9_requireCopy_7 rfl (lv_at hl 1 rfl) ?_
  refine fz_cVi (As := [.int p0]) (rest := []) S0 (c_copHas l A D k q f pa v p0 g_v_7) (fz_cwV (C := RX1) 1 hts fm_28 fm_29 fm_30 fm_31 fm_32 rfl rfl ⟨by decide, by decide, by decide +kernel⟩ ⟨Nat.le_of_ble_eq_true rfl, Nat.le_of_ble_eq_true rfl⟩) (va_recv hK hP (ci := 5) (q0 := 23) rfl rfl) (fun _ h9 => h9) (fun a9 h9 => hA a9 (Nat.le_trans hS.1 h9)) hG hS hP hK hD rfl hl.1 rfl (Nat.le_of_ble_eq_true rfl) dX9_requireCopy_8 ⟨Nat.le_of_ble_eq_true rfl, Nat.le_of_ble_eq_true rfl⟩ (fun r_1 u_1 H locs hw hz1 hk1 hP hS => ?_)
  have hP : va_P D vwCl (fz_WC k q f pa v) H := hP
  obtain rfl : r_1 = 0 := hw
  refine lv_if_ne (tgt := 25) hx hb dX9_requireCopy_11 (by decide) (fun c_2 => absurd (by decide) c_2) (fun c_2 => ?_)
  exact fz_throwW (cls := "java/lang/IndexOutOfBoundsException") (text := "no such copy") (names := fz_EN) (ik := 161) (is := 499) (ic := 165) hx hb hl0 hown hts hG (fz_fit_165) ⟨fm_16, fm_17⟩ (by decide) fz_at_165 fz_ok_165 hS (hl.1.trans hml.symm) dX9_requireCopy_14 dX9_requireCopy_17 dX9_requireCopy_18 dX9_requireCopy_21 dX9_requireCopy_24 ht hlocks ⟨Nat.le_of_ble_eq_true rfl, Nat.le_of_ble_eq_true rfl, Nat.le_of_ble_eq_true rfl, Nat.le_of_ble_eq_true rfl⟩ ⟨rfl, trivial⟩ ⟨Nat.le_of_ble_eq_true rfl, Nat.le_of_ble_eq_true rfl⟩

set_option maxHeartbeats 4000000 in
set_option maxRecDepth 100000 in
theorem c_reqRequest (l : Launch) (hl0 : l.stackTraces = false) (A : Nat → Prop) (D : va_G) (k : Nat → ClassId) (q : Nat → Nat) (f : Nat → Nat → Int32) (pa : Nat → Option Nat) (v : Nat → Int32) (p0 : Int32) (g_v_8 : v 8 = 0)  :
    vx_Met l yX9_requireRequest (fz_ws yX9_requireRequest cX9_requireRequest 2 none) { frames := 12, cells := 1, slots := 6, locals := 160 } (va_Pc [.ref (q 31), .int p0] (fz_PC A D (fz_tys k) (fz_WC k q f pa v))) (fz_QV D A (fun (_ : Unit) => fz_WC k q f pa v) (fun (_ : Unit) => False)) (fz_XC (fun E => (E = "java/lang/IndexOutOfBoundsException" ∧ True)) A) 1 6 A := by
  refine fz_ofX (by decide +kernel) (Nat.le_of_ble_eq_true rfl) ?_
  intro p e s m below meth c hx hb hr hml hown hlocks hts ht hA hP hK hD hG hS ls hl
  have hown : s.vm.findClass RX9 = some m.cls := hown
  have S0 : CallFix p m c cX9_requireRequest 2 s [.ref (q 31), .int p0].toArray (fz_ws yX9_requireRequest cX9_requireRequest 2 none) RX9 := ⟨hx, hb, hml, hown, hts⟩
  have hl : lv_has ls 2 [(0, .ref (q 31)), (1, .int p0)] := hl
  refine lv_iload_n hx hb dX9_requireRequest_0 rfl (lv_at hl 1 rfl) ?_
  refine lv_if_lt (tgt := 18) hx hb dX9_requireRequest_1 (by decide) (fun c_1 => ?_) (fun c_1 => ?_)
  · skip
    exact fz_throwW (cls := "java/lang/IndexOutOfBoundsException") (text := "no such request") (names := fz_EN) (ik := 161) (is := 501) (ic := 165) hx hb hl0 hown hts hG (fz_fit_165) ⟨fm_16, fm_17⟩ (by decide) fz_at_165 fz_ok_165 hS (hl.1.trans hml.symm) dX9_requireRequest_18 dX9_requireRequest_21 dX9_requireRequest_22 dX9_requireRequest_25 dX9_requireRequest_28 ht hlocks ⟨Nat.le_of_ble_eq_true rfl, Nat.le_of_ble_eq_true rfl, Nat.le_of_ble_eq_true rfl, Nat.le_of_ble_eq_true rfl⟩ ⟨rfl, trivial⟩ ⟨Nat.le_of_ble_eq_true rfl, Nat.le_of_ble_eq_true rfl⟩
  · skip
    refine lv_iload_n hx hb dX9_requireRequest_4 rfl (lv_at hl 1 rfl) ?_
    refine lv_aload_n hx hb dX9_requireRequest_5 rfl (lv_at hl 0 rfl) ?_
    refine va_get (D := D) (ci := 13) (v := .ref (q 0)) (C := RX9) (T := TX9) (N := 8) hx hb hts (fun w9 h9 => fz_m (fin_X9 w9 h9)) hown hK hP 31 rfl rfl 0 (by decide) (hts _ (fz_m fm_9)) (fun _ h9 => h9) rfl dX9_requireRequest_6 ?_
    refine va_get (D := D) (ci := 11) (v := .ref (q 26)) (C := RX7) (T := TX7) (N := 6) hx hb hts (fun w9 h9 => fz_m (fin_X7 w9 h9)) hown hK hP 0 rfl rfl 4 (by decide) (hts _ (fz_m fm_33)) (fun _ h9 => h9) rfl dX9_requireRequest_9 ?_
    refine va_get (D := D) (ci := 9) (v := .int (v 8)) (C := RX5) (T := TX5) (N := 5) hx hb hts (fun w9 h9 => fz_m (fin_X5 w9 h9)) hown hK hP 26 rfl rfl 0 (by decide) (hts _ (fz_m fm_34)) (fun _ h9 => h9) rfl dX9_requireRequest_12 ?_
    refine fz_I (y := 0) g_v_8 ?_
    refine lv_icmp_lt (tgt := 29) hx hb dX9_requireRequest_15 (by decide) (fun c_2 => (fq_29 p0 c_1 c_2).elim) (fun c_2 => ?_)
    exact fz_throwW (cls := "java/lang/IndexOutOfBoundsException") (text := "no such request") (names := fz_EN) (ik := 161) (is := 501) (ic := 165) hx hb hl0 hown hts hG (fz_fit_165) ⟨fm_16, fm_17⟩ (by decide) fz_at_165 fz_ok_165 hS (hl.1.trans hml.symm) dX9_requireRequest_18 dX9_requireRequest_21 dX9_requireRequest_22 dX9_requireRequest_25 dX9_requireRequest_28 ht hlocks ⟨Nat.le_of_ble_eq_true rfl, Nat.le_of_ble_eq_true rfl, Nat.le_of_ble_eq_true rfl, Nat.le_of_ble_eq_true rfl⟩ ⟨rfl, trivial⟩ ⟨Nat.le_of_ble_eq_true rfl, Nat.le_of_ble_eq_true rfl⟩

set_option maxHeartbeats 4000000 in
set_option maxRecDepth 100000 in
theorem c_reqPart (l : Launch) (hl0 : l.stackTraces = false) (A : Nat → Prop) (D : va_G) (k : Nat → ClassId) (q : Nat → Nat) (f : Nat → Nat → Int32) (pa : Nat → Option Nat) (v : Nat → Int32) (p0 p1 : Int32)   :
    vx_Met l yX9_requirePart (fz_ws yX9_requirePart cX9_requirePart 2 none) { frames := 12, cells := 1, slots := 6, locals := 160 } (va_Pc [.int p0, .int p1] (fz_PC A D (fz_tys k) (fz_WC k q f pa v))) (fz_QV D A (fun (_ : Unit) => fz_WC k q f pa v) (fun (_ : Unit) => (0 ≤ p0 ∧ p0 ≤ p1))) (fz_XC (fun E => (E = "java/lang/IllegalArgumentException" ∧ (p0 < 0 ∨ p1 < p0))) A) 1 6 A := by
  refine fz_ofX (by decide +kernel) (Nat.le_of_ble_eq_true rfl) ?_
  intro p e s m below meth c hx hb hr hml hown hlocks hts ht hA hP hK hD hG hS ls hl
  have hown : s.vm.findClass RX9 = some m.cls := hown
  have S0 : CallFix p m c cX9_requirePart 2 s [.int p0, .int p1].toArray (fz_ws yX9_requirePart cX9_requirePart 2 none) RX9 := ⟨hx, hb, hml, hown, hts⟩
  have hl : lv_has ls 2 [(0, .int p0), (1, .int p1)] := hl
  refine lv_iload_n hx hb dX9_requirePart_0 rfl (lv_at hl 0 rfl) ?_
  refine lv_if_lt (tgt := 9) hx hb dX9_requirePart_1 (by decide) (fun c_1 => ?_) (fun c_1 => ?_)
  · skip
    exact fz_throwW (cls := "java/lang/IllegalArgumentException") (text := "no such part") (names := fz_EN) (ik := 69) (is := 503) (ic := 73) hx hb hl0 hown hts hG (fz_fit_73) ⟨fm_19, fm_20⟩ (by decide) fz_at_73 fz_ok_73 hS (hl.1.trans hml.symm) dX9_requirePart_9 dX9_requirePart_12 dX9_requirePart_13 dX9_requirePart_16 dX9_requirePart_19 ht hlocks ⟨Nat.le_of_ble_eq_true rfl, Nat.le_of_ble_eq_true rfl, Nat.le_of_ble_eq_true rfl, Nat.le_of_ble_eq_true rfl⟩ ⟨rfl, (fq_30 p0 p1 c_1)⟩ ⟨Nat.le_of_ble_eq_true rfl, Nat.le_of_ble_eq_true rfl⟩
  · skip
    refine lv_iload_n hx hb dX9_requirePart_4 rfl (lv_at hl 0 rfl) ?_
    refine lv_iload_n hx hb dX9_requirePart_5 rfl (lv_at hl 1 rfl) ?_
    refine lv_icmp_le (tgt := 20) hx hb dX9_requirePart_6 (by decide) (fun c_2 => ?_) (fun c_2 => ?_)
    · skip
      exact vx_ret (fz_vret hx hb hr hlocks hS dX9_requirePart_20 () (fq_31 p0 p1 c_1 c_2) hP (Nat.le_of_ble_eq_true rfl) (Nat.le_of_ble_eq_true rfl))
    · skip
      exact fz_throwW (cls := "java/lang/IllegalArgumentException") (text := "no such part") (names := fz_EN) (ik := 69) (is := 503) (ic := 73) hx hb hl0 hown hts hG (fz_fit_73) ⟨fm_19, fm_20⟩ (by decide) fz_at_73 fz_ok_73 hS (hl.1.trans hml.symm) dX9_requirePart_9 dX9_requirePart_12 dX9_requirePart_13 dX9_requirePart_16 dX9_requirePart_19 ht hlocks ⟨Nat.le_of_ble_eq_true rfl, Nat.le_of_ble_eq_true rfl, Nat.le_of_ble_eq_true rfl, Nat.le_of_ble_eq_true rfl⟩ ⟨rfl, (fq_32 p0 p1 c_2)⟩ ⟨Nat.le_of_ble_eq_true rfl, Nat.le_of_ble_eq_true rfl⟩

set_option maxHeartbeats 4000000 in
set_option maxRecDepth 100000 in
theorem c_reqDay (l : Launch) (hl0 : l.stackTraces = false) (A : Nat → Prop) (D : va_G) (k : Nat → ClassId) (q : Nat → Nat) (f : Nat → Nat → Int32) (pa : Nat → Option Nat) (v : Nat → Int32) (p0 : Int32)   :
    vx_Met l yX9_requireDay (fz_ws yX9_requireDay cX9_requireDay 1 none) { frames := 12, cells := 1, slots := 6, locals := 160 } (va_Pc [.int p0] (fz_PC A D (fz_tys k) (fz_WC k q f pa v))) (fz_QV D A (fun (_ : Unit) => fz_WC k q f pa v) (fun (_ : Unit) => (0 ≤ p0 ∧ p0 ≤ 9999))) (fz_XC (fun E => (E = "java/lang/IllegalArgumentException" ∧ ¬ ((0 ≤ p0 ∧ p0 ≤ 9999)))) A) 1 6 A := by
  refine fz_ofX (by decide +kernel) (Nat.le_of_ble_eq_true rfl) ?_
  intro p e s m below meth c hx hb hr hml hown hlocks hts ht hA hP hK hD hG hS ls hl
  have hown : s.vm.findClass RX9 = some m.cls := hown
  have S0 : CallFix p m c cX9_requireDay 1 s [.int p0].toArray (fz_ws yX9_requireDay cX9_requireDay 1 none) RX9 := ⟨hx, hb, hml, hown, hts⟩
  have hl : lv_has ls 1 [(0, .int p0)] := hl
  refine lv_iload_n hx hb dX9_requireDay_0 rfl (lv_at hl 0 rfl) ?_
  refine fz_cSi (As := [.int p0]) (rest := []) S0 (c_isDay l A D k q f pa v p0) (fz_cwS 1 hts fm_3 fm_4 fm_5 fm_6 rfl rfl ⟨by decide, by decide, by decide +kernel⟩ ⟨Nat.le_of_ble_eq_true rfl, Nat.le_of_ble_eq_true rfl⟩) (fun _ h9 => h9) (fun a9 h9 => hA a9 (Nat.le_trans hS.1 h9)) hG hS hP hK hD rfl hl.1 rfl (Nat.le_of_ble_eq_true rfl) dX9_requireDay_1 ⟨Nat.le_of_ble_eq_true rfl, Nat.le_of_ble_eq_true rfl⟩ (fun r_1 u_1 H locs hw hz1 hk1 hP hS => ?_)
  have hP : va_P D vwCl (fz_WC k q f pa v) H := hP
  rcases (show (r_1 = 1 ∧ (0 ≤ p0 ∧ p0 ≤ 9999)) ∨ (r_1 = 0 ∧ ¬ ((0 ≤ p0 ∧ p0 ≤ 9999))) from hw) with ⟨rfl, hq_1⟩ | ⟨rfl, hq_1⟩
  · skip
    refine lv_if_ne (tgt := 18) hx hb dX9_requireDay_4 (by decide) (fun c_2 => ?_) (fun c_2 => absurd c_2 (by decide))
    exact vx_ret (fz_vret hx hb hr hlocks hS dX9_requireDay_18 () (fq_33 p0 hq_1) hP (Nat.le_of_ble_eq_true rfl) (Nat.le_of_ble_eq_true rfl))
  · skip
    refine lv_if_ne (tgt := 18) hx hb dX9_requireDay_4 (by decide) (fun c_3 => absurd (by decide) c_3) (fun c_3 => ?_)
    exact fz_throwW (cls := "java/lang/IllegalArgumentException") (text := "no such day") (names := fz_EN) (ik := 69) (is := 505) (ic := 73) hx hb hl0 hown hts hG (fz_fit_73) ⟨fm_19, fm_20⟩ (by decide) fz_at_73 fz_ok_73 hS (hl.1.trans hml.symm) dX9_requireDay_7 dX9_requireDay_10 dX9_requireDay_11 dX9_requireDay_14 dX9_requireDay_17 ht hlocks ⟨Nat.le_of_ble_eq_true rfl, Nat.le_of_ble_eq_true rfl, Nat.le_of_ble_eq_true rfl, Nat.le_of_ble_eq_true rfl⟩ ⟨rfl, (fq_34 p0 hq_1)⟩ ⟨Nat.le_of_ble_eq_true rfl, Nat.le_of_ble_eq_true rfl⟩

set_option maxHeartbeats 4000000 in
set_option maxRecDepth 100000 in
theorem c_reqCap (l : Launch) (hl0 : l.stackTraces = false) (A : Nat → Prop) (D : va_G) (k : Nat → ClassId) (q : Nat → Nat) (f : Nat → Nat → Int32) (pa : Nat → Option Nat) (v : Nat → Int32) (p0 : Int32)   :
    vx_Met l yX9_requireCapacity (fz_ws yX9_requireCapacity cX9_requireCapacity 1 none) { frames := 12, cells := 1, slots := 6, locals := 160 } (va_Pc [.int p0] (fz_PC A D (fz_tys k) (fz_WC k q f pa v))) (fz_QV D A (fun (_ : Unit) => fz_WC k q f pa v) (fun (_ : Unit) => (1 ≤ p0 ∧ p0 ≤ 200))) (fz_XC (fun E => (E = "java/lang/IllegalArgumentException" ∧ ¬ ((1 ≤ p0 ∧ p0 ≤ 200)))) A) 1 6 A := by
  refine fz_ofX (by decide +kernel) (Nat.le_of_ble_eq_true rfl) ?_
  intro p e s m below meth c hx hb hr hml hown hlocks hts ht hA hP hK hD hG hS ls hl
  have hown : s.vm.findClass RX9 = some m.cls := hown
  have S0 : CallFix p m c cX9_requireCapacity 1 s [.int p0].toArray (fz_ws yX9_requireCapacity cX9_requireCapacity 1 none) RX9 := ⟨hx, hb, hml, hown, hts⟩
  have hl : lv_has ls 1 [(0, .int p0)] := hl
  refine lv_iload_n hx hb dX9_requireCapacity_0 rfl (lv_at hl 0 rfl) ?_
  refine lv_iconst (v := 1) hx hb dX9_requireCapacity_1 (by decide) ?_
  refine lv_icmp_lt (tgt := 12) hx hb dX9_requireCapacity_2 (by decide) (fun c_1 => ?_) (fun c_1 => ?_)
  · skip
    exact fz_throwW (cls := "java/lang/IllegalArgumentException") (text := "no such capacity") (names := fz_EN) (ik := 69) (is := 507) (ic := 73) hx hb hl0 hown hts hG (fz_fit_73) ⟨fm_19, fm_20⟩ (by decide) fz_at_73 fz_ok_73 hS (hl.1.trans hml.symm) dX9_requireCapacity_12 dX9_requireCapacity_15 dX9_requireCapacity_16 dX9_requireCapacity_19 dX9_requireCapacity_22 ht hlocks ⟨Nat.le_of_ble_eq_true rfl, Nat.le_of_ble_eq_true rfl, Nat.le_of_ble_eq_true rfl, Nat.le_of_ble_eq_true rfl⟩ ⟨rfl, (fq_35 p0 c_1)⟩ ⟨Nat.le_of_ble_eq_true rfl, Nat.le_of_ble_eq_true rfl⟩
  · skip
    refine lv_iload_n hx hb dX9_requireCapacity_5 rfl (lv_at hl 0 rfl) ?_
    refine lv_sipush (v := 200) hx hb dX9_requireCapacity_6 (by decide) ?_
    refine lv_icmp_le (tgt := 23) hx hb dX9_requireCapacity_9 (by decide) (fun c_2 => ?_) (fun c_2 => ?_)
    · skip
      exact vx_ret (fz_vret hx hb hr hlocks hS dX9_requireCapacity_23 () (fq_36 p0 c_1 c_2) hP (Nat.le_of_ble_eq_true rfl) (Nat.le_of_ble_eq_true rfl))
    · skip
      exact fz_throwW (cls := "java/lang/IllegalArgumentException") (text := "no such capacity") (names := fz_EN) (ik := 69) (is := 507) (ic := 73) hx hb hl0 hown hts hG (fz_fit_73) ⟨fm_19, fm_20⟩ (by decide) fz_at_73 fz_ok_73 hS (hl.1.trans hml.symm) dX9_requireCapacity_12 dX9_requireCapacity_15 dX9_requireCapacity_16 dX9_requireCapacity_19 dX9_requireCapacity_22 ht hlocks ⟨Nat.le_of_ble_eq_true rfl, Nat.le_of_ble_eq_true rfl, Nat.le_of_ble_eq_true rfl, Nat.le_of_ble_eq_true rfl⟩ ⟨rfl, (fq_37 p0 c_2)⟩ ⟨Nat.le_of_ble_eq_true rfl, Nat.le_of_ble_eq_true rfl⟩

set_option maxHeartbeats 4000000 in
set_option maxRecDepth 100000 in
theorem c_latestDay (l : Launch) (A : Nat → Prop) (D : va_G) (k : Nat → ClassId) (q : Nat → Nat) (f : Nat → Nat → Int32) (pa : Nat → Option Nat) (v : Nat → Int32) (g_v_2 : v 2 = 1) (g_f_6_0 : f 6 0 = 0) (g_f_2_0 : f 2 0 = 0) (g_f_9_0 : f 9 0 = (-1))  :
    Met l yX8_latestDay (fz_ws yX8_latestDay cX8_latestDay 6 (some .int)) { frames := 12, cells := 0, slots := 0, locals := 160 } (va_Pc [.ref (q 1), .int 0] (fz_PC A D (fz_tys k) (fz_WC k q f pa v))) (fz_QI D A (fun (_ : Unit) => fz_WC k q f pa v) (fun (r : Int32) (_ : Unit) => r = (-1))) 0 0 A := by
  refine fz_of (by decide +kernel) (Nat.le_of_ble_eq_true rfl) ?_
  intro p e s m below meth c hx hb hr hml hown hlocks hts hin hA hP hK hD hG hS ls hl
  have hown : s.vm.findClass RX8 = some m.cls := hown
  have S0 : CallFix p m c cX8_latestDay 6 s [.ref (q 1), .int 0].toArray (fz_ws yX8_latestDay cX8_latestDay 6 (some .int)) RX8 := ⟨hx, hb, hml, hown, hts⟩
  have hl : lv_has ls 6 [(0, .ref (q 1)), (1, .int 0)] := hl
  refine lv_aload_n hx hb dX8_latestDay_0 rfl (lv_at hl 0 rfl) ?_
  refine lv_iload_n hx hb dX8_latestDay_1 rfl (lv_at hl 1 rfl) ?_
  refine fz_cVi (As := [.int 0]) (rest := []) S0 (c_place l A D k q f pa v 0 g_v_2) (fz_cwV (C := RX8) 1 hts fm_35 fm_36 fm_37 fm_38 fm_15 rfl rfl ⟨by decide, by decide, by decide +kernel⟩ ⟨Nat.le_of_ble_eq_true rfl, Nat.le_of_ble_eq_true rfl⟩) (va_recv hK hP (ci := 12) (q0 := 1) rfl rfl) (fun _ h9 => h9) (fun a9 h9 => hA a9 (Nat.le_trans hS.1 h9)) hG hS hP hK hD rfl hl.1 rfl (Nat.le_of_ble_eq_true rfl) dX8_latestDay_2 ⟨Nat.le_of_ble_eq_true rfl, Nat.le_of_ble_eq_true rfl⟩ (fun r_1 u_1 H locs hw hz1 hk1 hP hS => ?_)
  have hP : va_P D vwCl (fz_WC k q f pa v) H := hP
  obtain rfl : r_1 = 0 := hw
  refine lv_istore_n (lv' := [(2, .int 0), (0, .ref (q 1)), (1, .int 0)]) hx hb dX8_latestDay_5 rfl hl (by decide) rfl (fun ls hl => ?_)
  refine lv_iload_n hx hb dX8_latestDay_6 rfl (lv_at hl 0 rfl) ?_
  refine lv_aload_n hx hb dX8_latestDay_7 rfl (lv_at hl 1 rfl) ?_
  refine va_get (D := D) (ci := 12) (v := .ref (q 6)) (C := RX8) (T := TX8) (N := 10) hx hb hts (fun w9 h9 => fz_m (fin_X8 w9 h9)) hown hK hP 1 rfl rfl 6 (by decide) (hts _ (fz_m fm_39)) (fun _ h9 => h9) rfl dX8_latestDay_8 ?_
  refine lv_iload_n hx hb dX8_latestDay_11 rfl (lv_at hl 2 rfl) ?_
  refine va_iald hx hb hK hP 6 0 rfl rfl (fz_vin (by decide)) dX8_latestDay_12 ?_
  refine fz_I (y := 0) g_f_6_0 ?_
  refine lv_iadd hx hb dX8_latestDay_13 ?_
  refine fz_I (y := 0) (by decide) ?_
  refine lv_istore_n (lv' := [(3, .int 0), (2, .int 0), (0, .ref (q 1)), (1, .int 0)]) hx hb dX8_latestDay_14 rfl hl (by decide) rfl (fun ls hl => ?_)
  refine lv_iconst (v := (-1)) hx hb dX8_latestDay_15 (by decide) ?_
  refine lv_istore (lv' := [(4, .int (-1)), (3, .int 0), (2, .int 0), (0, .ref (q 1)), (1, .int 0)]) hx hb dX8_latestDay_16 hl (by decide) rfl (fun ls hl => ?_)
  refine lv_iload_n hx hb dX8_latestDay_18 rfl (lv_at hl 2 rfl) ?_
  refine lv_istore (lv' := [(5, .int 0), (4, .int (-1)), (3, .int 0), (2, .int 0), (0, .ref (q 1)), (1, .int 0)]) hx hb dX8_latestDay_19 hl (by decide) rfl (fun ls hl => ?_)
  refine lv_iload hx hb dX8_latestDay_21 (lv_at hl 0 rfl) ?_
  refine lv_iload_n hx hb dX8_latestDay_23 rfl (lv_at hl 2 rfl) ?_
  refine lv_icmp_gt (tgt := 52) hx hb dX8_latestDay_24 (by decide) (fun c_2 => absurd c_2 (by decide)) (fun c_2 => ?_)
  refine lv_iload hx hb dX8_latestDay_27 (lv_at hl 1 rfl) ?_
  refine lv_aload_n hx hb dX8_latestDay_29 rfl (lv_at hl 4 rfl) ?_
  refine va_get (D := D) (ci := 12) (v := .ref (q 9)) (C := RX8) (T := TX8) (N := 10) hx hb hts (fun w9 h9 => fz_m (fin_X8 w9 h9)) hown hK hP 1 rfl rfl 9 (by decide) (hts _ (fz_m fm_40)) (fun _ h9 => h9) rfl dX8_latestDay_30 ?_
  refine lv_aload_n hx hb dX8_latestDay_33 rfl (lv_at hl 4 rfl) ?_
  refine va_get (D := D) (ci := 12) (v := .ref (q 2)) (C := RX8) (T := TX8) (N := 10) hx hb hts (fun w9 h9 => fz_m (fin_X8 w9 h9)) hown hK hP 1 rfl rfl 2 (by decide) (hts _ (fz_m fm_41)) (fun _ h9 => h9) rfl dX8_latestDay_34 ?_
  refine lv_iload hx hb dX8_latestDay_37 (lv_at hl 0 rfl) ?_
  refine va_iald hx hb hK hP 2 0 rfl rfl (fz_vin (by decide)) dX8_latestDay_39 ?_
  refine fz_I (y := 0) g_f_2_0 ?_
  refine va_iald hx hb hK hP 9 0 rfl rfl (fz_vin (by decide)) dX8_latestDay_40 ?_
  refine fz_I (y := (-1)) g_f_9_0 ?_
  refine va_mmax hx hb (hml.trans hl.1.symm) hown (hts _ (fz_m fm_42)) (hts _ (fz_m fm_43)) (hts _ (fz_m fm_44)) (hts _ (fz_m fm_45)) (Nat.le_of_ble_eq_true rfl) (Nat.le_of_ble_eq_true rfl) (Nat.le_of_ble_eq_true rfl) (Nat.le_of_ble_eq_true rfl) dX8_latestDay_41 ?_
  refine fz_I (y := (-1)) (by decide) ?_
  refine lv_istore (lv' := [(4, .int (-1)), (5, .int 0), (3, .int 0), (2, .int 0), (0, .ref (q 1)), (1, .int 0)]) hx hb dX8_latestDay_44 hl (by decide) rfl (fun ls hl => ?_)
  refine lv_iinc (v := 1) (lv' := [(5, .int 1), (4, .int (-1)), (3, .int 0), (2, .int 0), (0, .ref (q 1)), (1, .int 0)]) hx hb dX8_latestDay_46 hl (k := 1) rfl (by decide) (by decide) rfl (fun ls hl => ?_)
  refine lv_goto (tgt := 21) hx hb dX8_latestDay_49 (by decide) ?_
  refine lv_iload hx hb dX8_latestDay_21 (lv_at hl 0 rfl) ?_
  refine lv_iload_n hx hb dX8_latestDay_23 rfl (lv_at hl 2 rfl) ?_
  refine lv_icmp_gt (tgt := 52) hx hb dX8_latestDay_24 (by decide) (fun c_3 => ?_) (fun c_3 => absurd (by decide) c_3)
  refine lv_iload hx hb dX8_latestDay_52 (lv_at hl 1 rfl) ?_
  exact fz_iret hx hb hr rfl hlocks hS dX8_latestDay_54 () rfl hP (Nat.le_of_ble_eq_true rfl) (Nat.le_of_ble_eq_true rfl)

set_option maxHeartbeats 4000000 in
set_option maxRecDepth 100000 in
theorem c_countPages (l : Launch) (A : Nat → Prop) (D : va_G) (k : Nat → ClassId) (q : Nat → Nat) (f : Nat → Nat → Int32) (pa : Nat → Option Nat) (v : Nat → Int32) (g_v_2 : v 2 = 1) (g_f_6_0 : f 6 0 = 0) (g_f_2_0 : f 2 0 = 0) (g_f_7_0 : f 7 0 = 0)  :
    Met l yX8_countPages (fz_ws yX8_countPages cX8_countPages 6 (some .int)) { frames := 12, cells := 0, slots := 0, locals := 160 } (va_Pc [.ref (q 1), .int 0] (fz_PC A D (fz_tys k) (fz_WC k q f pa v))) (fz_QI D A (fun (_ : Unit) => fz_WC k q f pa v) (fun (r : Int32) (_ : Unit) => r = 0)) 0 0 A := by
  refine fz_of (by decide +kernel) (Nat.le_of_ble_eq_true rfl) ?_
  intro p e s m below meth c hx hb hr hml hown hlocks hts hin hA hP hK hD hG hS ls hl
  have hown : s.vm.findClass RX8 = some m.cls := hown
  have S0 : CallFix p m c cX8_countPages 6 s [.ref (q 1), .int 0].toArray (fz_ws yX8_countPages cX8_countPages 6 (some .int)) RX8 := ⟨hx, hb, hml, hown, hts⟩
  have hl : lv_has ls 6 [(0, .ref (q 1)), (1, .int 0)] := hl
  refine lv_aload_n hx hb dX8_countPages_0 rfl (lv_at hl 0 rfl) ?_
  refine lv_iload_n hx hb dX8_countPages_1 rfl (lv_at hl 1 rfl) ?_
  refine fz_cVi (As := [.int 0]) (rest := []) S0 (c_place l A D k q f pa v 0 g_v_2) (fz_cwV (C := RX8) 1 hts fm_35 fm_36 fm_37 fm_38 fm_15 rfl rfl ⟨by decide, by decide, by decide +kernel⟩ ⟨Nat.le_of_ble_eq_true rfl, Nat.le_of_ble_eq_true rfl⟩) (va_recv hK hP (ci := 12) (q0 := 1) rfl rfl) (fun _ h9 => h9) (fun a9 h9 => hA a9 (Nat.le_trans hS.1 h9)) hG hS hP hK hD rfl hl.1 rfl (Nat.le_of_ble_eq_true rfl) dX8_countPages_2 ⟨Nat.le_of_ble_eq_true rfl, Nat.le_of_ble_eq_true rfl⟩ (fun r_1 u_1 H locs hw hz1 hk1 hP hS => ?_)
  have hP : va_P D vwCl (fz_WC k q f pa v) H := hP
  obtain rfl : r_1 = 0 := hw
  refine lv_istore_n (lv' := [(2, .int 0), (0, .ref (q 1)), (1, .int 0)]) hx hb dX8_countPages_5 rfl hl (by decide) rfl (fun ls hl => ?_)
  refine lv_iload_n hx hb dX8_countPages_6 rfl (lv_at hl 0 rfl) ?_
  refine lv_aload_n hx hb dX8_countPages_7 rfl (lv_at hl 1 rfl) ?_
  refine va_get (D := D) (ci := 12) (v := .ref (q 6)) (C := RX8) (T := TX8) (N := 10) hx hb hts (fun w9 h9 => fz_m (fin_X8 w9 h9)) hown hK hP 1 rfl rfl 6 (by decide) (hts _ (fz_m fm_39)) (fun _ h9 => h9) rfl dX8_countPages_8 ?_
  refine lv_iload_n hx hb dX8_countPages_11 rfl (lv_at hl 2 rfl) ?_
  refine va_iald hx hb hK hP 6 0 rfl rfl (fz_vin (by decide)) dX8_countPages_12 ?_
  refine fz_I (y := 0) g_f_6_0 ?_
  refine lv_iadd hx hb dX8_countPages_13 ?_
  refine fz_I (y := 0) (by decide) ?_
  refine lv_istore_n (lv' := [(3, .int 0), (2, .int 0), (0, .ref (q 1)), (1, .int 0)]) hx hb dX8_countPages_14 rfl hl (by decide) rfl (fun ls hl => ?_)
  refine lv_iconst (v := 0) hx hb dX8_countPages_15 (by decide) ?_
  refine lv_istore (lv' := [(4, .int 0), (3, .int 0), (2, .int 0), (0, .ref (q 1)), (1, .int 0)]) hx hb dX8_countPages_16 hl (by decide) rfl (fun ls hl => ?_)
  refine lv_iload_n hx hb dX8_countPages_18 rfl (lv_at hl 2 rfl) ?_
  refine lv_istore (lv' := [(5, .int 0), (4, .int 0), (3, .int 0), (2, .int 0), (0, .ref (q 1)), (1, .int 0)]) hx hb dX8_countPages_19 hl (by decide) rfl (fun ls hl => ?_)
  refine lv_iload hx hb dX8_countPages_21 (lv_at hl 0 rfl) ?_
  refine lv_iload_n hx hb dX8_countPages_23 rfl (lv_at hl 2 rfl) ?_
  refine lv_icmp_gt (tgt := 50) hx hb dX8_countPages_24 (by decide) (fun c_2 => absurd c_2 (by decide)) (fun c_2 => ?_)
  refine lv_iload hx hb dX8_countPages_27 (lv_at hl 1 rfl) ?_
  refine lv_aload_n hx hb dX8_countPages_29 rfl (lv_at hl 4 rfl) ?_
  refine va_get (D := D) (ci := 12) (v := .ref (q 7)) (C := RX8) (T := TX8) (N := 10) hx hb hts (fun w9 h9 => fz_m (fin_X8 w9 h9)) hown hK hP 1 rfl rfl 7 (by decide) (hts _ (fz_m fm_46)) (fun _ h9 => h9) rfl dX8_countPages_30 ?_
  refine lv_aload_n hx hb dX8_countPages_33 rfl (lv_at hl 4 rfl) ?_
  refine va_get (D := D) (ci := 12) (v := .ref (q 2)) (C := RX8) (T := TX8) (N := 10) hx hb hts (fun w9 h9 => fz_m (fin_X8 w9 h9)) hown hK hP 1 rfl rfl 2 (by decide) (hts _ (fz_m fm_41)) (fun _ h9 => h9) rfl dX8_countPages_34 ?_
  refine lv_iload hx hb dX8_countPages_37 (lv_at hl 0 rfl) ?_
  refine va_iald hx hb hK hP 2 0 rfl rfl (fz_vin (by decide)) dX8_countPages_39 ?_
  refine fz_I (y := 0) g_f_2_0 ?_
  refine va_iald hx hb hK hP 7 0 rfl rfl (fz_vin (by decide)) dX8_countPages_40 ?_
  refine fz_I (y := 0) g_f_7_0 ?_
  refine lv_iadd hx hb dX8_countPages_41 ?_
  refine fz_I (y := 0) (by decide) ?_
  refine lv_istore (lv' := [(4, .int 0), (5, .int 0), (3, .int 0), (2, .int 0), (0, .ref (q 1)), (1, .int 0)]) hx hb dX8_countPages_42 hl (by decide) rfl (fun ls hl => ?_)
  refine lv_iinc (v := 1) (lv' := [(5, .int 1), (4, .int 0), (3, .int 0), (2, .int 0), (0, .ref (q 1)), (1, .int 0)]) hx hb dX8_countPages_44 hl (k := 1) rfl (by decide) (by decide) rfl (fun ls hl => ?_)
  refine lv_goto (tgt := 21) hx hb dX8_countPages_47 (by decide) ?_
  refine lv_iload hx hb dX8_countPages_21 (lv_at hl 0 rfl) ?_
  refine lv_iload_n hx hb dX8_countPages_23 rfl (lv_at hl 2 rfl) ?_
  refine lv_icmp_gt (tgt := 50) hx hb dX8_countPages_24 (by decide) (fun c_3 => ?_) (fun c_3 => absurd (by decide) c_3)
  refine lv_iload hx hb dX8_countPages_50 (lv_at hl 1 rfl) ?_
  exact fz_iret hx hb hr rfl hlocks hS dX8_countPages_52 () rfl hP (Nat.le_of_ble_eq_true rfl) (Nat.le_of_ble_eq_true rfl)

set_option maxHeartbeats 4000000 in
set_option maxRecDepth 100000 in
theorem c_countUnits (l : Launch) (A : Nat → Prop) (D : va_G) (k : Nat → ClassId) (q : Nat → Nat) (f : Nat → Nat → Int32) (pa : Nat → Option Nat) (v : Nat → Int32) (g_v_2 : v 2 = 1) (g_f_2_0 : f 2 0 = 0) (g_f_7_0 : f 7 0 = 0)  :
    Met l yX8_countUnits (fz_ws yX8_countUnits cX8_countUnits 3 (some .int)) { frames := 0, cells := 0, slots := 0, locals := 0 } (va_Pc [.ref (q 1)] (fz_PC A D (fz_tys k) (fz_WC k q f pa v))) (fz_QI D A (fun (_ : Unit) => fz_WC k q f pa v) (fun (r : Int32) (_ : Unit) => r = 0)) 0 0 A := by
  refine fz_of (by decide +kernel) (Nat.le_of_ble_eq_true rfl) ?_
  intro p e s m below meth c hx hb hr hml hown hlocks hts hin hA hP hK hD hG hS ls hl
  have hown : s.vm.findClass RX8 = some m.cls := hown
  have S0 : CallFix p m c cX8_countUnits 3 s [.ref (q 1)].toArray (fz_ws yX8_countUnits cX8_countUnits 3 (some .int)) RX8 := ⟨hx, hb, hml, hown, hts⟩
  have hl : lv_has ls 3 [(0, .ref (q 1))] := hl
  refine lv_iconst (v := 0) hx hb dX8_countUnits_0 (by decide) ?_
  refine lv_istore_n (lv' := [(1, .int 0), (0, .ref (q 1))]) hx hb dX8_countUnits_1 rfl hl (by decide) rfl (fun ls hl => ?_)
  refine lv_iconst (v := 0) hx hb dX8_countUnits_2 (by decide) ?_
  refine lv_istore_n (lv' := [(2, .int 0), (1, .int 0), (0, .ref (q 1))]) hx hb dX8_countUnits_3 rfl hl (by decide) rfl (fun ls hl => ?_)
  refine lv_iload_n hx hb dX8_countUnits_4 rfl (lv_at hl 0 rfl) ?_
  refine lv_aload_n hx hb dX8_countUnits_5 rfl (lv_at hl 2 rfl) ?_
  refine va_get (D := D) (ci := 12) (v := .int (v 2)) (C := RX8) (T := TX8) (N := 10) hx hb hts (fun w9 h9 => fz_m (fin_X8 w9 h9)) hown hK hP 1 rfl rfl 1 (by decide) (hts _ (fz_m fm_2)) (fun _ h9 => h9) rfl dX8_countUnits_6 ?_
  refine fz_I (y := 1) g_v_2 ?_
  refine lv_icmp_ge (tgt := 35) hx hb dX8_countUnits_9 (by decide) (fun c_1 => absurd c_1 (by decide)) (fun c_1 => ?_)
  refine lv_aload_n hx hb dX8_countUnits_12 rfl (lv_at hl 2 rfl) ?_
  refine va_get (D := D) (ci := 12) (v := .ref (q 7)) (C := RX8) (T := TX8) (N := 10) hx hb hts (fun w9 h9 => fz_m (fin_X8 w9 h9)) hown hK hP 1 rfl rfl 7 (by decide) (hts _ (fz_m fm_46)) (fun _ h9 => h9) rfl dX8_countUnits_13 ?_
  refine lv_aload_n hx hb dX8_countUnits_16 rfl (lv_at hl 2 rfl) ?_
  refine va_get (D := D) (ci := 12) (v := .ref (q 2)) (C := RX8) (T := TX8) (N := 10) hx hb hts (fun w9 h9 => fz_m (fin_X8 w9 h9)) hown hK hP 1 rfl rfl 2 (by decide) (hts _ (fz_m fm_41)) (fun _ h9 => h9) rfl dX8_countUnits_17 ?_
  refine lv_iload_n hx hb dX8_countUnits_20 rfl (lv_at hl 0 rfl) ?_
  refine va_iald hx hb hK hP 2 0 rfl rfl (fz_vin (by decide)) dX8_countUnits_21 ?_
  refine fz_I (y := 0) g_f_2_0 ?_
  refine va_iald hx hb hK hP 7 0 rfl rfl (fz_vin (by decide)) dX8_countUnits_22 ?_
  refine fz_I (y := 0) g_f_7_0 ?_
  refine lv_if_le (tgt := 29) hx hb dX8_countUnits_23 (by decide) (fun c_2 => ?_) (fun c_2 => absurd (by decide) c_2)
  refine lv_iinc (v := 1) (lv' := [(2, .int 1), (1, .int 0), (0, .ref (q 1))]) hx hb dX8_countUnits_29 hl (k := 0) rfl (by decide) (by decide) rfl (fun ls hl => ?_)
  refine lv_goto (tgt := 4) hx hb dX8_countUnits_32 (by decide) ?_
  refine lv_iload_n hx hb dX8_countUnits_4 rfl (lv_at hl 0 rfl) ?_
  refine lv_aload_n hx hb dX8_countUnits_5 rfl (lv_at hl 2 rfl) ?_
  refine va_get (D := D) (ci := 12) (v := .int (v 2)) (C := RX8) (T := TX8) (N := 10) hx hb hts (fun w9 h9 => fz_m (fin_X8 w9 h9)) hown hK hP 1 rfl rfl 1 (by decide) (hts _ (fz_m fm_2)) (fun _ h9 => h9) rfl dX8_countUnits_6 ?_
  refine fz_I (y := 1) g_v_2 ?_
  refine lv_icmp_ge (tgt := 35) hx hb dX8_countUnits_9 (by decide) (fun c_3 => ?_) (fun c_3 => absurd (by decide) c_3)
  refine lv_iload_n hx hb dX8_countUnits_35 rfl (lv_at hl 1 rfl) ?_
  exact fz_iret hx hb hr rfl hlocks hS dX8_countUnits_36 () rfl hP (Nat.le_of_ble_eq_true rfl) (Nat.le_of_ble_eq_true rfl)

set_option maxHeartbeats 4000000 in
set_option maxRecDepth 100000 in
theorem c_countChildren (l : Launch) (A : Nat → Prop) (D : va_G) (k : Nat → ClassId) (q : Nat → Nat) (f : Nat → Nat → Int32) (pa : Nat → Option Nat) (v : Nat → Int32) (g_v_2 : v 2 = 1) (g_f_2_0 : f 2 0 = 0) (g_f_5_0 : f 5 0 = (-1))  :
    Met l yX8_countChildren (fz_ws yX8_countChildren cX8_countChildren 4 (some .int)) { frames := 0, cells := 0, slots := 0, locals := 0 } (va_Pc [.ref (q 1), .int 0] (fz_PC A D (fz_tys k) (fz_WC k q f pa v))) (fz_QI D A (fun (_ : Unit) => fz_WC k q f pa v) (fun (r : Int32) (_ : Unit) => r = 0)) 0 0 A := by
  refine fz_of (by decide +kernel) (Nat.le_of_ble_eq_true rfl) ?_
  intro p e s m below meth c hx hb hr hml hown hlocks hts hin hA hP hK hD hG hS ls hl
  have hown : s.vm.findClass RX8 = some m.cls := hown
  have S0 : CallFix p m c cX8_countChildren 4 s [.ref (q 1), .int 0].toArray (fz_ws yX8_countChildren cX8_countChildren 4 (some .int)) RX8 := ⟨hx, hb, hml, hown, hts⟩
  have hl : lv_has ls 4 [(0, .ref (q 1)), (1, .int 0)] := hl
  refine lv_iconst (v := 0) hx hb dX8_countChildren_0 (by decide) ?_
  refine lv_istore_n (lv' := [(2, .int 0), (0, .ref (q 1)), (1, .int 0)]) hx hb dX8_countChildren_1 rfl hl (by decide) rfl (fun ls hl => ?_)
  refine lv_iconst (v := 0) hx hb dX8_countChildren_2 (by decide) ?_
  refine lv_istore_n (lv' := [(3, .int 0), (2, .int 0), (0, .ref (q 1)), (1, .int 0)]) hx hb dX8_countChildren_3 rfl hl (by decide) rfl (fun ls hl => ?_)
  refine lv_iload_n hx hb dX8_countChildren_4 rfl (lv_at hl 0 rfl) ?_
  refine lv_aload_n hx hb dX8_countChildren_5 rfl (lv_at hl 2 rfl) ?_
  refine va_get (D := D) (ci := 12) (v := .int (v 2)) (C := RX8) (T := TX8) (N := 10) hx hb hts (fun w9 h9 => fz_m (fin_X8 w9 h9)) hown hK hP 1 rfl rfl 1 (by decide) (hts _ (fz_m fm_2)) (fun _ h9 => h9) rfl dX8_countChildren_6 ?_
  refine fz_I (y := 1) g_v_2 ?_
  refine lv_icmp_ge (tgt := 36) hx hb dX8_countChildren_9 (by decide) (fun c_1 => absurd c_1 (by decide)) (fun c_1 => ?_)
  refine lv_aload_n hx hb dX8_countChildren_12 rfl (lv_at hl 2 rfl) ?_
  refine va_get (D := D) (ci := 12) (v := .ref (q 5)) (C := RX8) (T := TX8) (N := 10) hx hb hts (fun w9 h9 => fz_m (fin_X8 w9 h9)) hown hK hP 1 rfl rfl 5 (by decide) (hts _ (fz_m fm_47)) (fun _ h9 => h9) rfl dX8_countChildren_13 ?_
  refine lv_aload_n hx hb dX8_countChildren_16 rfl (lv_at hl 2 rfl) ?_
  refine va_get (D := D) (ci := 12) (v := .ref (q 2)) (C := RX8) (T := TX8) (N := 10) hx hb hts (fun w9 h9 => fz_m (fin_X8 w9 h9)) hown hK hP 1 rfl rfl 2 (by decide) (hts _ (fz_m fm_41)) (fun _ h9 => h9) rfl dX8_countChildren_17 ?_
  refine lv_iload_n hx hb dX8_countChildren_20 rfl (lv_at hl 0 rfl) ?_
  refine va_iald hx hb hK hP 2 0 rfl rfl (fz_vin (by decide)) dX8_countChildren_21 ?_
  refine fz_I (y := 0) g_f_2_0 ?_
  refine va_iald hx hb hK hP 5 0 rfl rfl (fz_vin (by decide)) dX8_countChildren_22 ?_
  refine fz_I (y := (-1)) g_f_5_0 ?_
  refine lv_iload_n hx hb dX8_countChildren_23 rfl (lv_at hl 3 rfl) ?_
  refine lv_icmp_ne (tgt := 30) hx hb dX8_countChildren_24 (by decide) (fun c_2 => ?_) (fun c_2 => absurd c_2 (by decide))
  refine lv_iinc (v := 1) (lv' := [(3, .int 1), (2, .int 0), (0, .ref (q 1)), (1, .int 0)]) hx hb dX8_countChildren_30 hl (k := 0) rfl (by decide) (by decide) rfl (fun ls hl => ?_)
  refine lv_goto (tgt := 4) hx hb dX8_countChildren_33 (by decide) ?_
  refine lv_iload_n hx hb dX8_countChildren_4 rfl (lv_at hl 0 rfl) ?_
  refine lv_aload_n hx hb dX8_countChildren_5 rfl (lv_at hl 2 rfl) ?_
  refine va_get (D := D) (ci := 12) (v := .int (v 2)) (C := RX8) (T := TX8) (N := 10) hx hb hts (fun w9 h9 => fz_m (fin_X8 w9 h9)) hown hK hP 1 rfl rfl 1 (by decide) (hts _ (fz_m fm_2)) (fun _ h9 => h9) rfl dX8_countChildren_6 ?_
  refine fz_I (y := 1) g_v_2 ?_
  refine lv_icmp_ge (tgt := 36) hx hb dX8_countChildren_9 (by decide) (fun c_3 => ?_) (fun c_3 => absurd (by decide) c_3)
  refine lv_iload_n hx hb dX8_countChildren_36 rfl (lv_at hl 1 rfl) ?_
  exact fz_iret hx hb hr rfl hlocks hS dX8_countChildren_37 () rfl hP (Nat.le_of_ble_eq_true rfl) (Nat.le_of_ble_eq_true rfl)

set_option maxHeartbeats 4000000 in
set_option maxRecDepth 100000 in
theorem c_findChild (l : Launch) (A : Nat → Prop) (D : va_G) (k : Nat → ClassId) (q : Nat → Nat) (f : Nat → Nat → Int32) (pa : Nat → Option Nat) (v : Nat → Int32) (p0 : Int32) (g_v_2 : v 2 = 1) (g_f_2_0 : f 2 0 = 0) (g_f_5_0 : f 5 0 = (-1))  :
    Met l yX8_findChild (fz_ws yX8_findChild cX8_findChild 5 (some .int)) { frames := 0, cells := 0, slots := 0, locals := 0 } (va_Pc [.ref (q 1), .int 0, .int p0] (fz_PC A D (fz_tys k) (fz_WC k q f pa v))) (fz_QI D A (fun (_ : Unit) => fz_WC k q f pa v) (fun (r : Int32) (_ : Unit) => r = (-1))) 0 0 A := by
  refine fz_of (by decide +kernel) (Nat.le_of_ble_eq_true rfl) ?_
  intro p e s m below meth c hx hb hr hml hown hlocks hts hin hA hP hK hD hG hS ls hl
  have hown : s.vm.findClass RX8 = some m.cls := hown
  have S0 : CallFix p m c cX8_findChild 5 s [.ref (q 1), .int 0, .int p0].toArray (fz_ws yX8_findChild cX8_findChild 5 (some .int)) RX8 := ⟨hx, hb, hml, hown, hts⟩
  have hl : lv_has ls 5 [(0, .ref (q 1)), (1, .int 0), (2, .int p0)] := hl
  refine lv_iconst (v := 0) hx hb dX8_findChild_0 (by decide) ?_
  refine lv_istore_n (lv' := [(3, .int 0), (0, .ref (q 1)), (1, .int 0), (2, .int p0)]) hx hb dX8_findChild_1 rfl hl (by decide) rfl (fun ls hl => ?_)
  refine lv_iconst (v := 0) hx hb dX8_findChild_2 (by decide) ?_
  refine lv_istore (lv' := [(4, .int 0), (3, .int 0), (0, .ref (q 1)), (1, .int 0), (2, .int p0)]) hx hb dX8_findChild_3 hl (by decide) rfl (fun ls hl => ?_)
  refine lv_iload hx hb dX8_findChild_5 (lv_at hl 0 rfl) ?_
  refine lv_aload_n hx hb dX8_findChild_7 rfl (lv_at hl 2 rfl) ?_
  refine va_get (D := D) (ci := 12) (v := .int (v 2)) (C := RX8) (T := TX8) (N := 10) hx hb hts (fun w9 h9 => fz_m (fin_X8 w9 h9)) hown hK hP 1 rfl rfl 1 (by decide) (hts _ (fz_m fm_2)) (fun _ h9 => h9) rfl dX8_findChild_8 ?_
  refine fz_I (y := 1) g_v_2 ?_
  refine lv_icmp_ge (tgt := 52) hx hb dX8_findChild_11 (by decide) (fun c_1 => absurd c_1 (by decide)) (fun c_1 => ?_)
  refine lv_aload_n hx hb dX8_findChild_14 rfl (lv_at hl 2 rfl) ?_
  refine va_get (D := D) (ci := 12) (v := .ref (q 5)) (C := RX8) (T := TX8) (N := 10) hx hb hts (fun w9 h9 => fz_m (fin_X8 w9 h9)) hown hK hP 1 rfl rfl 5 (by decide) (hts _ (fz_m fm_47)) (fun _ h9 => h9) rfl dX8_findChild_15 ?_
  refine lv_aload_n hx hb dX8_findChild_18 rfl (lv_at hl 2 rfl) ?_
  refine va_get (D := D) (ci := 12) (v := .ref (q 2)) (C := RX8) (T := TX8) (N := 10) hx hb hts (fun w9 h9 => fz_m (fin_X8 w9 h9)) hown hK hP 1 rfl rfl 2 (by decide) (hts _ (fz_m fm_41)) (fun _ h9 => h9) rfl dX8_findChild_19 ?_
  refine lv_iload hx hb dX8_findChild_22 (lv_at hl 0 rfl) ?_
  refine va_iald hx hb hK hP 2 0 rfl rfl (fz_vin (by decide)) dX8_findChild_24 ?_
  refine fz_I (y := 0) g_f_2_0 ?_
  refine va_iald hx hb hK hP 5 0 rfl rfl (fz_vin (by decide)) dX8_findChild_25 ?_
  refine fz_I (y := (-1)) g_f_5_0 ?_
  refine lv_iload_n hx hb dX8_findChild_26 rfl (lv_at hl 3 rfl) ?_
  refine lv_icmp_ne (tgt := 46) hx hb dX8_findChild_27 (by decide) (fun c_2 => ?_) (fun c_2 => absurd c_2 (by decide))
  refine lv_iinc (v := 1) (lv' := [(4, .int 1), (3, .int 0), (0, .ref (q 1)), (1, .int 0), (2, .int p0)]) hx hb dX8_findChild_46 hl (k := 0) rfl (by decide) (by decide) rfl (fun ls hl => ?_)
  refine lv_goto (tgt := 5) hx hb dX8_findChild_49 (by decide) ?_
  refine lv_iload hx hb dX8_findChild_5 (lv_at hl 0 rfl) ?_
  refine lv_aload_n hx hb dX8_findChild_7 rfl (lv_at hl 2 rfl) ?_
  refine va_get (D := D) (ci := 12) (v := .int (v 2)) (C := RX8) (T := TX8) (N := 10) hx hb hts (fun w9 h9 => fz_m (fin_X8 w9 h9)) hown hK hP 1 rfl rfl 1 (by decide) (hts _ (fz_m fm_2)) (fun _ h9 => h9) rfl dX8_findChild_8 ?_
  refine fz_I (y := 1) g_v_2 ?_
  refine lv_icmp_ge (tgt := 52) hx hb dX8_findChild_11 (by decide) (fun c_3 => ?_) (fun c_3 => absurd (by decide) c_3)
  refine lv_iconst (v := (-1)) hx hb dX8_findChild_52 (by decide) ?_
  exact fz_iret hx hb hr rfl hlocks hS dX8_findChild_53 () rfl hP (Nat.le_of_ble_eq_true rfl) (Nat.le_of_ble_eq_true rfl)

set_option maxHeartbeats 4000000 in
set_option maxRecDepth 100000 in
theorem c_depth (l : Launch) (A : Nat → Prop) (D : va_G) (k : Nat → ClassId) (q : Nat → Nat) (f : Nat → Nat → Int32) (pa : Nat → Option Nat) (v : Nat → Int32) (g_f_5_0 : f 5 0 = (-1))  :
    Met l yX8_depth (fz_ws yX8_depth cX8_depth 4 (some .int)) { frames := 0, cells := 0, slots := 0, locals := 0 } (va_Pc [.ref (q 1), .int 0] (fz_PC A D (fz_tys k) (fz_WC k q f pa v))) (fz_QI D A (fun (_ : Unit) => fz_WC k q f pa v) (fun (r : Int32) (_ : Unit) => r = 0)) 0 0 A := by
  refine fz_of (by decide +kernel) (Nat.le_of_ble_eq_true rfl) ?_
  intro p e s m below meth c hx hb hr hml hown hlocks hts hin hA hP hK hD hG hS ls hl
  have hown : s.vm.findClass RX8 = some m.cls := hown
  have S0 : CallFix p m c cX8_depth 4 s [.ref (q 1), .int 0].toArray (fz_ws yX8_depth cX8_depth 4 (some .int)) RX8 := ⟨hx, hb, hml, hown, hts⟩
  have hl : lv_has ls 4 [(0, .ref (q 1)), (1, .int 0)] := hl
  refine lv_iconst (v := 0) hx hb dX8_depth_0 (by decide) ?_
  refine lv_istore_n (lv' := [(2, .int 0), (0, .ref (q 1)), (1, .int 0)]) hx hb dX8_depth_1 rfl hl (by decide) rfl (fun ls hl => ?_)
  refine lv_aload_n hx hb dX8_depth_2 rfl (lv_at hl 1 rfl) ?_
  refine va_get (D := D) (ci := 12) (v := .ref (q 5)) (C := RX8) (T := TX8) (N := 10) hx hb hts (fun w9 h9 => fz_m (fin_X8 w9 h9)) hown hK hP 1 rfl rfl 5 (by decide) (hts _ (fz_m fm_47)) (fun _ h9 => h9) rfl dX8_depth_3 ?_
  refine lv_iload_n hx hb dX8_depth_6 rfl (lv_at hl 2 rfl) ?_
  refine va_iald hx hb hK hP 5 0 rfl rfl (fz_vin (by decide)) dX8_depth_7 ?_
  refine fz_I (y := (-1)) g_f_5_0 ?_
  refine lv_istore_n (lv' := [(3, .int (-1)), (2, .int 0), (0, .ref (q 1)), (1, .int 0)]) hx hb dX8_depth_8 rfl hl (by decide) rfl (fun ls hl => ?_)
  refine lv_iload_n hx hb dX8_depth_9 rfl (lv_at hl 1 rfl) ?_
  refine lv_iconst (v := 3) hx hb dX8_depth_10 (by decide) ?_
  refine lv_icmp_ge (tgt := 32) hx hb dX8_depth_11 (by decide) (fun c_1 => absurd c_1 (by decide)) (fun c_1 => ?_)
  refine lv_iload_n hx hb dX8_depth_14 rfl (lv_at hl 0 rfl) ?_
  refine lv_iconst (v := (-1)) hx hb dX8_depth_15 (by decide) ?_
  refine lv_icmp_eq (tgt := 32) hx hb dX8_depth_16 (by decide) (fun c_2 => ?_) (fun c_2 => absurd (by decide) c_2)
  refine lv_iload_n hx hb dX8_depth_32 rfl (lv_at hl 1 rfl) ?_
  exact fz_iret hx hb hr rfl hlocks hS dX8_depth_33 () rfl hP (Nat.le_of_ble_eq_true rfl) (Nat.le_of_ble_eq_true rfl)

set_option maxHeartbeats 4000000 in
set_option maxRecDepth 100000 in
theorem c_deciding (l : Launch) (A : Nat → Prop) (D : va_G) (k : Nat → ClassId) (q : Nat → Nat) (f : Nat → Nat → Int32) (pa : Nat → Option Nat) (v : Nat → Int32) (g_f_11_0 : f 11 0 = (-1)) (g_f_5_0 : f 5 0 = (-1))  :
    Met l yX6_decidingNode (fz_ws yX6_decidingNode cX6_decidingNode 7 (some .int)) { frames := 0, cells := 0, slots := 0, locals := 0 } (va_Pc [.ref (q 10), .ref (q 1), .int 0] (fz_PC A D (fz_tys k) (fz_WC k q f pa v))) (fz_QI D A (fun (_ : Unit) => fz_WC k q f pa v) (fun (r : Int32) (_ : Unit) => r = (-1))) 0 0 A := by
  refine fz_of (by decide +kernel) (Nat.le_of_ble_eq_true rfl) ?_
  intro p e s m below meth c hx hb hr hml hown hlocks hts hin hA hP hK hD hG hS ls hl
  have hown : s.vm.findClass RX6 = some m.cls := hown
  have S0 : CallFix p m c cX6_decidingNode 7 s [.ref (q 10), .ref (q 1), .int 0].toArray (fz_ws yX6_decidingNode cX6_decidingNode 7 (some .int)) RX6 := ⟨hx, hb, hml, hown, hts⟩
  have hl : lv_has ls 7 [(0, .ref (q 10)), (1, .ref (q 1)), (2, .int 0)] := hl
  refine lv_iconst (v := (-1)) hx hb dX6_decidingNode_0 (by decide) ?_
  refine lv_istore_n (lv' := [(3, .int (-1)), (0, .ref (q 10)), (1, .ref (q 1)), (2, .int 0)]) hx hb dX6_decidingNode_1 rfl hl (by decide) rfl (fun ls hl => ?_)
  refine lv_iconst (v := 0) hx hb dX6_decidingNode_2 (by decide) ?_
  refine lv_istore (lv' := [(4, .int 0), (3, .int (-1)), (0, .ref (q 10)), (1, .ref (q 1)), (2, .int 0)]) hx hb dX6_decidingNode_3 hl (by decide) rfl (fun ls hl => ?_)
  refine lv_iload_n hx hb dX6_decidingNode_5 rfl (lv_at hl 4 rfl) ?_
  refine lv_istore (lv' := [(5, .int 0), (4, .int 0), (3, .int (-1)), (0, .ref (q 10)), (1, .ref (q 1)), (2, .int 0)]) hx hb dX6_decidingNode_6 hl (by decide) rfl (fun ls hl => ?_)
  refine lv_iconst (v := 0) hx hb dX6_decidingNode_8 (by decide) ?_
  refine lv_istore (lv' := [(6, .int 0), (5, .int 0), (4, .int 0), (3, .int (-1)), (0, .ref (q 10)), (1, .ref (q 1)), (2, .int 0)]) hx hb dX6_decidingNode_9 hl (by decide) rfl (fun ls hl => ?_)
  refine lv_iload hx hb dX6_decidingNode_11 (lv_at hl 0 rfl) ?_
  refine lv_iconst (v := 3) hx hb dX6_decidingNode_13 (by decide) ?_
  refine lv_icmp_gt (tgt := 99) hx hb dX6_decidingNode_14 (by decide) (fun c_1 => absurd c_1 (by decide)) (fun c_1 => ?_)
  refine lv_iload hx hb dX6_decidingNode_17 (lv_at hl 1 rfl) ?_
  refine lv_iconst (v := (-1)) hx hb dX6_decidingNode_19 (by decide) ?_
  refine lv_icmp_eq (tgt := 99) hx hb dX6_decidingNode_20 (by decide) (fun c_2 => absurd c_2 (by decide)) (fun c_2 => ?_)
  refine lv_aload_n hx hb dX6_decidingNode_23 rfl (lv_at hl 4 rfl) ?_
  refine va_get (D := D) (ci := 10) (v := .ref (q 11)) (C := RX6) (T := TX6) (N := 3) hx hb hts (fun w9 h9 => fz_m (fin_X6 w9 h9)) hown hK hP 10 rfl rfl 0 (by decide) (hts _ (fz_m fm_48)) (fun _ h9 => h9) rfl dX6_decidingNode_24 ?_
  refine lv_iload hx hb dX6_decidingNode_27 (lv_at hl 1 rfl) ?_
  refine va_iald hx hb hK hP 11 0 rfl rfl (fz_vin (by decide)) dX6_decidingNode_29 ?_
  refine fz_I (y := (-1)) g_f_11_0 ?_
  refine lv_iconst (v := 2) hx hb dX6_decidingNode_30 (by decide) ?_
  refine lv_icmp_eq (tgt := 99) hx hb dX6_decidingNode_31 (by decide) (fun c_3 => absurd c_3 (by decide)) (fun c_3 => ?_)
  refine lv_aload_n hx hb dX6_decidingNode_34 rfl (lv_at hl 4 rfl) ?_
  refine va_get (D := D) (ci := 10) (v := .ref (q 11)) (C := RX6) (T := TX6) (N := 3) hx hb hts (fun w9 h9 => fz_m (fin_X6 w9 h9)) hown hK hP 10 rfl rfl 0 (by decide) (hts _ (fz_m fm_48)) (fun _ h9 => h9) rfl dX6_decidingNode_35 ?_
  refine lv_iload hx hb dX6_decidingNode_38 (lv_at hl 1 rfl) ?_
  refine va_iald hx hb hK hP 11 0 rfl rfl (fz_vin (by decide)) dX6_decidingNode_40 ?_
  refine fz_I (y := (-1)) g_f_11_0 ?_
  refine lv_iconst (v := (-1)) hx hb dX6_decidingNode_41 (by decide) ?_
  refine lv_icmp_eq (tgt := 69) hx hb dX6_decidingNode_42 (by decide) (fun c_4 => ?_) (fun c_4 => absurd (by decide) c_4)
  refine lv_aload_n hx hb dX6_decidingNode_69 rfl (lv_at hl 4 rfl) ?_
  refine va_get (D := D) (ci := 10) (v := .ref (q 11)) (C := RX6) (T := TX6) (N := 3) hx hb hts (fun w9 h9 => fz_m (fin_X6 w9 h9)) hown hK hP 10 rfl rfl 0 (by decide) (hts _ (fz_m fm_48)) (fun _ h9 => h9) rfl dX6_decidingNode_70 ?_
  refine lv_iload hx hb dX6_decidingNode_73 (lv_at hl 1 rfl) ?_
  refine va_iald hx hb hK hP 11 0 rfl rfl (fz_vin (by decide)) dX6_decidingNode_75 ?_
  refine fz_I (y := (-1)) g_f_11_0 ?_
  refine lv_iconst (v := 1) hx hb dX6_decidingNode_76 (by decide) ?_
  refine lv_icmp_ne (tgt := 84) hx hb dX6_decidingNode_77 (by decide) (fun c_5 => ?_) (fun c_5 => absurd c_5 (by decide))
  refine lv_aload_n hx hb dX6_decidingNode_84 rfl (lv_at hl 5 rfl) ?_
  refine va_get (D := D) (ci := 12) (v := .ref (q 5)) (C := RX8) (T := TX8) (N := 10) hx hb hts (fun w9 h9 => fz_m (fin_X8 w9 h9)) hown hK hP 1 rfl rfl 5 (by decide) (hts _ (fz_m fm_49)) (fun _ h9 => h9) rfl dX6_decidingNode_85 ?_
  refine lv_iload hx hb dX6_decidingNode_88 (lv_at hl 1 rfl) ?_
  refine va_iald hx hb hK hP 5 0 rfl rfl (fz_vin (by decide)) dX6_decidingNode_90 ?_
  refine fz_I (y := (-1)) g_f_5_0 ?_
  refine lv_istore (lv' := [(5, .int (-1)), (6, .int 0), (4, .int 0), (3, .int (-1)), (0, .ref (q 10)), (1, .ref (q 1)), (2, .int 0)]) hx hb dX6_decidingNode_91 hl (by decide) rfl (fun ls hl => ?_)
  refine lv_iinc (v := 1) (lv' := [(6, .int 1), (5, .int (-1)), (4, .int 0), (3, .int (-1)), (0, .ref (q 10)), (1, .ref (q 1)), (2, .int 0)]) hx hb dX6_decidingNode_93 hl (k := 1) rfl (by decide) (by decide) rfl (fun ls hl => ?_)
  refine lv_goto (tgt := 11) hx hb dX6_decidingNode_96 (by decide) ?_
  refine lv_iload hx hb dX6_decidingNode_11 (lv_at hl 0 rfl) ?_
  refine lv_iconst (v := 3) hx hb dX6_decidingNode_13 (by decide) ?_
  refine lv_icmp_gt (tgt := 99) hx hb dX6_decidingNode_14 (by decide) (fun c_6 => absurd c_6 (by decide)) (fun c_6 => ?_)
  refine lv_iload hx hb dX6_decidingNode_17 (lv_at hl 1 rfl) ?_
  refine lv_iconst (v := (-1)) hx hb dX6_decidingNode_19 (by decide) ?_
  refine lv_icmp_eq (tgt := 99) hx hb dX6_decidingNode_20 (by decide) (fun c_7 => ?_) (fun c_7 => absurd (by decide) c_7)
  refine lv_iload_n hx hb dX6_decidingNode_99 rfl (lv_at hl 3 rfl) ?_
  exact fz_iret hx hb hr rfl hlocks hS dX6_decidingNode_100 () rfl hP (Nat.le_of_ble_eq_true rfl) (Nat.le_of_ble_eq_true rfl)

set_option maxHeartbeats 4000000 in
set_option maxRecDepth 100000 in
theorem c_term (l : Launch) (A : Nat → Prop) (D : va_G) (k : Nat → ClassId) (q : Nat → Nat) (f : Nat → Nat → Int32) (pa : Nat → Option Nat) (v : Nat → Int32) (g_f_11_0 : f 11 0 = (-1)) (g_f_5_0 : f 5 0 = (-1))  :
    Met l yX6_term (fz_ws yX6_term cX6_term 4 (some .int)) { frames := 12, cells := 0, slots := 0, locals := 160 } (va_Pc [.ref (q 10), .ref (q 1), .int 0] (fz_PC A D (fz_tys k) (fz_WC k q f pa v))) (fz_QI D A (fun (_ : Unit) => fz_WC k q f pa v) (fun (r : Int32) (_ : Unit) => r = 0)) 0 0 A := by
  refine fz_of (by decide +kernel) (Nat.le_of_ble_eq_true rfl) ?_
  intro p e s m below meth c hx hb hr hml hown hlocks hts hin hA hP hK hD hG hS ls hl
  have hown : s.vm.findClass RX6 = some m.cls := hown
  have S0 : CallFix p m c cX6_term 4 s [.ref (q 10), .ref (q 1), .int 0].toArray (fz_ws yX6_term cX6_term 4 (some .int)) RX6 := ⟨hx, hb, hml, hown, hts⟩
  have hl : lv_has ls 4 [(0, .ref (q 10)), (1, .ref (q 1)), (2, .int 0)] := hl
  refine lv_aload_n hx hb dX6_term_0 rfl (lv_at hl 0 rfl) ?_
  refine lv_aload_n hx hb dX6_term_1 rfl (lv_at hl 1 rfl) ?_
  refine lv_iload_n hx hb dX6_term_2 rfl (lv_at hl 2 rfl) ?_
  refine fz_cVi (As := [.ref (q 1), .int 0]) (rest := []) S0 (c_deciding l A D k q f pa v g_f_11_0 g_f_5_0) (fz_cwV (C := RX6) 2 hts fm_50 fm_51 fm_52 fm_53 fm_54 rfl rfl ⟨by decide, by decide, by decide +kernel⟩ ⟨Nat.le_of_ble_eq_true rfl, Nat.le_of_ble_eq_true rfl⟩) (va_recv hK hP (ci := 10) (q0 := 10) rfl rfl) (fun _ h9 => h9) (fun a9 h9 => hA a9 (Nat.le_trans hS.1 h9)) hG hS hP hK hD rfl hl.1 rfl (Nat.le_of_ble_eq_true rfl) dX6_term_3 ⟨Nat.le_of_ble_eq_true rfl, Nat.le_of_ble_eq_true rfl⟩ (fun r_1 u_1 H locs hw hz1 hk1 hP hS => ?_)
  have hP : va_P D vwCl (fz_WC k q f pa v) H := hP
  obtain rfl : r_1 = (-1) := hw
  refine lv_istore_n (lv' := [(3, .int (-1)), (0, .ref (q 10)), (1, .ref (q 1)), (2, .int 0)]) hx hb dX6_term_6 rfl hl (by decide) rfl (fun ls hl => ?_)
  refine lv_iload_n hx hb dX6_term_7 rfl (lv_at hl 0 rfl) ?_
  refine lv_iconst (v := (-1)) hx hb dX6_term_8 (by decide) ?_
  refine lv_icmp_ne (tgt := 16) hx hb dX6_term_9 (by decide) (fun c_2 => absurd (by decide) c_2) (fun c_2 => ?_)
  refine lv_iconst (v := 0) hx hb dX6_term_12 (by decide) ?_
  refine lv_goto (tgt := 22) hx hb dX6_term_13 (by decide) ?_
  exact fz_iret hx hb hr rfl hlocks hS dX6_term_22 () rfl hP (Nat.le_of_ble_eq_true rfl) (Nat.le_of_ble_eq_true rfl)

set_option maxHeartbeats 4000000 in
set_option maxRecDepth 100000 in
theorem c_lastDay (l : Launch) (A : Nat → Prop) (D : va_G) (k : Nat → ClassId) (q : Nat → Nat) (f : Nat → Nat → Int32) (pa : Nat → Option Nat) (v : Nat → Int32)   :
    Met l yX6_lastDay (fz_ws yX6_lastDay cX6_lastDay 2 (some .int)) { frames := 0, cells := 0, slots := 0, locals := 0 } (va_Pc [.int 0, .int (-1)] (fz_PC A D (fz_tys k) (fz_WC k q f pa v))) (fz_QI D A (fun (_ : Unit) => fz_WC k q f pa v) (fun (r : Int32) (_ : Unit) => r = (-1))) 0 0 A := by
  refine fz_of (by decide +kernel) (Nat.le_of_ble_eq_true rfl) ?_
  intro p e s m below meth c hx hb hr hml hown hlocks hts hin hA hP hK hD hG hS ls hl
  have hown : s.vm.findClass RX6 = some m.cls := hown
  have S0 : CallFix p m c cX6_lastDay 2 s [.int 0, .int (-1)].toArray (fz_ws yX6_lastDay cX6_lastDay 2 (some .int)) RX6 := ⟨hx, hb, hml, hown, hts⟩
  have hl : lv_has ls 2 [(0, .int 0), (1, .int (-1))] := hl
  refine lv_iload_n hx hb dX6_lastDay_0 rfl (lv_at hl 0 rfl) ?_
  refine lv_if_ne (tgt := 6) hx hb dX6_lastDay_1 (by decide) (fun c_1 => absurd (by decide) c_1) (fun c_1 => ?_)
  refine lv_iconst (v := (-1)) hx hb dX6_lastDay_4 (by decide) ?_
  exact fz_iret hx hb hr rfl hlocks hS dX6_lastDay_5 () rfl hP (Nat.le_of_ble_eq_true rfl) (Nat.le_of_ble_eq_true rfl)

set_option maxHeartbeats 4000000 in
set_option maxRecDepth 100000 in
theorem c_lastClosedDay (l : Launch) (A : Nat → Prop) (D : va_G) (k : Nat → ClassId) (q : Nat → Nat) (f : Nat → Nat → Int32) (pa : Nat → Option Nat) (v : Nat → Int32) (g_f_11_0 : f 11 0 = (-1)) (g_f_5_0 : f 5 0 = (-1)) (g_v_2 : v 2 = 1) (g_f_6_0 : f 6 0 = 0) (g_f_2_0 : f 2 0 = 0) (g_f_9_0 : f 9 0 = (-1))  :
    Met l yX6_lastClosedDay (fz_ws yX6_lastClosedDay cX6_lastClosedDay 3 (some .int)) { frames := 24, cells := 0, slots := 0, locals := 320 } (va_Pc [.ref (q 10), .ref (q 1), .int 0] (fz_PC A D (fz_tys k) (fz_WC k q f pa v))) (fz_QI D A (fun (_ : Unit) => fz_WC k q f pa v) (fun (r : Int32) (_ : Unit) => r = (-1))) 0 0 A := by
  refine fz_of (by decide +kernel) (Nat.le_of_ble_eq_true rfl) ?_
  intro p e s m below meth c hx hb hr hml hown hlocks hts hin hA hP hK hD hG hS ls hl
  have hown : s.vm.findClass RX6 = some m.cls := hown
  have S0 : CallFix p m c cX6_lastClosedDay 3 s [.ref (q 10), .ref (q 1), .int 0].toArray (fz_ws yX6_lastClosedDay cX6_lastClosedDay 3 (some .int)) RX6 := ⟨hx, hb, hml, hown, hts⟩
  have hl : lv_has ls 3 [(0, .ref (q 10)), (1, .ref (q 1)), (2, .int 0)] := hl
  refine lv_aload_n hx hb dX6_lastClosedDay_0 rfl (lv_at hl 0 rfl) ?_
  refine lv_aload_n hx hb dX6_lastClosedDay_1 rfl (lv_at hl 1 rfl) ?_
  refine lv_iload_n hx hb dX6_lastClosedDay_2 rfl (lv_at hl 2 rfl) ?_
  refine fz_cVi (As := [.ref (q 1), .int 0]) (rest := []) S0 (c_term l A D k q f pa v g_f_11_0 g_f_5_0) (fz_cwV (C := RX6) 2 hts fm_55 fm_56 fm_57 fm_58 fm_54 rfl rfl ⟨by decide, by decide, by decide +kernel⟩ ⟨Nat.le_of_ble_eq_true rfl, Nat.le_of_ble_eq_true rfl⟩) (va_recv hK hP (ci := 10) (q0 := 10) rfl rfl) (fun _ h9 => h9) (fun a9 h9 => hA a9 (Nat.le_trans hS.1 h9)) hG hS hP hK hD rfl hl.1 rfl (Nat.le_of_ble_eq_true rfl) dX6_lastClosedDay_3 ⟨Nat.le_of_ble_eq_true rfl, Nat.le_of_ble_eq_true rfl⟩ (fun r_1 u_1 H locs hw hz1 hk1 hP hS => ?_)
  have hP : va_P D vwCl (fz_WC k q f pa v) H := hP
  obtain rfl : r_1 = 0 := hw
  refine lv_aload_n hx hb dX6_lastClosedDay_6 rfl (lv_at hl 1 rfl) ?_
  refine lv_iload_n hx hb dX6_lastClosedDay_7 rfl (lv_at hl 2 rfl) ?_
  refine fz_cVi (As := [.int 0]) (rest := [.int 0]) S0 (c_latestDay l A D k q f pa v g_v_2 g_f_6_0 g_f_2_0 g_f_9_0) (fz_cwV (C := RX8) 1 hts fm_59 fm_60 fm_61 fm_62 fm_15 rfl rfl ⟨by decide, by decide, by decide +kernel⟩ ⟨Nat.le_of_ble_eq_true rfl, Nat.le_of_ble_eq_true rfl⟩) (va_recv hK hP (ci := 12) (q0 := 1) rfl rfl) (fun _ h9 => h9) (fun a9 h9 => hA a9 (Nat.le_trans hS.1 h9)) hG hS hP hK hD rfl hl.1 rfl (Nat.le_of_ble_eq_true rfl) dX6_lastClosedDay_8 ⟨Nat.le_of_ble_eq_true rfl, Nat.le_of_ble_eq_true rfl⟩ (fun r_2 u_2 H locs hw hz1 hk1 hP hS => ?_)
  have hP : va_P D vwCl (fz_WC k q f pa v) H := hP
  obtain rfl : r_2 = (-1) := hw
  refine fz_cSi (As := [.int 0, .int (-1)]) (rest := []) S0 (c_lastDay l A D k q f pa v ) (fz_cwS 2 hts fm_63 fm_64 fm_65 fm_54 rfl rfl ⟨by decide, by decide, by decide +kernel⟩ ⟨Nat.le_of_ble_eq_true rfl, Nat.le_of_ble_eq_true rfl⟩) (fun _ h9 => h9) (fun a9 h9 => hA a9 (Nat.le_trans hS.1 h9)) hG hS hP hK hD rfl hl.1 rfl (Nat.le_of_ble_eq_true rfl) dX6_lastClosedDay_11 ⟨Nat.le_of_ble_eq_true rfl, Nat.le_of_ble_eq_true rfl⟩ (fun r_3 u_3 H locs hw hz1 hk1 hP hS => ?_)
  have hP : va_P D vwCl (fz_WC k q f pa v) H := hP
  obtain rfl : r_3 = (-1) := hw
  exact fz_iret hx hb hr rfl hlocks hS dX6_lastClosedDay_14 () rfl hP (Nat.le_of_ble_eq_true rfl) (Nat.le_of_ble_eq_true rfl)

set_option maxHeartbeats 4000000 in
set_option maxRecDepth 100000 in
theorem c_openSet (l : Launch) (A : Nat → Prop) (D : va_G) (k : Nat → ClassId) (q : Nat → Nat) (f : Nat → Nat → Int32) (pa : Nat → Option Nat) (v : Nat → Int32) (p0 : Int32) (g_f_7_0 : f 7 0 = 0)  :
    Met l yX6_openSet (fz_ws yX6_openSet cX6_openSet 7 (some .int)) { frames := 0, cells := 0, slots := 0, locals := 0 } (va_Pc [.ref (q 10), .ref (q 1), .int 0, .int p0] (fz_PC A D (fz_tys k) (fz_WC k q f pa v))) (fz_QI D A (fun (_ : Unit) => fz_WC k q f pa v) (fun (r : Int32) (_ : Unit) => r = 0)) 0 0 A := by
  refine fz_of (by decide +kernel) (Nat.le_of_ble_eq_true rfl) ?_
  intro p e s m below meth c hx hb hr hml hown hlocks hts hin hA hP hK hD hG hS ls hl
  have hown : s.vm.findClass RX6 = some m.cls := hown
  have S0 : CallFix p m c cX6_openSet 7 s [.ref (q 10), .ref (q 1), .int 0, .int p0].toArray (fz_ws yX6_openSet cX6_openSet 7 (some .int)) RX6 := ⟨hx, hb, hml, hown, hts⟩
  have hl : lv_has ls 7 [(0, .ref (q 10)), (1, .ref (q 1)), (2, .int 0), (3, .int p0)] := hl
  refine lv_aload_n hx hb dX6_openSet_0 rfl (lv_at hl 1 rfl) ?_
  refine va_get (D := D) (ci := 12) (v := .ref (q 7)) (C := RX8) (T := TX8) (N := 10) hx hb hts (fun w9 h9 => fz_m (fin_X8 w9 h9)) hown hK hP 1 rfl rfl 7 (by decide) (hts _ (fz_m fm_66)) (fun _ h9 => h9) rfl dX6_openSet_1 ?_
  refine lv_iload_n hx hb dX6_openSet_4 rfl (lv_at hl 2 rfl) ?_
  refine va_iald hx hb hK hP 7 0 rfl rfl (fz_vin (by decide)) dX6_openSet_5 ?_
  refine fz_I (y := 0) g_f_7_0 ?_
  refine lv_if_eq (tgt := 19) hx hb dX6_openSet_6 (by decide) (fun c_1 => ?_) (fun c_1 => absurd (by decide) c_1)
  refine lv_iconst (v := 0) hx hb dX6_openSet_19 (by decide) ?_
  exact fz_iret hx hb hr rfl hlocks hS dX6_openSet_20 () rfl hP (Nat.le_of_ble_eq_true rfl) (Nat.le_of_ble_eq_true rfl)

set_option maxHeartbeats 4000000 in
set_option maxRecDepth 100000 in
theorem c_canOpen (l : Launch) (A : Nat → Prop) (D : va_G) (k : Nat → ClassId) (q : Nat → Nat) (f : Nat → Nat → Int32) (pa : Nat → Option Nat) (v : Nat → Int32) (g_v_4 : v 4 = 0) (g_v_3 : v 3 = 0)  :
    Met l yX0_canOpen (fz_ws yX0_canOpen cX0_canOpen 1 (some .boolean)) { frames := 0, cells := 0, slots := 0, locals := 0 } (va_Pc [.ref (q 14)] (fz_PC A D (fz_tys k) (fz_WC k q f pa v))) (fz_QI D A (fun (_ : Unit) => fz_WC k q f pa v) (fun (r : Int32) (_ : Unit) => r = 1)) 0 0 A := by
  refine fz_of (by decide +kernel) (Nat.le_of_ble_eq_true rfl) ?_
  intro p e s m below meth c hx hb hr hml hown hlocks hts hin hA hP hK hD hG hS ls hl
  have hown : s.vm.findClass RX0 = some m.cls := hown
  have S0 : CallFix p m c cX0_canOpen 1 s [.ref (q 14)].toArray (fz_ws yX0_canOpen cX0_canOpen 1 (some .boolean)) RX0 := ⟨hx, hb, hml, hown, hts⟩
  have hl : lv_has ls 1 [(0, .ref (q 14))] := hl
  refine lv_aload_n hx hb dX0_canOpen_0 rfl (lv_at hl 0 rfl) ?_
  refine va_get (D := D) (ci := 4) (v := .int (v 4)) (C := RX0) (T := TX0) (N := 9) hx hb hts (fun w9 h9 => fz_m (fin_X0 w9 h9)) hown hK hP 14 rfl rfl 1 (by decide) (hts _ (fz_m fm_67)) (fun _ h9 => h9) rfl dX0_canOpen_1 ?_
  refine fz_I (y := 0) g_v_4 ?_
  refine lv_bipush (v := 10) hx hb dX0_canOpen_4 (by decide) ?_
  refine lv_icmp_ge (tgt := 22) hx hb dX0_canOpen_6 (by decide) (fun c_1 => absurd c_1 (by decide)) (fun c_1 => ?_)
  refine lv_aload_n hx hb dX0_canOpen_9 rfl (lv_at hl 0 rfl) ?_
  refine va_get (D := D) (ci := 4) (v := .int (v 3)) (C := RX0) (T := TX0) (N := 9) hx hb hts (fun w9 h9 => fz_m (fin_X0 w9 h9)) hown hK hP 14 rfl rfl 0 (by decide) (hts _ (fz_m fm_7)) (fun _ h9 => h9) rfl dX0_canOpen_10 ?_
  refine fz_I (y := 0) g_v_3 ?_
  refine lv_bipush (v := 30) hx hb dX0_canOpen_13 (by decide) ?_
  refine lv_icmp_ge (tgt := 22) hx hb dX0_canOpen_15 (by decide) (fun c_2 => absurd c_2 (by decide)) (fun c_2 => ?_)
  refine lv_iconst (v := 1) hx hb dX0_canOpen_18 (by decide) ?_
  refine lv_goto (tgt := 23) hx hb dX0_canOpen_19 (by decide) ?_
  exact fz_iret hx hb hr rfl hlocks hS dX0_canOpen_23 () rfl hP (Nat.le_of_ble_eq_true rfl) (Nat.le_of_ble_eq_true rfl)

set_option maxHeartbeats 4000000 in
set_option maxRecDepth 100000 in
theorem c_unitOf (l : Launch) (A : Nat → Prop) (D : va_G) (k : Nat → ClassId) (q : Nat → Nat) (f : Nat → Nat → Int32) (pa : Nat → Option Nat) (v : Nat → Int32) (p0 p1 : Int32) (g_v_6 : v 6 = 0)  :
    Met l yX3_unitOf (fz_ws yX3_unitOf cX3_unitOf 5 (some .int)) { frames := 0, cells := 0, slots := 0, locals := 0 } (va_Pc [.ref (q 20), .int p0, .int p1] (fz_PC A D (fz_tys k) (fz_WC k q f pa v))) (fz_QI D A (fun (_ : Unit) => fz_WC k q f pa v) (fun (r : Int32) (_ : Unit) => r = (-1))) 0 0 A := by
  refine fz_of (by decide +kernel) (Nat.le_of_ble_eq_true rfl) ?_
  intro p e s m below meth c hx hb hr hml hown hlocks hts hin hA hP hK hD hG hS ls hl
  have hown : s.vm.findClass RX3 = some m.cls := hown
  have S0 : CallFix p m c cX3_unitOf 5 s [.ref (q 20), .int p0, .int p1].toArray (fz_ws yX3_unitOf cX3_unitOf 5 (some .int)) RX3 := ⟨hx, hb, hml, hown, hts⟩
  have hl : lv_has ls 5 [(0, .ref (q 20)), (1, .int p0), (2, .int p1)] := hl
  refine lv_iconst (v := 0) hx hb dX3_unitOf_0 (by decide) ?_
  refine lv_istore_n (lv' := [(3, .int 0), (0, .ref (q 20)), (1, .int p0), (2, .int p1)]) hx hb dX3_unitOf_1 rfl hl (by decide) rfl (fun ls hl => ?_)
  refine lv_iconst (v := 0) hx hb dX3_unitOf_2 (by decide) ?_
  refine lv_istore (lv' := [(4, .int 0), (3, .int 0), (0, .ref (q 20)), (1, .int p0), (2, .int p1)]) hx hb dX3_unitOf_3 hl (by decide) rfl (fun ls hl => ?_)
  refine lv_iload hx hb dX3_unitOf_5 (lv_at hl 0 rfl) ?_
  refine lv_aload_n hx hb dX3_unitOf_7 rfl (lv_at hl 2 rfl) ?_
  refine va_get (D := D) (ci := 7) (v := .int (v 6)) (C := RX3) (T := TX3) (N := 3) hx hb hts (fun w9 h9 => fz_m (fin_X3 w9 h9)) hown hK hP 20 rfl rfl 0 (by decide) (hts _ (fz_m fm_68)) (fun _ h9 => h9) rfl dX3_unitOf_8 ?_
  refine fz_I (y := 0) g_v_6 ?_
  refine lv_icmp_ge (tgt := 47) hx hb dX3_unitOf_11 (by decide) (fun c_1 => ?_) (fun c_1 => absurd (by decide) c_1)
  refine lv_iconst (v := (-1)) hx hb dX3_unitOf_47 (by decide) ?_
  exact fz_iret hx hb hr rfl hlocks hS dX3_unitOf_48 () rfl hP (Nat.le_of_ble_eq_true rfl) (Nat.le_of_ble_eq_true rfl)

set_option maxHeartbeats 4000000 in
set_option maxRecDepth 100000 in
theorem c_countReferring (l : Launch) (A : Nat → Prop) (D : va_G) (k : Nat → ClassId) (q : Nat → Nat) (f : Nat → Nat → Int32) (pa : Nat → Option Nat) (v : Nat → Int32) (g_v_6 : v 6 = 0)  :
    Met l yX3_countReferring (fz_ws yX3_countReferring cX3_countReferring 4 (some .int)) { frames := 0, cells := 0, slots := 0, locals := 0 } (va_Pc [.ref (q 20), .ref (q 1)] (fz_PC A D (fz_tys k) (fz_WC k q f pa v))) (fz_QI D A (fun (_ : Unit) => fz_WC k q f pa v) (fun (r : Int32) (_ : Unit) => r = 0)) 0 0 A := by
  refine fz_of (by decide +kernel) (Nat.le_of_ble_eq_true rfl) ?_
  intro p e s m below meth c hx hb hr hml hown hlocks hts hin hA hP hK hD hG hS ls hl
  have hown : s.vm.findClass RX3 = some m.cls := hown
  have S0 : CallFix p m c cX3_countReferring 4 s [.ref (q 20), .ref (q 1)].toArray (fz_ws yX3_countReferring cX3_countReferring 4 (some .int)) RX3 := ⟨hx, hb, hml, hown, hts⟩
  have hl : lv_has ls 4 [(0, .ref (q 20)), (1, .ref (q 1))] := hl
  refine lv_iconst (v := 0) hx hb dX3_countReferring_0 (by decide) ?_
  refine lv_istore_n (lv' := [(2, .int 0), (0, .ref (q 20)), (1, .ref (q 1))]) hx hb dX3_countReferring_1 rfl hl (by decide) rfl (fun ls hl => ?_)
  refine lv_iconst (v := 0) hx hb dX3_countReferring_2 (by decide) ?_
  refine lv_istore_n (lv' := [(3, .int 0), (2, .int 0), (0, .ref (q 20)), (1, .ref (q 1))]) hx hb dX3_countReferring_3 rfl hl (by decide) rfl (fun ls hl => ?_)
  refine lv_iload_n hx hb dX3_countReferring_4 rfl (lv_at hl 0 rfl) ?_
  refine lv_aload_n hx hb dX3_countReferring_5 rfl (lv_at hl 2 rfl) ?_
  refine va_get (D := D) (ci := 7) (v := .int (v 6)) (C := RX3) (T := TX3) (N := 3) hx hb hts (fun w9 h9 => fz_m (fin_X3 w9 h9)) hown hK hP 20 rfl rfl 0 (by decide) (hts _ (fz_m fm_68)) (fun _ h9 => h9) rfl dX3_countReferring_6 ?_
  refine fz_I (y := 0) g_v_6 ?_
  refine lv_icmp_ge (tgt := 34) hx hb dX3_countReferring_9 (by decide) (fun c_1 => ?_) (fun c_1 => absurd (by decide) c_1)
  refine lv_iload_n hx hb dX3_countReferring_34 rfl (lv_at hl 1 rfl) ?_
  exact fz_iret hx hb hr rfl hlocks hS dX3_countReferring_35 () rfl hP (Nat.le_of_ble_eq_true rfl) (Nat.le_of_ble_eq_true rfl)

set_option maxHeartbeats 4000000 in
set_option maxRecDepth 100000 in
theorem c_countOf (l : Launch) (A : Nat → Prop) (D : va_G) (k : Nat → ClassId) (q : Nat → Nat) (f : Nat → Nat → Int32) (pa : Nat → Option Nat) (v : Nat → Int32) (p0 : Int32) (g_v_7 : v 7 = 0)  :
    Met l yX1_countOf (fz_ws yX1_countOf cX1_countOf 4 (some .int)) { frames := 0, cells := 0, slots := 0, locals := 0 } (va_Pc [.ref (q 23), .int p0] (fz_PC A D (fz_tys k) (fz_WC k q f pa v))) (fz_QI D A (fun (_ : Unit) => fz_WC k q f pa v) (fun (r : Int32) (_ : Unit) => r = 0)) 0 0 A := by
  refine fz_of (by decide +kernel) (Nat.le_of_ble_eq_true rfl) ?_
  intro p e s m below meth c hx hb hr hml hown hlocks hts hin hA hP hK hD hG hS ls hl
  have hown : s.vm.findClass RX1 = some m.cls := hown
  have S0 : CallFix p m c cX1_countOf 4 s [.ref (q 23), .int p0].toArray (fz_ws yX1_countOf cX1_countOf 4 (some .int)) RX1 := ⟨hx, hb, hml, hown, hts⟩
  have hl : lv_has ls 4 [(0, .ref (q 23)), (1, .int p0)] := hl
  refine lv_iconst (v := 0) hx hb dX1_countOf_0 (by decide) ?_
  refine lv_istore_n (lv' := [(2, .int 0), (0, .ref (q 23)), (1, .int p0)]) hx hb dX1_countOf_1 rfl hl (by decide) rfl (fun ls hl => ?_)
  refine lv_iconst (v := 0) hx hb dX1_countOf_2 (by decide) ?_
  refine lv_istore_n (lv' := [(3, .int 0), (2, .int 0), (0, .ref (q 23)), (1, .int p0)]) hx hb dX1_countOf_3 rfl hl (by decide) rfl (fun ls hl => ?_)
  refine lv_iload_n hx hb dX1_countOf_4 rfl (lv_at hl 0 rfl) ?_
  refine lv_aload_n hx hb dX1_countOf_5 rfl (lv_at hl 2 rfl) ?_
  refine va_get (D := D) (ci := 5) (v := .int (v 7)) (C := RX1) (T := TX1) (N := 3) hx hb hts (fun w9 h9 => fz_m (fin_X1 w9 h9)) hown hK hP 23 rfl rfl 0 (by decide) (hts _ (fz_m fm_8)) (fun _ h9 => h9) rfl dX1_countOf_6 ?_
  refine fz_I (y := 0) g_v_7 ?_
  refine lv_icmp_ge (tgt := 31) hx hb dX1_countOf_9 (by decide) (fun c_1 => ?_) (fun c_1 => absurd (by decide) c_1)
  refine lv_iload_n hx hb dX1_countOf_31 rfl (lv_at hl 1 rfl) ?_
  exact fz_iret hx hb hr rfl hlocks hS dX1_countOf_32 () rfl hP (Nat.le_of_ble_eq_true rfl) (Nat.le_of_ble_eq_true rfl)

set_option maxHeartbeats 4000000 in
set_option maxRecDepth 100000 in
theorem c_countPresent (l : Launch) (A : Nat → Prop) (D : va_G) (k : Nat → ClassId) (q : Nat → Nat) (f : Nat → Nat → Int32) (pa : Nat → Option Nat) (v : Nat → Int32) (g_v_7 : v 7 = 0)  :
    Met l yX1_countPresent (fz_ws yX1_countPresent cX1_countPresent 1 (some .int)) { frames := 12, cells := 0, slots := 0, locals := 160 } (va_Pc [.ref (q 23)] (fz_PC A D (fz_tys k) (fz_WC k q f pa v))) (fz_QI D A (fun (_ : Unit) => fz_WC k q f pa v) (fun (r : Int32) (_ : Unit) => r = 0)) 0 0 A := by
  refine fz_of (by decide +kernel) (Nat.le_of_ble_eq_true rfl) ?_
  intro p e s m below meth c hx hb hr hml hown hlocks hts hin hA hP hK hD hG hS ls hl
  have hown : s.vm.findClass RX1 = some m.cls := hown
  have S0 : CallFix p m c cX1_countPresent 1 s [.ref (q 23)].toArray (fz_ws yX1_countPresent cX1_countPresent 1 (some .int)) RX1 := ⟨hx, hb, hml, hown, hts⟩
  have hl : lv_has ls 1 [(0, .ref (q 23))] := hl
  refine lv_aload_n hx hb dX1_countPresent_0 rfl (lv_at hl 0 rfl) ?_
  refine va_get (D := D) (ci := 5) (v := .int (v 7)) (C := RX1) (T := TX1) (N := 3) hx hb hts (fun w9 h9 => fz_m (fin_X1 w9 h9)) hown hK hP 23 rfl rfl 0 (by decide) (hts _ (fz_m fm_8)) (fun _ h9 => h9) rfl dX1_countPresent_1 ?_
  refine fz_I (y := 0) g_v_7 ?_
  refine lv_aload_n hx hb dX1_countPresent_4 rfl (lv_at hl 0 rfl) ?_
  refine lv_iconst (v := (-1)) hx hb dX1_countPresent_5 (by decide) ?_
  refine fz_cVi (As := [.int (-1)]) (rest := [.int 0]) S0 (c_countOf l A D k q f pa v (-1) g_v_7) (fz_cwV (C := RX1) 1 hts fm_69 fm_70 fm_71 fm_72 fm_32 rfl rfl ⟨by decide, by decide, by decide +kernel⟩ ⟨Nat.le_of_ble_eq_true rfl, Nat.le_of_ble_eq_true rfl⟩) (va_recv hK hP (ci := 5) (q0 := 23) rfl rfl) (fun _ h9 => h9) (fun a9 h9 => hA a9 (Nat.le_trans hS.1 h9)) hG hS hP hK hD rfl hl.1 rfl (Nat.le_of_ble_eq_true rfl) dX1_countPresent_6 ⟨Nat.le_of_ble_eq_true rfl, Nat.le_of_ble_eq_true rfl⟩ (fun r_1 u_1 H locs hw hz1 hk1 hP hS => ?_)
  have hP : va_P D vwCl (fz_WC k q f pa v) H := hP
  obtain rfl : r_1 = 0 := hw
  refine lv_isub hx hb dX1_countPresent_9 ?_
  refine fz_I (y := 0) (by decide) ?_
  exact fz_iret hx hb hr rfl hlocks hS dX1_countPresent_10 () rfl hP (Nat.le_of_ble_eq_true rfl) (Nat.le_of_ble_eq_true rfl)

set_option maxHeartbeats 4000000 in
set_option maxRecDepth 100000 in
theorem c_lenA (l : Launch) (A : Nat → Prop) (D : va_G) (k : Nat → ClassId) (q : Nat → Nat) (f : Nat → Nat → Int32) (pa : Nat → Option Nat) (v : Nat → Int32) (g_v_17 : v 17 = 0)  :
    Met l yJ5_length_8abf5 (fz_ws yJ5_length_8abf5 cJ5_length_8abf5 1 (some .int)) { frames := 0, cells := 0, slots := 0, locals := 0 } (va_Pc [.ref (q 35)] (fz_PC A D (fz_tys k) (fz_WC k q f pa v))) (fz_QI D A (fun (_ : Unit) => fz_WC k q f pa v) (fun (r : Int32) (_ : Unit) => r = 0)) 0 0 A := by
  refine fz_of (by decide +kernel) (Nat.le_of_ble_eq_true rfl) ?_
  intro p e s m below meth c hx hb hr hml hown hlocks hts hin hA hP hK hD hG hS ls hl
  have hown : s.vm.findClass RJ5 = some m.cls := hown
  have S0 : CallFix p m c cJ5_length_8abf5 1 s [.ref (q 35)].toArray (fz_ws yJ5_length_8abf5 cJ5_length_8abf5 1 (some .int)) RJ5 := ⟨hx, hb, hml, hown, hts⟩
  have hl : lv_has ls 1 [(0, .ref (q 35))] := hl
  refine lv_aload_n hx hb dJ5_length_8abf5_0 rfl (lv_at hl 0 rfl) ?_
  refine va_get (D := D) (ci := 1) (v := .int (v 17)) (C := RJ4) (T := TJ4) (N := 4) hx hb hts (fun w9 h9 => fz_m (fin_J4 w9 h9)) hown hK hP 35 rfl rfl 3 (by decide) (hts _ (fz_m fm_73)) (fun _ h9 => h9) rfl dJ5_length_8abf5_1 ?_
  refine fz_I (y := 0) g_v_17 ?_
  exact fz_iret hx hb hr rfl hlocks hS dJ5_length_8abf5_4 () rfl hP (Nat.le_of_ble_eq_true rfl) (Nat.le_of_ble_eq_true rfl)

set_option maxHeartbeats 4000000 in
set_option maxRecDepth 100000 in
theorem c_len (l : Launch) (A : Nat → Prop) (D : va_G) (k : Nat → ClassId) (q : Nat → Nat) (f : Nat → Nat → Int32) (pa : Nat → Option Nat) (v : Nat → Int32) (g_v_17 : v 17 = 0)  :
    Met l yJ4_length_8abf5 (fz_ws yJ4_length_8abf5 cJ4_length_8abf5 1 (some .int)) { frames := 12, cells := 0, slots := 0, locals := 160 } (va_Pc [.ref (q 35)] (fz_PC A D (fz_tys k) (fz_WC k q f pa v))) (fz_QI D A (fun (_ : Unit) => fz_WC k q f pa v) (fun (r : Int32) (_ : Unit) => r = 0)) 0 0 A := by
  refine fz_of (by decide +kernel) (Nat.le_of_ble_eq_true rfl) ?_
  intro p e s m below meth c hx hb hr hml hown hlocks hts hin hA hP hK hD hG hS ls hl
  have hown : s.vm.findClass RJ4 = some m.cls := hown
  have S0 : CallFix p m c cJ4_length_8abf5 1 s [.ref (q 35)].toArray (fz_ws yJ4_length_8abf5 cJ4_length_8abf5 1 (some .int)) RJ4 := ⟨hx, hb, hml, hown, hts⟩
  have hl : lv_has ls 1 [(0, .ref (q 35))] := hl
  refine lv_aload_n hx hb dJ4_length_8abf5_0 rfl (lv_at hl 0 rfl) ?_
  refine fz_cUi (As := []) (rest := []) S0 (c_lenA l A D k q f pa v g_v_17) (va_cwSU 0 hts (fz_gSU fm_74 fm_75 fm_76 fm_77 fm_78 fm_79) rfl rfl rfl ⟨by decide, by decide +kernel⟩ ⟨Nat.le_of_ble_eq_true rfl, Nat.le_of_ble_eq_true rfl⟩) (fz_at hK (ci := 1) rfl) (va_recv hK hP (ci := 1) (q0 := 35) rfl rfl) (fun _ h9 => h9) (fun a9 h9 => hA a9 (Nat.le_trans hS.1 h9)) hG hS hP hK hD rfl hl.1 rfl (Nat.le_of_ble_eq_true rfl) dJ4_length_8abf5_1 ⟨Nat.le_of_ble_eq_true rfl, Nat.le_of_ble_eq_true rfl⟩ (fun r_1 u_1 H locs hw hz1 hk1 hP hS => ?_)
  have hP : va_P D vwCl (fz_WC k q f pa v) H := hP
  obtain rfl : r_1 = 0 := hw
  exact fz_iret hx hb hr rfl hlocks hS dJ4_length_8abf5_4 () rfl hP (Nat.le_of_ble_eq_true rfl) (Nat.le_of_ble_eq_true rfl)

set_option maxHeartbeats 4000000 in
set_option maxRecDepth 100000 in
theorem c_countOn (l : Launch) (A : Nat → Prop) (D : va_G) (k : Nat → ClassId) (q : Nat → Nat) (f : Nat → Nat → Int32) (pa : Nat → Option Nat) (v : Nat → Int32) (p0 : Int32) (g_v_8 : v 8 = 0)  :
    Met l yX5_countOn (fz_ws yX5_countOn cX5_countOn 4 (some .int)) { frames := 0, cells := 0, slots := 0, locals := 0 } (va_Pc [.ref (q 26), .int p0] (fz_PC A D (fz_tys k) (fz_WC k q f pa v))) (fz_QI D A (fun (_ : Unit) => fz_WC k q f pa v) (fun (r : Int32) (_ : Unit) => r = 0)) 0 0 A := by
  refine fz_of (by decide +kernel) (Nat.le_of_ble_eq_true rfl) ?_
  intro p e s m below meth c hx hb hr hml hown hlocks hts hin hA hP hK hD hG hS ls hl
  have hown : s.vm.findClass RX5 = some m.cls := hown
  have S0 : CallFix p m c cX5_countOn 4 s [.ref (q 26), .int p0].toArray (fz_ws yX5_countOn cX5_countOn 4 (some .int)) RX5 := ⟨hx, hb, hml, hown, hts⟩
  have hl : lv_has ls 4 [(0, .ref (q 26)), (1, .int p0)] := hl
  refine lv_iconst (v := 0) hx hb dX5_countOn_0 (by decide) ?_
  refine lv_istore_n (lv' := [(2, .int 0), (0, .ref (q 26)), (1, .int p0)]) hx hb dX5_countOn_1 rfl hl (by decide) rfl (fun ls hl => ?_)
  refine lv_iconst (v := 0) hx hb dX5_countOn_2 (by decide) ?_
  refine lv_istore_n (lv' := [(3, .int 0), (2, .int 0), (0, .ref (q 26)), (1, .int p0)]) hx hb dX5_countOn_3 rfl hl (by decide) rfl (fun ls hl => ?_)
  refine lv_iload_n hx hb dX5_countOn_4 rfl (lv_at hl 0 rfl) ?_
  refine lv_aload_n hx hb dX5_countOn_5 rfl (lv_at hl 2 rfl) ?_
  refine va_get (D := D) (ci := 9) (v := .int (v 8)) (C := RX5) (T := TX5) (N := 5) hx hb hts (fun w9 h9 => fz_m (fin_X5 w9 h9)) hown hK hP 26 rfl rfl 0 (by decide) (hts _ (fz_m fm_80)) (fun _ h9 => h9) rfl dX5_countOn_6 ?_
  refine fz_I (y := 0) g_v_8 ?_
  refine lv_icmp_ge (tgt := 31) hx hb dX5_countOn_9 (by decide) (fun c_1 => ?_) (fun c_1 => absurd (by decide) c_1)
  refine lv_iload_n hx hb dX5_countOn_31 rfl (lv_at hl 1 rfl) ?_
  exact fz_iret hx hb hr rfl hlocks hS dX5_countOn_32 () rfl hP (Nat.le_of_ble_eq_true rfl) (Nat.le_of_ble_eq_true rfl)

set_option maxHeartbeats 4000000 in
set_option maxRecDepth 100000 in
theorem c_bitCount0 (l : Launch) (A : Nat → Prop) (D : va_G) (k : Nat → ClassId) (q : Nat → Nat) (f : Nat → Nat → Int32) (pa : Nat → Option Nat) (v : Nat → Int32)   :
    Met l yJ6_bitCount_0f7a4 (fz_ws yJ6_bitCount_0f7a4 cJ6_bitCount_0f7a4 1 (some .int)) { frames := 0, cells := 0, slots := 0, locals := 0 } (va_Pc [.int 0] (fz_PC A D (fz_tys k) (fz_WC k q f pa v))) (fz_QI D A (fun (_ : Unit) => fz_WC k q f pa v) (fun (r : Int32) (_ : Unit) => r = 0)) 0 0 A := by
  refine fz_of (by decide +kernel) (Nat.le_of_ble_eq_true rfl) ?_
  intro p e s m below meth c hx hb hr hml hown hlocks hts hin hA hP hK hD hG hS ls hl
  have hown : s.vm.findClass RJ6 = some m.cls := hown
  have S0 : CallFix p m c cJ6_bitCount_0f7a4 1 s [.int 0].toArray (fz_ws yJ6_bitCount_0f7a4 cJ6_bitCount_0f7a4 1 (some .int)) RJ6 := ⟨hx, hb, hml, hown, hts⟩
  have hl : lv_has ls 1 [(0, .int 0)] := hl
  refine lv_iload_n hx hb dJ6_bitCount_0f7a4_0 rfl (lv_at hl 0 rfl) ?_
  refine lv_iload_n hx hb dJ6_bitCount_0f7a4_1 rfl (lv_at hl 0 rfl) ?_
  refine lv_iconst (v := 1) hx hb dJ6_bitCount_0f7a4_2 (by decide) ?_
  refine lv_iushr (v := 0) hx hb dJ6_bitCount_0f7a4_3 (by decide) ?_
  refine lv_ldcw (v := 1431655765) hx hb hown (hts _ (fz_m fm_81)) dJ6_bitCount_0f7a4_4 ?_
  refine lv_iand hx hb dJ6_bitCount_0f7a4_7 ?_
  refine fz_I (y := 0) (by decide) ?_
  refine lv_isub hx hb dJ6_bitCount_0f7a4_8 ?_
  refine fz_I (y := 0) (by decide) ?_
  refine lv_istore_n (lv' := [(0, .int 0)]) hx hb dJ6_bitCount_0f7a4_9 rfl hl (by decide) rfl (fun ls hl => ?_)
  refine lv_iload_n hx hb dJ6_bitCount_0f7a4_10 rfl (lv_at hl 0 rfl) ?_
  refine lv_ldcw (v := 858993459) hx hb hown (hts _ (fz_m fm_82)) dJ6_bitCount_0f7a4_11 ?_
  refine lv_iand hx hb dJ6_bitCount_0f7a4_14 ?_
  refine fz_I (y := 0) (by decide) ?_
  refine lv_iload_n hx hb dJ6_bitCount_0f7a4_15 rfl (lv_at hl 0 rfl) ?_
  refine lv_iconst (v := 2) hx hb dJ6_bitCount_0f7a4_16 (by decide) ?_
  refine lv_iushr (v := 0) hx hb dJ6_bitCount_0f7a4_17 (by decide) ?_
  refine lv_ldcw (v := 858993459) hx hb hown (hts _ (fz_m fm_82)) dJ6_bitCount_0f7a4_18 ?_
  refine lv_iand hx hb dJ6_bitCount_0f7a4_21 ?_
  refine fz_I (y := 0) (by decide) ?_
  refine lv_iadd hx hb dJ6_bitCount_0f7a4_22 ?_
  refine fz_I (y := 0) (by decide) ?_
  refine lv_istore_n (lv' := [(0, .int 0)]) hx hb dJ6_bitCount_0f7a4_23 rfl hl (by decide) rfl (fun ls hl => ?_)
  refine lv_iload_n hx hb dJ6_bitCount_0f7a4_24 rfl (lv_at hl 0 rfl) ?_
  refine lv_iload_n hx hb dJ6_bitCount_0f7a4_25 rfl (lv_at hl 0 rfl) ?_
  refine lv_iconst (v := 4) hx hb dJ6_bitCount_0f7a4_26 (by decide) ?_
  refine lv_iushr (v := 0) hx hb dJ6_bitCount_0f7a4_27 (by decide) ?_
  refine lv_iadd hx hb dJ6_bitCount_0f7a4_28 ?_
  refine fz_I (y := 0) (by decide) ?_
  refine lv_ldcw (v := 252645135) hx hb hown (hts _ (fz_m fm_83)) dJ6_bitCount_0f7a4_29 ?_
  refine lv_iand hx hb dJ6_bitCount_0f7a4_32 ?_
  refine fz_I (y := 0) (by decide) ?_
  refine lv_istore_n (lv' := [(0, .int 0)]) hx hb dJ6_bitCount_0f7a4_33 rfl hl (by decide) rfl (fun ls hl => ?_)
  refine lv_iload_n hx hb dJ6_bitCount_0f7a4_34 rfl (lv_at hl 0 rfl) ?_
  refine lv_iload_n hx hb dJ6_bitCount_0f7a4_35 rfl (lv_at hl 0 rfl) ?_
  refine lv_bipush (v := 8) hx hb dJ6_bitCount_0f7a4_36 (by decide) ?_
  refine lv_iushr (v := 0) hx hb dJ6_bitCount_0f7a4_38 (by decide) ?_
  refine lv_iadd hx hb dJ6_bitCount_0f7a4_39 ?_
  refine fz_I (y := 0) (by decide) ?_
  refine lv_istore_n (lv' := [(0, .int 0)]) hx hb dJ6_bitCount_0f7a4_40 rfl hl (by decide) rfl (fun ls hl => ?_)
  refine lv_iload_n hx hb dJ6_bitCount_0f7a4_41 rfl (lv_at hl 0 rfl) ?_
  refine lv_iload_n hx hb dJ6_bitCount_0f7a4_42 rfl (lv_at hl 0 rfl) ?_
  refine lv_bipush (v := 16) hx hb dJ6_bitCount_0f7a4_43 (by decide) ?_
  refine lv_iushr (v := 0) hx hb dJ6_bitCount_0f7a4_45 (by decide) ?_
  refine lv_iadd hx hb dJ6_bitCount_0f7a4_46 ?_
  refine fz_I (y := 0) (by decide) ?_
  refine lv_istore_n (lv' := [(0, .int 0)]) hx hb dJ6_bitCount_0f7a4_47 rfl hl (by decide) rfl (fun ls hl => ?_)
  refine lv_iload_n hx hb dJ6_bitCount_0f7a4_48 rfl (lv_at hl 0 rfl) ?_
  refine lv_bipush (v := 63) hx hb dJ6_bitCount_0f7a4_49 (by decide) ?_
  refine lv_iand hx hb dJ6_bitCount_0f7a4_51 ?_
  refine fz_I (y := 0) (by decide) ?_
  exact fz_iret hx hb hr rfl hlocks hS dJ6_bitCount_0f7a4_52 () rfl hP (Nat.le_of_ble_eq_true rfl) (Nat.le_of_ble_eq_true rfl)

set_option maxHeartbeats 4000000 in
set_option maxRecDepth 100000 in
theorem c_countReaders (l : Launch) (A : Nat → Prop) (D : va_G) (k : Nat → ClassId) (q : Nat → Nat) (f : Nat → Nat → Int32) (pa : Nat → Option Nat) (v : Nat → Int32) (p0 : Int32) (g_v_8 : v 8 = 0)  :
    Met l yX5_countReaders (fz_ws yX5_countReaders cX5_countReaders 4 (some .int)) { frames := 12, cells := 0, slots := 0, locals := 160 } (va_Pc [.ref (q 26), .int p0] (fz_PC A D (fz_tys k) (fz_WC k q f pa v))) (fz_QI D A (fun (_ : Unit) => fz_WC k q f pa v) (fun (r : Int32) (_ : Unit) => r = 0)) 0 0 A := by
  refine fz_of (by decide +kernel) (Nat.le_of_ble_eq_true rfl) ?_
  intro p e s m below meth c hx hb hr hml hown hlocks hts hin hA hP hK hD hG hS ls hl
  have hown : s.vm.findClass RX5 = some m.cls := hown
  have S0 : CallFix p m c cX5_countReaders 4 s [.ref (q 26), .int p0].toArray (fz_ws yX5_countReaders cX5_countReaders 4 (some .int)) RX5 := ⟨hx, hb, hml, hown, hts⟩
  have hl : lv_has ls 4 [(0, .ref (q 26)), (1, .int p0)] := hl
  refine lv_iconst (v := 0) hx hb dX5_countReaders_0 (by decide) ?_
  refine lv_istore_n (lv' := [(2, .int 0), (0, .ref (q 26)), (1, .int p0)]) hx hb dX5_countReaders_1 rfl hl (by decide) rfl (fun ls hl => ?_)
  refine lv_iconst (v := 0) hx hb dX5_countReaders_2 (by decide) ?_
  refine lv_istore_n (lv' := [(3, .int 0), (2, .int 0), (0, .ref (q 26)), (1, .int p0)]) hx hb dX5_countReaders_3 rfl hl (by decide) rfl (fun ls hl => ?_)
  refine lv_iload_n hx hb dX5_countReaders_4 rfl (lv_at hl 0 rfl) ?_
  refine lv_aload_n hx hb dX5_countReaders_5 rfl (lv_at hl 2 rfl) ?_
  refine va_get (D := D) (ci := 9) (v := .int (v 8)) (C := RX5) (T := TX5) (N := 5) hx hb hts (fun w9 h9 => fz_m (fin_X5 w9 h9)) hown hK hP 26 rfl rfl 0 (by decide) (hts _ (fz_m fm_80)) (fun _ h9 => h9) rfl dX5_countReaders_6 ?_
  refine fz_I (y := 0) g_v_8 ?_
  refine lv_icmp_ge (tgt := 39) hx hb dX5_countReaders_9 (by decide) (fun c_1 => ?_) (fun c_1 => absurd (by decide) c_1)
  refine lv_iload_n hx hb dX5_countReaders_39 rfl (lv_at hl 1 rfl) ?_
  refine fz_cSi (As := [.int 0]) (rest := []) S0 (c_bitCount0 l A D k q f pa v ) (fz_cwS 1 hts fm_84 fm_85 fm_86 fm_87 rfl rfl ⟨by decide, by decide, by decide +kernel⟩ ⟨Nat.le_of_ble_eq_true rfl, Nat.le_of_ble_eq_true rfl⟩) (fun _ h9 => h9) (fun a9 h9 => hA a9 (Nat.le_trans hS.1 h9)) hG hS hP hK hD rfl hl.1 rfl (Nat.le_of_ble_eq_true rfl) dX5_countReaders_40 ⟨Nat.le_of_ble_eq_true rfl, Nat.le_of_ble_eq_true rfl⟩ (fun r_2 u_2 H locs hw hz1 hk1 hP hS => ?_)
  have hP : va_P D vwCl (fz_WC k q f pa v) H := hP
  obtain rfl : r_2 = 0 := hw
  exact fz_iret hx hb hr rfl hlocks hS dX5_countReaders_43 () rfl hP (Nat.le_of_ble_eq_true rfl) (Nat.le_of_ble_eq_true rfl)

set_option maxHeartbeats 4000000 in
set_option maxRecDepth 100000 in
theorem c_countShowing (l : Launch) (A : Nat → Prop) (D : va_G) (k : Nat → ClassId) (q : Nat → Nat) (f : Nat → Nat → Int32) (pa : Nat → Option Nat) (v : Nat → Int32) (p0 : Int32) (g_v_8 : v 8 = 0)  :
    Met l yX5_countShowing (fz_ws yX5_countShowing cX5_countShowing 4 (some .int)) { frames := 0, cells := 0, slots := 0, locals := 0 } (va_Pc [.ref (q 26), .int p0] (fz_PC A D (fz_tys k) (fz_WC k q f pa v))) (fz_QI D A (fun (_ : Unit) => fz_WC k q f pa v) (fun (r : Int32) (_ : Unit) => r = 0)) 0 0 A := by
  refine fz_of (by decide +kernel) (Nat.le_of_ble_eq_true rfl) ?_
  intro p e s m below meth c hx hb hr hml hown hlocks hts hin hA hP hK hD hG hS ls hl
  have hown : s.vm.findClass RX5 = some m.cls := hown
  have S0 : CallFix p m c cX5_countShowing 4 s [.ref (q 26), .int p0].toArray (fz_ws yX5_countShowing cX5_countShowing 4 (some .int)) RX5 := ⟨hx, hb, hml, hown, hts⟩
  have hl : lv_has ls 4 [(0, .ref (q 26)), (1, .int p0)] := hl
  refine lv_iconst (v := 0) hx hb dX5_countShowing_0 (by decide) ?_
  refine lv_istore_n (lv' := [(2, .int 0), (0, .ref (q 26)), (1, .int p0)]) hx hb dX5_countShowing_1 rfl hl (by decide) rfl (fun ls hl => ?_)
  refine lv_iconst (v := 0) hx hb dX5_countShowing_2 (by decide) ?_
  refine lv_istore_n (lv' := [(3, .int 0), (2, .int 0), (0, .ref (q 26)), (1, .int p0)]) hx hb dX5_countShowing_3 rfl hl (by decide) rfl (fun ls hl => ?_)
  refine lv_iload_n hx hb dX5_countShowing_4 rfl (lv_at hl 0 rfl) ?_
  refine lv_aload_n hx hb dX5_countShowing_5 rfl (lv_at hl 2 rfl) ?_
  refine va_get (D := D) (ci := 9) (v := .int (v 8)) (C := RX5) (T := TX5) (N := 5) hx hb hts (fun w9 h9 => fz_m (fin_X5 w9 h9)) hown hK hP 26 rfl rfl 0 (by decide) (hts _ (fz_m fm_80)) (fun _ h9 => h9) rfl dX5_countShowing_6 ?_
  refine fz_I (y := 0) g_v_8 ?_
  refine lv_icmp_ge (tgt := 31) hx hb dX5_countShowing_9 (by decide) (fun c_1 => ?_) (fun c_1 => absurd (by decide) c_1)
  refine lv_iload_n hx hb dX5_countShowing_31 rfl (lv_at hl 1 rfl) ?_
  exact fz_iret hx hb hr rfl hlocks hS dX5_countShowing_32 () rfl hP (Nat.le_of_ble_eq_true rfl) (Nat.le_of_ble_eq_true rfl)

set_option maxHeartbeats 4000000 in
set_option maxRecDepth 100000 in
theorem c_countAllShown (l : Launch) (A : Nat → Prop) (D : va_G) (k : Nat → ClassId) (q : Nat → Nat) (f : Nat → Nat → Int32) (pa : Nat → Option Nat) (v : Nat → Int32) (g_v_8 : v 8 = 0)  :
    Met l yX7_countAllShownPages (fz_ws yX7_countAllShownPages cX7_countAllShownPages 3 (some .int)) { frames := 0, cells := 0, slots := 0, locals := 0 } (va_Pc [.ref (q 0)] (fz_PC A D (fz_tys k) (fz_WC k q f pa v))) (fz_QI D A (fun (_ : Unit) => fz_WC k q f pa v) (fun (r : Int32) (_ : Unit) => r = 0)) 0 0 A := by
  refine fz_of (by decide +kernel) (Nat.le_of_ble_eq_true rfl) ?_
  intro p e s m below meth c hx hb hr hml hown hlocks hts hin hA hP hK hD hG hS ls hl
  have hown : s.vm.findClass RX7 = some m.cls := hown
  have S0 : CallFix p m c cX7_countAllShownPages 3 s [.ref (q 0)].toArray (fz_ws yX7_countAllShownPages cX7_countAllShownPages 3 (some .int)) RX7 := ⟨hx, hb, hml, hown, hts⟩
  have hl : lv_has ls 3 [(0, .ref (q 0))] := hl
  refine lv_iconst (v := 0) hx hb dX7_countAllShownPages_0 (by decide) ?_
  refine lv_istore_n (lv' := [(1, .int 0), (0, .ref (q 0))]) hx hb dX7_countAllShownPages_1 rfl hl (by decide) rfl (fun ls hl => ?_)
  refine lv_iconst (v := 0) hx hb dX7_countAllShownPages_2 (by decide) ?_
  refine lv_istore_n (lv' := [(2, .int 0), (1, .int 0), (0, .ref (q 0))]) hx hb dX7_countAllShownPages_3 rfl hl (by decide) rfl (fun ls hl => ?_)
  refine lv_iload_n hx hb dX7_countAllShownPages_4 rfl (lv_at hl 0 rfl) ?_
  refine lv_aload_n hx hb dX7_countAllShownPages_5 rfl (lv_at hl 2 rfl) ?_
  refine va_get (D := D) (ci := 11) (v := .ref (q 26)) (C := RX7) (T := TX7) (N := 6) hx hb hts (fun w9 h9 => fz_m (fin_X7 w9 h9)) hown hK hP 0 rfl rfl 4 (by decide) (hts _ (fz_m fm_88)) (fun _ h9 => h9) rfl dX7_countAllShownPages_6 ?_
  refine va_get (D := D) (ci := 9) (v := .int (v 8)) (C := RX5) (T := TX5) (N := 5) hx hb hts (fun w9 h9 => fz_m (fin_X5 w9 h9)) hown hK hP 26 rfl rfl 0 (by decide) (hts _ (fz_m fm_89)) (fun _ h9 => h9) rfl dX7_countAllShownPages_9 ?_
  refine fz_I (y := 0) g_v_8 ?_
  refine lv_icmp_ge (tgt := 29) hx hb dX7_countAllShownPages_12 (by decide) (fun c_1 => ?_) (fun c_1 => absurd (by decide) c_1)
  refine lv_iload_n hx hb dX7_countAllShownPages_29 rfl (lv_at hl 1 rfl) ?_
  exact fz_iret hx hb hr rfl hlocks hS dX7_countAllShownPages_30 () rfl hP (Nat.le_of_ble_eq_true rfl) (Nat.le_of_ble_eq_true rfl)

set_option maxHeartbeats 4000000 in
set_option maxRecDepth 100000 in
theorem c_countOpenUnits (l : Launch) (A : Nat → Prop) (D : va_G) (k : Nat → ClassId) (q : Nat → Nat) (f : Nat → Nat → Int32) (pa : Nat → Option Nat) (v : Nat → Int32) (p0 : Int32) (g_v_2 : v 2 = 1) (g_f_2_0 : f 2 0 = 0) (g_f_7_0 : f 7 0 = 0)  :
    Met l yX7_countOpenUnits (fz_ws yX7_countOpenUnits cX7_countOpenUnits 5 (some .int)) { frames := 0, cells := 0, slots := 0, locals := 0 } (va_Pc [.ref (q 0), .int p0] (fz_PC A D (fz_tys k) (fz_WC k q f pa v))) (fz_QI D A (fun (_ : Unit) => fz_WC k q f pa v) (fun (r : Int32) (_ : Unit) => r = 0)) 0 0 A := by
  refine fz_of (by decide +kernel) (Nat.le_of_ble_eq_true rfl) ?_
  intro p e s m below meth c hx hb hr hml hown hlocks hts hin hA hP hK hD hG hS ls hl
  have hown : s.vm.findClass RX7 = some m.cls := hown
  have S0 : CallFix p m c cX7_countOpenUnits 5 s [.ref (q 0), .int p0].toArray (fz_ws yX7_countOpenUnits cX7_countOpenUnits 5 (some .int)) RX7 := ⟨hx, hb, hml, hown, hts⟩
  have hl : lv_has ls 5 [(0, .ref (q 0)), (1, .int p0)] := hl
  refine lv_iconst (v := 0) hx hb dX7_countOpenUnits_0 (by decide) ?_
  refine lv_istore_n (lv' := [(2, .int 0), (0, .ref (q 0)), (1, .int p0)]) hx hb dX7_countOpenUnits_1 rfl hl (by decide) rfl (fun ls hl => ?_)
  refine lv_iconst (v := 0) hx hb dX7_countOpenUnits_2 (by decide) ?_
  refine lv_istore_n (lv' := [(3, .int 0), (2, .int 0), (0, .ref (q 0)), (1, .int p0)]) hx hb dX7_countOpenUnits_3 rfl hl (by decide) rfl (fun ls hl => ?_)
  refine lv_iload_n hx hb dX7_countOpenUnits_4 rfl (lv_at hl 0 rfl) ?_
  refine lv_aload_n hx hb dX7_countOpenUnits_5 rfl (lv_at hl 2 rfl) ?_
  refine va_get (D := D) (ci := 11) (v := .ref (q 1)) (C := RX7) (T := TX7) (N := 6) hx hb hts (fun w9 h9 => fz_m (fin_X7 w9 h9)) hown hK hP 0 rfl rfl 0 (by decide) (hts _ (fz_m fm_90)) (fun _ h9 => h9) rfl dX7_countOpenUnits_6 ?_
  refine va_get (D := D) (ci := 12) (v := .int (v 2)) (C := RX8) (T := TX8) (N := 10) hx hb hts (fun w9 h9 => fz_m (fin_X8 w9 h9)) hown hK hP 1 rfl rfl 1 (by decide) (hts _ (fz_m fm_91)) (fun _ h9 => h9) rfl dX7_countOpenUnits_9 ?_
  refine fz_I (y := 1) g_v_2 ?_
  refine lv_icmp_ge (tgt := 59) hx hb dX7_countOpenUnits_12 (by decide) (fun c_1 => absurd c_1 (by decide)) (fun c_1 => ?_)
  refine lv_aload_n hx hb dX7_countOpenUnits_15 rfl (lv_at hl 2 rfl) ?_
  refine va_get (D := D) (ci := 11) (v := .ref (q 1)) (C := RX7) (T := TX7) (N := 6) hx hb hts (fun w9 h9 => fz_m (fin_X7 w9 h9)) hown hK hP 0 rfl rfl 0 (by decide) (hts _ (fz_m fm_90)) (fun _ h9 => h9) rfl dX7_countOpenUnits_16 ?_
  refine va_get (D := D) (ci := 12) (v := .ref (q 2)) (C := RX8) (T := TX8) (N := 10) hx hb hts (fun w9 h9 => fz_m (fin_X8 w9 h9)) hown hK hP 1 rfl rfl 2 (by decide) (hts _ (fz_m fm_92)) (fun _ h9 => h9) rfl dX7_countOpenUnits_19 ?_
  refine lv_iload_n hx hb dX7_countOpenUnits_22 rfl (lv_at hl 0 rfl) ?_
  refine va_iald hx hb hK hP 2 0 rfl rfl (fz_vin (by decide)) dX7_countOpenUnits_23 ?_
  refine fz_I (y := 0) g_f_2_0 ?_
  refine lv_istore (lv' := [(4, .int 0), (3, .int 0), (2, .int 0), (0, .ref (q 0)), (1, .int p0)]) hx hb dX7_countOpenUnits_24 hl (by decide) rfl (fun ls hl => ?_)
  refine lv_aload_n hx hb dX7_countOpenUnits_26 rfl (lv_at hl 3 rfl) ?_
  refine va_get (D := D) (ci := 11) (v := .ref (q 1)) (C := RX7) (T := TX7) (N := 6) hx hb hts (fun w9 h9 => fz_m (fin_X7 w9 h9)) hown hK hP 0 rfl rfl 0 (by decide) (hts _ (fz_m fm_90)) (fun _ h9 => h9) rfl dX7_countOpenUnits_27 ?_
  refine va_get (D := D) (ci := 12) (v := .ref (q 7)) (C := RX8) (T := TX8) (N := 10) hx hb hts (fun w9 h9 => fz_m (fin_X8 w9 h9)) hown hK hP 1 rfl rfl 7 (by decide) (hts _ (fz_m fm_93)) (fun _ h9 => h9) rfl dX7_countOpenUnits_30 ?_
  refine lv_iload hx hb dX7_countOpenUnits_33 (lv_at hl 0 rfl) ?_
  refine va_iald hx hb hK hP 7 0 rfl rfl (fz_vin (by decide)) dX7_countOpenUnits_35 ?_
  refine fz_I (y := 0) g_f_7_0 ?_
  refine lv_if_le (tgt := 53) hx hb dX7_countOpenUnits_36 (by decide) (fun c_2 => ?_) (fun c_2 => absurd (by decide) c_2)
  refine lv_iinc (v := 1) (lv' := [(3, .int 1), (4, .int 0), (2, .int 0), (0, .ref (q 0)), (1, .int p0)]) hx hb dX7_countOpenUnits_53 hl (k := 1) rfl (by decide) (by decide) rfl (fun ls hl => ?_)
  refine lv_goto (tgt := 4) hx hb dX7_countOpenUnits_56 (by decide) ?_
  refine lv_iload_n hx hb dX7_countOpenUnits_4 rfl (lv_at hl 0 rfl) ?_
  refine lv_aload_n hx hb dX7_countOpenUnits_5 rfl (lv_at hl 3 rfl) ?_
  refine va_get (D := D) (ci := 11) (v := .ref (q 1)) (C := RX7) (T := TX7) (N := 6) hx hb hts (fun w9 h9 => fz_m (fin_X7 w9 h9)) hown hK hP 0 rfl rfl 0 (by decide) (hts _ (fz_m fm_90)) (fun _ h9 => h9) rfl dX7_countOpenUnits_6 ?_
  refine va_get (D := D) (ci := 12) (v := .int (v 2)) (C := RX8) (T := TX8) (N := 10) hx hb hts (fun w9 h9 => fz_m (fin_X8 w9 h9)) hown hK hP 1 rfl rfl 1 (by decide) (hts _ (fz_m fm_91)) (fun _ h9 => h9) rfl dX7_countOpenUnits_9 ?_
  refine fz_I (y := 1) g_v_2 ?_
  refine lv_icmp_ge (tgt := 59) hx hb dX7_countOpenUnits_12 (by decide) (fun c_3 => ?_) (fun c_3 => absurd (by decide) c_3)
  refine lv_iload_n hx hb dX7_countOpenUnits_59 rfl (lv_at hl 2 rfl) ?_
  exact fz_iret hx hb hr rfl hlocks hS dX7_countOpenUnits_60 () rfl hP (Nat.le_of_ble_eq_true rfl) (Nat.le_of_ble_eq_true rfl)

set_option maxHeartbeats 4000000 in
set_option maxRecDepth 100000 in
theorem c_countOpenPages (l : Launch) (A : Nat → Prop) (D : va_G) (k : Nat → ClassId) (q : Nat → Nat) (f : Nat → Nat → Int32) (pa : Nat → Option Nat) (v : Nat → Int32) (p0 : Int32) (g_v_2 : v 2 = 1) (g_f_2_0 : f 2 0 = 0) (g_f_7_0 : f 7 0 = 0)  :
    Met l yX7_countOpenPages (fz_ws yX7_countOpenPages cX7_countOpenPages 4 (some .int)) { frames := 12, cells := 0, slots := 0, locals := 160 } (va_Pc [.ref (q 0), .int p0] (fz_PC A D (fz_tys k) (fz_WC k q f pa v))) (fz_QI D A (fun (_ : Unit) => fz_WC k q f pa v) (fun (r : Int32) (_ : Unit) => r = 0)) 0 0 A := by
  refine fz_of (by decide +kernel) (Nat.le_of_ble_eq_true rfl) ?_
  intro p e s m below meth c hx hb hr hml hown hlocks hts hin hA hP hK hD hG hS ls hl
  have hown : s.vm.findClass RX7 = some m.cls := hown
  have S0 : CallFix p m c cX7_countOpenPages 4 s [.ref (q 0), .int p0].toArray (fz_ws yX7_countOpenPages cX7_countOpenPages 4 (some .int)) RX7 := ⟨hx, hb, hml, hown, hts⟩
  have hl : lv_has ls 4 [(0, .ref (q 0)), (1, .int p0)] := hl
  refine lv_iconst (v := 0) hx hb dX7_countOpenPages_0 (by decide) ?_
  refine lv_istore_n (lv' := [(2, .int 0), (0, .ref (q 0)), (1, .int p0)]) hx hb dX7_countOpenPages_1 rfl hl (by decide) rfl (fun ls hl => ?_)
  refine lv_iconst (v := 0) hx hb dX7_countOpenPages_2 (by decide) ?_
  refine lv_istore_n (lv' := [(3, .int 0), (2, .int 0), (0, .ref (q 0)), (1, .int p0)]) hx hb dX7_countOpenPages_3 rfl hl (by decide) rfl (fun ls hl => ?_)
  refine lv_iload_n hx hb dX7_countOpenPages_4 rfl (lv_at hl 0 rfl) ?_
  refine lv_aload_n hx hb dX7_countOpenPages_5 rfl (lv_at hl 2 rfl) ?_
  refine va_get (D := D) (ci := 11) (v := .ref (q 1)) (C := RX7) (T := TX7) (N := 6) hx hb hts (fun w9 h9 => fz_m (fin_X7 w9 h9)) hown hK hP 0 rfl rfl 0 (by decide) (hts _ (fz_m fm_90)) (fun _ h9 => h9) rfl dX7_countOpenPages_6 ?_
  refine va_get (D := D) (ci := 12) (v := .int (v 2)) (C := RX8) (T := TX8) (N := 10) hx hb hts (fun w9 h9 => fz_m (fin_X8 w9 h9)) hown hK hP 1 rfl rfl 1 (by decide) (hts _ (fz_m fm_91)) (fun _ h9 => h9) rfl dX7_countOpenPages_9 ?_
  refine fz_I (y := 1) g_v_2 ?_
  refine lv_icmp_ge (tgt := 48) hx hb dX7_countOpenPages_12 (by decide) (fun c_1 => absurd c_1 (by decide)) (fun c_1 => ?_)
  refine lv_iload_n hx hb dX7_countOpenPages_15 rfl (lv_at hl 1 rfl) ?_
  refine lv_aload_n hx hb dX7_countOpenPages_16 rfl (lv_at hl 2 rfl) ?_
  refine va_get (D := D) (ci := 11) (v := .ref (q 10)) (C := RX7) (T := TX7) (N := 6) hx hb hts (fun w9 h9 => fz_m (fin_X7 w9 h9)) hown hK hP 0 rfl rfl 1 (by decide) (hts _ (fz_m fm_94)) (fun _ h9 => h9) rfl dX7_countOpenPages_17 ?_
  refine lv_aload_n hx hb dX7_countOpenPages_20 rfl (lv_at hl 2 rfl) ?_
  refine va_get (D := D) (ci := 11) (v := .ref (q 1)) (C := RX7) (T := TX7) (N := 6) hx hb hts (fun w9 h9 => fz_m (fin_X7 w9 h9)) hown hK hP 0 rfl rfl 0 (by decide) (hts _ (fz_m fm_90)) (fun _ h9 => h9) rfl dX7_countOpenPages_21 ?_
  refine lv_aload_n hx hb dX7_countOpenPages_24 rfl (lv_at hl 2 rfl) ?_
  refine va_get (D := D) (ci := 11) (v := .ref (q 1)) (C := RX7) (T := TX7) (N := 6) hx hb hts (fun w9 h9 => fz_m (fin_X7 w9 h9)) hown hK hP 0 rfl rfl 0 (by decide) (hts _ (fz_m fm_90)) (fun _ h9 => h9) rfl dX7_countOpenPages_25 ?_
  refine va_get (D := D) (ci := 12) (v := .ref (q 2)) (C := RX8) (T := TX8) (N := 10) hx hb hts (fun w9 h9 => fz_m (fin_X8 w9 h9)) hown hK hP 1 rfl rfl 2 (by decide) (hts _ (fz_m fm_92)) (fun _ h9 => h9) rfl dX7_countOpenPages_28 ?_
  refine lv_iload_n hx hb dX7_countOpenPages_31 rfl (lv_at hl 0 rfl) ?_
  refine va_iald hx hb hK hP 2 0 rfl rfl (fz_vin (by decide)) dX7_countOpenPages_32 ?_
  refine fz_I (y := 0) g_f_2_0 ?_
  refine lv_iload_n hx hb dX7_countOpenPages_33 rfl (lv_at hl 3 rfl) ?_
  refine fz_cVi (As := [.ref (q 1), .int 0, .int p0]) (rest := [.int 0]) S0 (c_openSet l A D k q f pa v p0 g_f_7_0) (fz_cwV (C := RX6) 3 hts fm_95 fm_96 fm_97 fm_98 fm_54 rfl rfl ⟨by decide, by decide, by decide +kernel⟩ ⟨Nat.le_of_ble_eq_true rfl, Nat.le_of_ble_eq_true rfl⟩) (va_recv hK hP (ci := 10) (q0 := 10) rfl rfl) (fun _ h9 => h9) (fun a9 h9 => hA a9 (Nat.le_trans hS.1 h9)) hG hS hP hK hD rfl hl.1 rfl (Nat.le_of_ble_eq_true rfl) dX7_countOpenPages_34 ⟨Nat.le_of_ble_eq_true rfl, Nat.le_of_ble_eq_true rfl⟩ (fun r_2 u_2 H locs hw hz1 hk1 hP hS => ?_)
  have hP : va_P D vwCl (fz_WC k q f pa v) H := hP
  obtain rfl : r_2 = 0 := hw
  refine fz_cSi (As := [.int 0]) (rest := [.int 0]) S0 (c_bitCount0 l A D k q f pa v ) (fz_cwS 1 hts fm_84 fm_99 fm_86 fm_87 rfl rfl ⟨by decide, by decide, by decide +kernel⟩ ⟨Nat.le_of_ble_eq_true rfl, Nat.le_of_ble_eq_true rfl⟩) (fun _ h9 => h9) (fun a9 h9 => hA a9 (Nat.le_trans hS.1 h9)) hG hS hP hK hD rfl hl.1 rfl (Nat.le_of_ble_eq_true rfl) dX7_countOpenPages_37 ⟨Nat.le_of_ble_eq_true rfl, Nat.le_of_ble_eq_true rfl⟩ (fun r_3 u_3 H locs hw hz1 hk1 hP hS => ?_)
  have hP : va_P D vwCl (fz_WC k q f pa v) H := hP
  obtain rfl : r_3 = 0 := hw
  refine lv_iadd hx hb dX7_countOpenPages_40 ?_
  refine fz_I (y := 0) (by decide) ?_
  refine lv_istore_n (lv' := [(2, .int 0), (3, .int 0), (0, .ref (q 0)), (1, .int p0)]) hx hb dX7_countOpenPages_41 rfl hl (by decide) rfl (fun ls hl => ?_)
  refine lv_iinc (v := 1) (lv' := [(3, .int 1), (2, .int 0), (0, .ref (q 0)), (1, .int p0)]) hx hb dX7_countOpenPages_42 hl (k := 1) rfl (by decide) (by decide) rfl (fun ls hl => ?_)
  refine lv_goto (tgt := 4) hx hb dX7_countOpenPages_45 (by decide) ?_
  refine lv_iload_n hx hb dX7_countOpenPages_4 rfl (lv_at hl 0 rfl) ?_
  refine lv_aload_n hx hb dX7_countOpenPages_5 rfl (lv_at hl 2 rfl) ?_
  refine va_get (D := D) (ci := 11) (v := .ref (q 1)) (C := RX7) (T := TX7) (N := 6) hx hb hts (fun w9 h9 => fz_m (fin_X7 w9 h9)) hown hK hP 0 rfl rfl 0 (by decide) (hts _ (fz_m fm_90)) (fun _ h9 => h9) rfl dX7_countOpenPages_6 ?_
  refine va_get (D := D) (ci := 12) (v := .int (v 2)) (C := RX8) (T := TX8) (N := 10) hx hb hts (fun w9 h9 => fz_m (fin_X8 w9 h9)) hown hK hP 1 rfl rfl 1 (by decide) (hts _ (fz_m fm_91)) (fun _ h9 => h9) rfl dX7_countOpenPages_9 ?_
  refine fz_I (y := 1) g_v_2 ?_
  refine lv_icmp_ge (tgt := 48) hx hb dX7_countOpenPages_12 (by decide) (fun c_4 => ?_) (fun c_4 => absurd (by decide) c_4)
  refine lv_iload_n hx hb dX7_countOpenPages_48 rfl (lv_at hl 1 rfl) ?_
  exact fz_iret hx hb hr rfl hlocks hS dX7_countOpenPages_49 () rfl hP (Nat.le_of_ble_eq_true rfl) (Nat.le_of_ble_eq_true rfl)
end
section
theorem fz_fit_83 : Bundle.fit "java/lang/IllegalStateException" = true ∧ ∀ n ∈ fz_EN, Bundle.fit n = true := by decide +kernel
theorem fz_at_83 : ∀ w ∈ vx_atS RX9 83 "java/lang/IllegalStateException" fz_EN, w ∈ lw_tbl ∧ (goodWord w || fz_kind w) = true := by decide +kernel
theorem fz_ok_83 : ∀ w ∈ Cond.classLink RX9 79 "java/lang/IllegalStateException" :: Cond.initialized "java/lang/IllegalStateException" :: vx_atS RX9 83 "java/lang/IllegalStateException" fz_EN, vx_ot w = true := by decide +kernel
theorem fz_fit_420 : Bundle.fit "java/lang/ArithmeticException" = true ∧ ∀ n ∈ fz_EN, Bundle.fit n = true := by decide +kernel
theorem fz_at_420 : ∀ w ∈ vx_atS RX9 420 "java/lang/ArithmeticException" fz_EN, w ∈ lw_tbl ∧ (goodWord w || fz_kind w) = true := by decide +kernel
theorem fz_ok_420 : ∀ w ∈ Cond.classLink RX9 416 "java/lang/ArithmeticException" :: Cond.initialized "java/lang/ArithmeticException" :: vx_atS RX9 420 "java/lang/ArithmeticException" fz_EN, vx_ot w = true := by decide +kernel
theorem fm_100 : Cond.code yX9_requireNode cX9_requireNode 2 none ∈ fz_WA := fz_in (fz_tin 581 (by decide +kernel)) (by decide +kernel)
theorem fm_101 : Cond.methodLink RX9 51 yX9_requireNode ∈ fz_WA := fz_in (fz_tin 578 (by decide +kernel)) (by decide +kernel)
theorem fm_102 : Cond.instanceMethod yX9_requireNode ∈ fz_WA := fz_in (fz_tin 580 (by decide +kernel)) (by decide +kernel)
theorem fm_103 : Cond.selects RX9 yX9_requireNode yX9_requireNode ∈ fz_WA := fz_in (fz_sin 2 (by decide +kernel)) (by decide +kernel)
theorem fm_104 : Cond.fieldLink RX9 59 "FindingAid$Tree" "kind" "[I" ∈ fz_WA := fz_in (fz_tin 68 (by decide +kernel)) (by decide +kernel)
theorem fm_105 : Cond.code yX9_requirePart cX9_requirePart 2 none ∈ fz_WA := fz_in (fz_tin 708 (by decide +kernel)) (by decide +kernel)
theorem fm_106 : Cond.methodLink RX9 112 yX9_requirePart ∈ fz_WA := fz_in (fz_tin 706 (by decide +kernel)) (by decide +kernel)
theorem fm_107 : Cond.static yX9_requirePart ∈ fz_WA := fz_in (fz_tin 707 (by decide +kernel)) (by decide +kernel)
theorem fm_108 : Cond.fieldLink RX9 102 "FindingAid$Tree" "parent" "[I" ∈ fz_WA := fz_in (fz_tin 71 (by decide +kernel)) (by decide +kernel)
theorem fm_109 : Cond.fieldLink RX9 118 "FindingAid$Tree" "from" "[I" ∈ fz_WA := fz_in (fz_tin 80 (by decide +kernel)) (by decide +kernel)
theorem fm_110 : Cond.fieldLink RX9 121 "FindingAid$Tree" "to" "[I" ∈ fz_WA := fz_in (fz_tin 82 (by decide +kernel)) (by decide +kernel)
theorem fm_111 : Cond.methodLink RX9 124 yX8_latestDay ∈ fz_WA := fz_in (fz_tin 710 (by decide +kernel)) (by decide +kernel)
theorem fm_112 : Cond.code yX8_countChildren cX8_countChildren 4 (some .int) ∈ fz_WA := fz_in (fz_tin 714 (by decide +kernel)) (by decide +kernel)
theorem fm_113 : Cond.methodLink RX9 127 yX8_countChildren ∈ fz_WA := fz_in (fz_tin 711 (by decide +kernel)) (by decide +kernel)
theorem fm_114 : Cond.instanceMethod yX8_countChildren ∈ fz_WA := fz_in (fz_tin 712 (by decide +kernel)) (by decide +kernel)
theorem fm_115 : Cond.selects RX8 yX8_countChildren yX8_countChildren ∈ fz_WA := fz_in (fz_tin 713 (by decide +kernel)) (by decide +kernel)
theorem fm_116 : Cond.fieldLink RX9 130 "FindingAid$Tree" "below" "[I" ∈ fz_WA := fz_in (fz_tin 73 (by decide +kernel)) (by decide +kernel)
theorem fm_117 : Cond.code yX8_countPages cX8_countPages 6 (some .int) ∈ fz_WA := fz_in (fz_tin 718 (by decide +kernel)) (by decide +kernel)
theorem fm_118 : Cond.methodLink RX9 133 yX8_countPages ∈ fz_WA := fz_in (fz_tin 715 (by decide +kernel)) (by decide +kernel)
theorem fm_119 : Cond.instanceMethod yX8_countPages ∈ fz_WA := fz_in (fz_tin 716 (by decide +kernel)) (by decide +kernel)
theorem fm_120 : Cond.selects RX8 yX8_countPages yX8_countPages ∈ fz_WA := fz_in (fz_tin 717 (by decide +kernel)) (by decide +kernel)
theorem fm_121 : Cond.fieldLink RX9 140 "FindingAid$Containers" "holder" "[I" ∈ fz_WA := fz_in (fz_tin 159 (by decide +kernel)) (by decide +kernel)
theorem fm_122 : Cond.fieldLink RX9 145 "FindingAid$Containers" "serial" "[I" ∈ fz_WA := fz_in (fz_tin 162 (by decide +kernel)) (by decide +kernel)
theorem fm_123 : Cond.methodLink RX9 152 yX1_countOf ∈ fz_WA := fz_in (fz_tin 719 (by decide +kernel)) (by decide +kernel)
theorem fm_124 : Cond.code yX8_findChild cX8_findChild 5 (some .int) ∈ fz_WA := fz_in (fz_tin 733 (by decide +kernel)) (by decide +kernel)
theorem fm_125 : Cond.methodLink RX9 157 yX8_findChild ∈ fz_WA := fz_in (fz_tin 730 (by decide +kernel)) (by decide +kernel)
theorem fm_126 : Cond.instanceMethod yX8_findChild ∈ fz_WA := fz_in (fz_tin 731 (by decide +kernel)) (by decide +kernel)
theorem fm_127 : Cond.selects RX8 yX8_findChild yX8_findChild ∈ fz_WA := fz_in (fz_tin 732 (by decide +kernel)) (by decide +kernel)
theorem fm_128 : Cond.fieldLink RX9 168 "FindingAid$State" "rules" "LFindingAid$Rules;" ∈ fz_WA := fz_in (fz_tin 241 (by decide +kernel)) (by decide +kernel)
theorem fm_129 : Cond.methodLink RX9 187 yX6_term ∈ fz_WA := fz_in (fz_tin 759 (by decide +kernel)) (by decide +kernel)
theorem fm_130 : Cond.methodLink RX9 191 yX6_decidingNode ∈ fz_WA := fz_in (fz_tin 760 (by decide +kernel)) (by decide +kernel)
theorem fm_131 : Cond.code yX6_lastClosedDay cX6_lastClosedDay 3 (some .int) ∈ fz_WA := fz_in (fz_tin 453 (by decide +kernel)) (by decide +kernel)
theorem fm_132 : Cond.methodLink RX9 194 yX6_lastClosedDay ∈ fz_WA := fz_in (fz_tin 761 (by decide +kernel)) (by decide +kernel)
theorem fm_133 : Cond.instanceMethod yX6_lastClosedDay ∈ fz_WA := fz_in (fz_tin 451 (by decide +kernel)) (by decide +kernel)
theorem fm_134 : Cond.selects RX6 yX6_lastClosedDay yX6_lastClosedDay ∈ fz_WA := fz_in (fz_tin 452 (by decide +kernel)) (by decide +kernel)
theorem fm_135 : Cond.code yX9_requireDay cX9_requireDay 1 none ∈ fz_WA := fz_in (fz_tin 771 (by decide +kernel)) (by decide +kernel)
theorem fm_136 : Cond.methodLink RX9 197 yX9_requireDay ∈ fz_WA := fz_in (fz_tin 769 (by decide +kernel)) (by decide +kernel)
theorem fm_137 : Cond.static yX9_requireDay ∈ fz_WA := fz_in (fz_tin 770 (by decide +kernel)) (by decide +kernel)
theorem fm_138 : Cond.methodLink RX9 200 yX6_openSet ∈ fz_WA := fz_in (fz_tin 773 (by decide +kernel)) (by decide +kernel)
theorem fm_139 : Cond.code yX9_requireCopy cX9_requireCopy 2 none ∈ fz_WA := fz_in (fz_tin 785 (by decide +kernel)) (by decide +kernel)
theorem fm_140 : Cond.methodLink RX9 204 yX9_requireCopy ∈ fz_WA := fz_in (fz_tin 782 (by decide +kernel)) (by decide +kernel)
theorem fm_141 : Cond.instanceMethod yX9_requireCopy ∈ fz_WA := fz_in (fz_tin 784 (by decide +kernel)) (by decide +kernel)
theorem fm_142 : Cond.selects RX9 yX9_requireCopy yX9_requireCopy ∈ fz_WA := fz_in (fz_sin 4 (by decide +kernel)) (by decide +kernel)
theorem fm_143 : Cond.code yX9_requireContainer cX9_requireContainer 2 none ∈ fz_WA := fz_in (fz_tin 845 (by decide +kernel)) (by decide +kernel)
theorem fm_144 : Cond.methodLink RX9 227 yX9_requireContainer ∈ fz_WA := fz_in (fz_tin 842 (by decide +kernel)) (by decide +kernel)
theorem fm_145 : Cond.instanceMethod yX9_requireContainer ∈ fz_WA := fz_in (fz_tin 844 (by decide +kernel)) (by decide +kernel)
theorem fm_146 : Cond.selects RX9 yX9_requireContainer yX9_requireContainer ∈ fz_WA := fz_in (fz_sin 5 (by decide +kernel)) (by decide +kernel)
theorem fm_147 : Cond.classLink RX9 79 "java/lang/IllegalStateException" ∈ fz_WA := fz_in (fz_tin 621 (by decide +kernel)) (by decide +kernel)
theorem fm_148 : Cond.initialized "java/lang/IllegalStateException" ∈ fz_WA := fz_in (fz_tin 23 (by decide +kernel)) (by decide +kernel)
theorem fm_149 : Cond.code yX9_requireUnit cX9_requireUnit 2 none ∈ fz_WA := fz_in (fz_tin 854 (by decide +kernel)) (by decide +kernel)
theorem fm_150 : Cond.methodLink RX9 230 yX9_requireUnit ∈ fz_WA := fz_in (fz_tin 851 (by decide +kernel)) (by decide +kernel)
theorem fm_151 : Cond.instanceMethod yX9_requireUnit ∈ fz_WA := fz_in (fz_tin 853 (by decide +kernel)) (by decide +kernel)
theorem fm_152 : Cond.selects RX9 yX9_requireUnit yX9_requireUnit ∈ fz_WA := fz_in (fz_sin 6 (by decide +kernel)) (by decide +kernel)
theorem fm_153 : Cond.code yX9_requireRequest cX9_requireRequest 2 none ∈ fz_WA := fz_in (fz_tin 1083 (by decide +kernel)) (by decide +kernel)
theorem fm_154 : Cond.methodLink RX9 361 yX9_requireRequest ∈ fz_WA := fz_in (fz_tin 1080 (by decide +kernel)) (by decide +kernel)
theorem fm_155 : Cond.instanceMethod yX9_requireRequest ∈ fz_WA := fz_in (fz_tin 1082 (by decide +kernel)) (by decide +kernel)
theorem fm_156 : Cond.selects RX9 yX9_requireRequest yX9_requireRequest ∈ fz_WA := fz_in (fz_sin 8 (by decide +kernel)) (by decide +kernel)
theorem fm_157 : Cond.fieldLink RX9 383 "FindingAid$Tree" "size" "I" ∈ fz_WA := fz_in (fz_tin 62 (by decide +kernel)) (by decide +kernel)
theorem fm_158 : Cond.code yX8_countUnits cX8_countUnits 3 (some .int) ∈ fz_WA := fz_in (fz_tin 1107 (by decide +kernel)) (by decide +kernel)
theorem fm_159 : Cond.methodLink RX9 386 yX8_countUnits ∈ fz_WA := fz_in (fz_tin 1104 (by decide +kernel)) (by decide +kernel)
theorem fm_160 : Cond.instanceMethod yX8_countUnits ∈ fz_WA := fz_in (fz_tin 1105 (by decide +kernel)) (by decide +kernel)
theorem fm_161 : Cond.selects RX8 yX8_countUnits yX8_countUnits ∈ fz_WA := fz_in (fz_tin 1106 (by decide +kernel)) (by decide +kernel)
theorem fm_162 : Cond.fieldLink RX9 389 "FindingAid$Containers" "open" "I" ∈ fz_WA := fz_in (fz_tin 150 (by decide +kernel)) (by decide +kernel)
theorem fm_163 : Cond.fieldLink RX9 391 "FindingAid$Containers" "stored" "I" ∈ fz_WA := fz_in (fz_tin 152 (by decide +kernel)) (by decide +kernel)
theorem fm_164 : Cond.code yX1_countPresent cX1_countPresent 1 (some .int) ∈ fz_WA := fz_in (fz_tin 1111 (by decide +kernel)) (by decide +kernel)
theorem fm_165 : Cond.methodLink RX9 394 yX1_countPresent ∈ fz_WA := fz_in (fz_tin 1108 (by decide +kernel)) (by decide +kernel)
theorem fm_166 : Cond.instanceMethod yX1_countPresent ∈ fz_WA := fz_in (fz_tin 1109 (by decide +kernel)) (by decide +kernel)
theorem fm_167 : Cond.selects RX1 yX1_countPresent yX1_countPresent ∈ fz_WA := fz_in (fz_tin 1110 (by decide +kernel)) (by decide +kernel)
theorem fm_168 : Cond.code yX7_countAllShownPages cX7_countAllShownPages 3 (some .int) ∈ fz_WA := fz_in (fz_tin 1116 (by decide +kernel)) (by decide +kernel)
theorem fm_169 : Cond.methodLink RX9 397 yX7_countAllShownPages ∈ fz_WA := fz_in (fz_tin 1113 (by decide +kernel)) (by decide +kernel)
theorem fm_170 : Cond.instanceMethod yX7_countAllShownPages ∈ fz_WA := fz_in (fz_tin 1114 (by decide +kernel)) (by decide +kernel)
theorem fm_171 : Cond.selects RX7 yX7_countAllShownPages yX7_countAllShownPages ∈ fz_WA := fz_in (fz_tin 1115 (by decide +kernel)) (by decide +kernel)
theorem fm_172 : Cond.initialized RX7 ∈ fz_WA := fz_in (fz_tin 2 (by decide +kernel)) (by decide +kernel)
theorem fm_173 : Cond.code yX5_countShowing cX5_countShowing 4 (some .int) ∈ fz_WA := fz_in (fz_tin 988 (by decide +kernel)) (by decide +kernel)
theorem fm_174 : Cond.methodLink RX9 318 yX5_countShowing ∈ fz_WA := fz_in (fz_tin 985 (by decide +kernel)) (by decide +kernel)
theorem fm_175 : Cond.instanceMethod yX5_countShowing ∈ fz_WA := fz_in (fz_tin 986 (by decide +kernel)) (by decide +kernel)
theorem fm_176 : Cond.selects RX5 yX5_countShowing yX5_countShowing ∈ fz_WA := fz_in (fz_tin 987 (by decide +kernel)) (by decide +kernel)
theorem fm_177 : Cond.initialized RX5 ∈ fz_WA := fz_in (fz_tin 9 (by decide +kernel)) (by decide +kernel)
theorem fm_178 : Cond.fieldLink RX9 239 "FindingAid$Containers" "marks" "LFindingAid$Marks;" ∈ fz_WA := fz_in (fz_tin 164 (by decide +kernel)) (by decide +kernel)
theorem fm_179 : Cond.code yX3_countReferring cX3_countReferring 4 (some .int) ∈ fz_WA := fz_in (fz_tin 1121 (by decide +kernel)) (by decide +kernel)
theorem fm_180 : Cond.methodLink RX9 400 yX3_countReferring ∈ fz_WA := fz_in (fz_tin 1118 (by decide +kernel)) (by decide +kernel)
theorem fm_181 : Cond.instanceMethod yX3_countReferring ∈ fz_WA := fz_in (fz_tin 1119 (by decide +kernel)) (by decide +kernel)
theorem fm_182 : Cond.selects RX3 yX3_countReferring yX3_countReferring ∈ fz_WA := fz_in (fz_tin 1120 (by decide +kernel)) (by decide +kernel)
theorem fm_183 : Cond.initialized RX3 ∈ fz_WA := fz_in (fz_tin 7 (by decide +kernel)) (by decide +kernel)
theorem fm_184 : Cond.code yX5_countOn cX5_countOn 4 (some .int) ∈ fz_WA := fz_in (fz_tin 1133 (by decide +kernel)) (by decide +kernel)
theorem fm_185 : Cond.methodLink RX9 404 yX5_countOn ∈ fz_WA := fz_in (fz_tin 1130 (by decide +kernel)) (by decide +kernel)
theorem fm_186 : Cond.instanceMethod yX5_countOn ∈ fz_WA := fz_in (fz_tin 1131 (by decide +kernel)) (by decide +kernel)
theorem fm_187 : Cond.selects RX5 yX5_countOn yX5_countOn ∈ fz_WA := fz_in (fz_tin 1132 (by decide +kernel)) (by decide +kernel)
theorem fm_188 : Cond.code yX5_countReaders cX5_countReaders 4 (some .int) ∈ fz_WA := fz_in (fz_tin 1026 (by decide +kernel)) (by decide +kernel)
theorem fm_189 : Cond.methodLink RX9 407 yX5_countReaders ∈ fz_WA := fz_in (fz_tin 1134 (by decide +kernel)) (by decide +kernel)
theorem fm_190 : Cond.instanceMethod yX5_countReaders ∈ fz_WA := fz_in (fz_tin 1024 (by decide +kernel)) (by decide +kernel)
theorem fm_191 : Cond.selects RX5 yX5_countReaders yX5_countReaders ∈ fz_WA := fz_in (fz_tin 1025 (by decide +kernel)) (by decide +kernel)
theorem fm_192 : Cond.code yX7_countOpenUnits cX7_countOpenUnits 5 (some .int) ∈ fz_WA := fz_in (fz_tin 1138 (by decide +kernel)) (by decide +kernel)
theorem fm_193 : Cond.methodLink RX9 410 yX7_countOpenUnits ∈ fz_WA := fz_in (fz_tin 1135 (by decide +kernel)) (by decide +kernel)
theorem fm_194 : Cond.instanceMethod yX7_countOpenUnits ∈ fz_WA := fz_in (fz_tin 1136 (by decide +kernel)) (by decide +kernel)
theorem fm_195 : Cond.selects RX7 yX7_countOpenUnits yX7_countOpenUnits ∈ fz_WA := fz_in (fz_tin 1137 (by decide +kernel)) (by decide +kernel)
theorem fm_196 : Cond.code yX7_countOpenPages cX7_countOpenPages 4 (some .int) ∈ fz_WA := fz_in (fz_tin 1142 (by decide +kernel)) (by decide +kernel)
theorem fm_197 : Cond.methodLink RX9 413 yX7_countOpenPages ∈ fz_WA := fz_in (fz_tin 1139 (by decide +kernel)) (by decide +kernel)
theorem fm_198 : Cond.instanceMethod yX7_countOpenPages ∈ fz_WA := fz_in (fz_tin 1140 (by decide +kernel)) (by decide +kernel)
theorem fm_199 : Cond.selects RX7 yX7_countOpenPages yX7_countOpenPages ∈ fz_WA := fz_in (fz_tin 1141 (by decide +kernel)) (by decide +kernel)
theorem fm_200 : Cond.classLink RX9 416 "java/lang/ArithmeticException" ∈ fz_WA := fz_in (fz_tin 1164 (by decide +kernel)) (by decide +kernel)
theorem fm_201 : Cond.initialized "java/lang/ArithmeticException" ∈ fz_WA := fz_in (fz_tin 30 (by decide +kernel)) (by decide +kernel)
theorem fm_202 : Cond.fieldLink RX9 47 "FindingAid" "text" "Ljava/lang/StringBuilder;" ∈ fz_WA := fz_in (fz_tin 365 (by decide +kernel)) (by decide +kernel)
theorem fm_203 : Cond.code yJ4_length_8abf5 cJ4_length_8abf5 1 (some .int) ∈ fz_WA := fz_in (fz_tin 1406 (by decide +kernel)) (by decide +kernel)
theorem fm_204 : Cond.methodLink RX9 472 yJ4_length_8abf5 ∈ fz_WA := fz_in (fz_tin 1517 (by decide +kernel)) (by decide +kernel)
theorem fm_205 : Cond.instanceMethod yJ4_length_8abf5 ∈ fz_WA := fz_in (fz_tin 1405 (by decide +kernel)) (by decide +kernel)
theorem fm_206 : Cond.selects RJ4 yJ4_length_8abf5 yJ4_length_8abf5 ∈ fz_WA := fz_in (fz_tin 2049 (by decide +kernel)) (by decide +kernel)
theorem fm_207 : Cond.initialized RJ4 ∈ fz_WA := fz_in (fz_tin 13 (by decide +kernel)) (by decide +kernel)
theorem fm_208 : Cond.fieldLink RX9 16 "FindingAid" "past" "[LFindingAid$State;" ∈ fz_WA := fz_in (fz_tin 359 (by decide +kernel)) (by decide +kernel)
theorem fm_209 : Cond.fieldLink RX9 20 "FindingAid" "newest" "I" ∈ fz_WA := fz_in (fz_tin 360 (by decide +kernel)) (by decide +kernel)
theorem fm_210 : Cond.fieldLink RX9 24 "FindingAid" "undoable" "I" ∈ fz_WA := fz_in (fz_tin 361 (by decide +kernel)) (by decide +kernel)
theorem fm_211 : Cond.fieldLink RX9 27 "FindingAid" "saved" "LFindingAid$State;" ∈ fz_WA := fz_in (fz_tin 362 (by decide +kernel)) (by decide +kernel)
theorem dX9_remove_0 : decode cX9_remove 0 = .ok (.aload_n 0, 1) := by decide +kernel
theorem dX9_remove_1 : decode cX9_remove 1 = .ok (.iload_n 1, 1) := by decide +kernel
theorem dX9_remove_2 : decode cX9_remove 2 = .ok (.invokevirtual 51, 3) := by decide +kernel
theorem dX9_remove_5 : decode cX9_remove 5 = .ok (.iload_n 1, 1) := by decide +kernel
theorem dX9_remove_6 : decode cX9_remove 6 = .ok (.ifCond .ne 13, 3) := by decide +kernel
theorem dX9_remove_9 : decode cX9_remove 9 = .ok (.new 69, 3) := by decide +kernel
theorem dX9_remove_12 : decode cX9_remove 12 = .ok (.dup, 1) := by decide +kernel
theorem dX9_remove_13 : decode cX9_remove 13 = .ok (.ldc 91, 2) := by decide +kernel
theorem dX9_remove_15 : decode cX9_remove 15 = .ok (.invokespecial 73, 3) := by decide +kernel
theorem dX9_remove_18 : decode cX9_remove 18 = .ok (.athrow, 1) := by decide +kernel
theorem dX9_move_0 : decode cX9_move 0 = .ok (.aload_n 0, 1) := by decide +kernel
theorem dX9_move_1 : decode cX9_move 1 = .ok (.iload_n 1, 1) := by decide +kernel
theorem dX9_move_2 : decode cX9_move 2 = .ok (.invokevirtual 51, 3) := by decide +kernel
theorem dX9_move_5 : decode cX9_move 5 = .ok (.aload_n 0, 1) := by decide +kernel
theorem dX9_move_6 : decode cX9_move 6 = .ok (.iload_n 2, 1) := by decide +kernel
theorem dX9_move_7 : decode cX9_move 7 = .ok (.invokevirtual 51, 3) := by decide +kernel
theorem dX9_move_10 : decode cX9_move 10 = .ok (.aload_n 0, 1) := by decide +kernel
theorem dX9_move_11 : decode cX9_move 11 = .ok (.getfield 10, 3) := by decide +kernel
theorem dX9_move_14 : decode cX9_move 14 = .ok (.getfield 55, 3) := by decide +kernel
theorem dX9_move_17 : decode cX9_move 17 = .ok (.getfield 59, 3) := by decide +kernel
theorem dX9_move_20 : decode cX9_move 20 = .ok (.iload_n 2, 1) := by decide +kernel
theorem dX9_move_21 : decode cX9_move 21 = .ok (.iaload, 1) := by decide +kernel
theorem dX9_move_22 : decode cX9_move 22 = .ok (.aload_n 0, 1) := by decide +kernel
theorem dX9_move_23 : decode cX9_move 23 = .ok (.getfield 10, 3) := by decide +kernel
theorem dX9_move_26 : decode cX9_move 26 = .ok (.getfield 55, 3) := by decide +kernel
theorem dX9_move_29 : decode cX9_move 29 = .ok (.getfield 59, 3) := by decide +kernel
theorem dX9_move_32 : decode cX9_move 32 = .ok (.iload_n 1, 1) := by decide +kernel
theorem dX9_move_33 : decode cX9_move 33 = .ok (.iaload, 1) := by decide +kernel
theorem dX9_move_34 : decode cX9_move 34 = .ok (.if_icmp .lt 13, 3) := by decide +kernel
theorem dX9_move_37 : decode cX9_move 37 = .ok (.new 69, 3) := by decide +kernel
theorem dX9_move_40 : decode cX9_move 40 = .ok (.dup, 1) := by decide +kernel
theorem dX9_move_41 : decode cX9_move 41 = .ok (.ldc 100, 2) := by decide +kernel
theorem dX9_move_43 : decode cX9_move 43 = .ok (.invokespecial 73, 3) := by decide +kernel
theorem dX9_move_46 : decode cX9_move 46 = .ok (.athrow, 1) := by decide +kernel
theorem dX9_node_0 : decode cX9_node 0 = .ok (.aload_n 0, 1) := by decide +kernel
theorem dX9_node_1 : decode cX9_node 1 = .ok (.iload_n 1, 1) := by decide +kernel
theorem dX9_node_2 : decode cX9_node 2 = .ok (.invokevirtual 51, 3) := by decide +kernel
theorem dX9_node_5 : decode cX9_node 5 = .ok (.iload_n 2, 1) := by decide +kernel
theorem dX9_node_6 : decode cX9_node 6 = .ok (.bipush 11, 2) := by decide +kernel
theorem dX9_node_8 : decode cX9_node 8 = .ok (.invokestatic 112, 3) := by decide +kernel
theorem dX9_node_11 : decode cX9_node 11 = .ok (.aload_n 0, 1) := by decide +kernel
theorem dX9_node_12 : decode cX9_node 12 = .ok (.getfield 10, 3) := by decide +kernel
theorem dX9_node_15 : decode cX9_node 15 = .ok (.getfield 55, 3) := by decide +kernel
theorem dX9_node_18 : decode cX9_node 18 = .ok (.astore_n 3, 1) := by decide +kernel
theorem dX9_node_19 : decode cX9_node 19 = .ok (.iload_n 2, 1) := by decide +kernel
theorem dX9_node_20 : decode cX9_node 20 = .ok (.tableswitch 146 0 10 #[60, 67, 74, 81, 88, 95, 101, 107, 114, 120, 133], 60) := by decide +kernel
theorem dX9_node_80 : decode cX9_node 80 = .ok (.aload_n 3, 1) := by decide +kernel
theorem dX9_node_81 : decode cX9_node 81 = .ok (.getfield 59, 3) := by decide +kernel
theorem dX9_node_84 : decode cX9_node 84 = .ok (.iload_n 1, 1) := by decide +kernel
theorem dX9_node_85 : decode cX9_node 85 = .ok (.iaload, 1) := by decide +kernel
theorem dX9_node_86 : decode cX9_node 86 = .ok (.ireturn, 1) := by decide +kernel
theorem dX9_node_87 : decode cX9_node 87 = .ok (.aload_n 3, 1) := by decide +kernel
theorem dX9_node_88 : decode cX9_node 88 = .ok (.getfield 102, 3) := by decide +kernel
theorem dX9_node_91 : decode cX9_node 91 = .ok (.iload_n 1, 1) := by decide +kernel
theorem dX9_node_92 : decode cX9_node 92 = .ok (.iaload, 1) := by decide +kernel
theorem dX9_node_93 : decode cX9_node 93 = .ok (.ireturn, 1) := by decide +kernel
theorem dX9_node_94 : decode cX9_node 94 = .ok (.aload_n 3, 1) := by decide +kernel
theorem dX9_node_95 : decode cX9_node 95 = .ok (.getfield 115, 3) := by decide +kernel
theorem dX9_node_98 : decode cX9_node 98 = .ok (.iload_n 1, 1) := by decide +kernel
theorem dX9_node_99 : decode cX9_node 99 = .ok (.iaload, 1) := by decide +kernel
theorem dX9_node_100 : decode cX9_node 100 = .ok (.ireturn, 1) := by decide +kernel
theorem dX9_node_101 : decode cX9_node 101 = .ok (.aload_n 3, 1) := by decide +kernel
theorem dX9_node_102 : decode cX9_node 102 = .ok (.getfield 118, 3) := by decide +kernel
theorem dX9_node_105 : decode cX9_node 105 = .ok (.iload_n 1, 1) := by decide +kernel
theorem dX9_node_106 : decode cX9_node 106 = .ok (.iaload, 1) := by decide +kernel
theorem dX9_node_107 : decode cX9_node 107 = .ok (.ireturn, 1) := by decide +kernel
theorem dX9_node_108 : decode cX9_node 108 = .ok (.aload_n 3, 1) := by decide +kernel
theorem dX9_node_109 : decode cX9_node 109 = .ok (.getfield 121, 3) := by decide +kernel
theorem dX9_node_112 : decode cX9_node 112 = .ok (.iload_n 1, 1) := by decide +kernel
theorem dX9_node_113 : decode cX9_node 113 = .ok (.iaload, 1) := by decide +kernel
theorem dX9_node_114 : decode cX9_node 114 = .ok (.ireturn, 1) := by decide +kernel
theorem dX9_node_115 : decode cX9_node 115 = .ok (.aload_n 3, 1) := by decide +kernel
theorem dX9_node_116 : decode cX9_node 116 = .ok (.iload_n 1, 1) := by decide +kernel
theorem dX9_node_117 : decode cX9_node 117 = .ok (.invokevirtual 124, 3) := by decide +kernel
theorem dX9_node_120 : decode cX9_node 120 = .ok (.ireturn, 1) := by decide +kernel
theorem dX9_node_121 : decode cX9_node 121 = .ok (.aload_n 3, 1) := by decide +kernel
theorem dX9_node_122 : decode cX9_node 122 = .ok (.iload_n 1, 1) := by decide +kernel
theorem dX9_node_123 : decode cX9_node 123 = .ok (.invokevirtual 127, 3) := by decide +kernel
theorem dX9_node_126 : decode cX9_node 126 = .ok (.ireturn, 1) := by decide +kernel
theorem dX9_node_127 : decode cX9_node 127 = .ok (.aload_n 3, 1) := by decide +kernel
theorem dX9_node_128 : decode cX9_node 128 = .ok (.getfield 130, 3) := by decide +kernel
theorem dX9_node_131 : decode cX9_node 131 = .ok (.iload_n 1, 1) := by decide +kernel
theorem dX9_node_132 : decode cX9_node 132 = .ok (.iaload, 1) := by decide +kernel
theorem dX9_node_133 : decode cX9_node 133 = .ok (.ireturn, 1) := by decide +kernel
theorem dX9_node_134 : decode cX9_node 134 = .ok (.aload_n 3, 1) := by decide +kernel
theorem dX9_node_135 : decode cX9_node 135 = .ok (.iload_n 1, 1) := by decide +kernel
theorem dX9_node_136 : decode cX9_node 136 = .ok (.invokevirtual 133, 3) := by decide +kernel
theorem dX9_node_139 : decode cX9_node 139 = .ok (.ireturn, 1) := by decide +kernel
theorem dX9_node_140 : decode cX9_node 140 = .ok (.aload_n 0, 1) := by decide +kernel
theorem dX9_node_141 : decode cX9_node 141 = .ok (.getfield 10, 3) := by decide +kernel
theorem dX9_node_144 : decode cX9_node 144 = .ok (.getfield 136, 3) := by decide +kernel
theorem dX9_node_147 : decode cX9_node 147 = .ok (.getfield 140, 3) := by decide +kernel
theorem dX9_node_150 : decode cX9_node 150 = .ok (.iload_n 1, 1) := by decide +kernel
theorem dX9_node_151 : decode cX9_node 151 = .ok (.iaload, 1) := by decide +kernel
theorem dX9_node_152 : decode cX9_node 152 = .ok (.ireturn, 1) := by decide +kernel
theorem dX9_node_153 : decode cX9_node 153 = .ok (.aload_n 0, 1) := by decide +kernel
theorem dX9_node_154 : decode cX9_node 154 = .ok (.getfield 10, 3) := by decide +kernel
theorem dX9_node_157 : decode cX9_node 157 = .ok (.getfield 136, 3) := by decide +kernel
theorem dX9_node_160 : decode cX9_node 160 = .ok (.getfield 145, 3) := by decide +kernel
theorem dX9_node_163 : decode cX9_node 163 = .ok (.iload_n 1, 1) := by decide +kernel
theorem dX9_node_164 : decode cX9_node 164 = .ok (.iaload, 1) := by decide +kernel
theorem dX9_node_165 : decode cX9_node 165 = .ok (.ireturn, 1) := by decide +kernel
theorem dX9_node_166 : decode cX9_node 166 = .ok (.aload_n 0, 1) := by decide +kernel
theorem dX9_node_167 : decode cX9_node 167 = .ok (.getfield 10, 3) := by decide +kernel
theorem dX9_node_170 : decode cX9_node 170 = .ok (.getfield 148, 3) := by decide +kernel
theorem dX9_node_173 : decode cX9_node 173 = .ok (.iload_n 1, 1) := by decide +kernel
theorem dX9_node_174 : decode cX9_node 174 = .ok (.invokevirtual 152, 3) := by decide +kernel
theorem dX9_node_177 : decode cX9_node 177 = .ok (.ireturn, 1) := by decide +kernel
theorem dX9_child_0 : decode cX9_child 0 = .ok (.aload_n 0, 1) := by decide +kernel
theorem dX9_child_1 : decode cX9_child 1 = .ok (.iload_n 1, 1) := by decide +kernel
theorem dX9_child_2 : decode cX9_child 2 = .ok (.invokevirtual 51, 3) := by decide +kernel
theorem dX9_child_5 : decode cX9_child 5 = .ok (.aload_n 0, 1) := by decide +kernel
theorem dX9_child_6 : decode cX9_child 6 = .ok (.getfield 10, 3) := by decide +kernel
theorem dX9_child_9 : decode cX9_child 9 = .ok (.getfield 55, 3) := by decide +kernel
theorem dX9_child_12 : decode cX9_child 12 = .ok (.iload_n 1, 1) := by decide +kernel
theorem dX9_child_13 : decode cX9_child 13 = .ok (.iload_n 2, 1) := by decide +kernel
theorem dX9_child_14 : decode cX9_child 14 = .ok (.invokevirtual 157, 3) := by decide +kernel
theorem dX9_child_17 : decode cX9_child 17 = .ok (.istore_n 3, 1) := by decide +kernel
theorem dX9_child_18 : decode cX9_child 18 = .ok (.iload_n 3, 1) := by decide +kernel
theorem dX9_child_19 : decode cX9_child 19 = .ok (.iconst (-1), 1) := by decide +kernel
theorem dX9_child_20 : decode cX9_child 20 = .ok (.if_icmp .ne 13, 3) := by decide +kernel
theorem dX9_child_23 : decode cX9_child 23 = .ok (.new 161, 3) := by decide +kernel
theorem dX9_child_26 : decode cX9_child 26 = .ok (.dup, 1) := by decide +kernel
theorem dX9_child_27 : decode cX9_child 27 = .ok (.ldc 163, 2) := by decide +kernel
theorem dX9_child_29 : decode cX9_child 29 = .ok (.invokespecial 165, 3) := by decide +kernel
theorem dX9_child_32 : decode cX9_child 32 = .ok (.athrow, 1) := by decide +kernel
theorem dX9_restriction_0 : decode cX9_restriction 0 = .ok (.aload_n 0, 1) := by decide +kernel
theorem dX9_restriction_1 : decode cX9_restriction 1 = .ok (.iload_n 1, 1) := by decide +kernel
theorem dX9_restriction_2 : decode cX9_restriction 2 = .ok (.invokevirtual 51, 3) := by decide +kernel
theorem dX9_restriction_5 : decode cX9_restriction 5 = .ok (.iload_n 2, 1) := by decide +kernel
theorem dX9_restriction_6 : decode cX9_restriction 6 = .ok (.iconst 2, 1) := by decide +kernel
theorem dX9_restriction_7 : decode cX9_restriction 7 = .ok (.invokestatic 112, 3) := by decide +kernel
theorem dX9_restriction_10 : decode cX9_restriction 10 = .ok (.iload_n 2, 1) := by decide +kernel
theorem dX9_restriction_11 : decode cX9_restriction 11 = .ok (.lookupswitch 63 #[(0, 25), (1, 44)], 25) := by decide +kernel
theorem dX9_restriction_36 : decode cX9_restriction 36 = .ok (.aload_n 0, 1) := by decide +kernel
theorem dX9_restriction_37 : decode cX9_restriction 37 = .ok (.getfield 10, 3) := by decide +kernel
theorem dX9_restriction_40 : decode cX9_restriction 40 = .ok (.getfield 168, 3) := by decide +kernel
theorem dX9_restriction_43 : decode cX9_restriction 43 = .ok (.aload_n 0, 1) := by decide +kernel
theorem dX9_restriction_44 : decode cX9_restriction 44 = .ok (.getfield 10, 3) := by decide +kernel
theorem dX9_restriction_47 : decode cX9_restriction 47 = .ok (.getfield 55, 3) := by decide +kernel
theorem dX9_restriction_50 : decode cX9_restriction 50 = .ok (.iload_n 1, 1) := by decide +kernel
theorem dX9_restriction_51 : decode cX9_restriction 51 = .ok (.invokevirtual 187, 3) := by decide +kernel
theorem dX9_restriction_54 : decode cX9_restriction 54 = .ok (.ireturn, 1) := by decide +kernel
theorem dX9_restriction_55 : decode cX9_restriction 55 = .ok (.aload_n 0, 1) := by decide +kernel
theorem dX9_restriction_56 : decode cX9_restriction 56 = .ok (.getfield 10, 3) := by decide +kernel
theorem dX9_restriction_59 : decode cX9_restriction 59 = .ok (.getfield 168, 3) := by decide +kernel
theorem dX9_restriction_62 : decode cX9_restriction 62 = .ok (.aload_n 0, 1) := by decide +kernel
theorem dX9_restriction_63 : decode cX9_restriction 63 = .ok (.getfield 10, 3) := by decide +kernel
theorem dX9_restriction_66 : decode cX9_restriction 66 = .ok (.getfield 55, 3) := by decide +kernel
theorem dX9_restriction_69 : decode cX9_restriction 69 = .ok (.iload_n 1, 1) := by decide +kernel
theorem dX9_restriction_70 : decode cX9_restriction 70 = .ok (.invokevirtual 191, 3) := by decide +kernel
theorem dX9_restriction_73 : decode cX9_restriction 73 = .ok (.ireturn, 1) := by decide +kernel
theorem dX9_restriction_74 : decode cX9_restriction 74 = .ok (.aload_n 0, 1) := by decide +kernel
theorem dX9_restriction_75 : decode cX9_restriction 75 = .ok (.getfield 10, 3) := by decide +kernel
theorem dX9_restriction_78 : decode cX9_restriction 78 = .ok (.getfield 168, 3) := by decide +kernel
theorem dX9_restriction_81 : decode cX9_restriction 81 = .ok (.aload_n 0, 1) := by decide +kernel
theorem dX9_restriction_82 : decode cX9_restriction 82 = .ok (.getfield 10, 3) := by decide +kernel
theorem dX9_restriction_85 : decode cX9_restriction 85 = .ok (.getfield 55, 3) := by decide +kernel
theorem dX9_restriction_88 : decode cX9_restriction 88 = .ok (.iload_n 1, 1) := by decide +kernel
theorem dX9_restriction_89 : decode cX9_restriction 89 = .ok (.invokevirtual 194, 3) := by decide +kernel
theorem dX9_restriction_92 : decode cX9_restriction 92 = .ok (.ireturn, 1) := by decide +kernel
theorem dX9_openPages_0 : decode cX9_openPages 0 = .ok (.aload_n 0, 1) := by decide +kernel
theorem dX9_openPages_1 : decode cX9_openPages 1 = .ok (.iload_n 1, 1) := by decide +kernel
theorem dX9_openPages_2 : decode cX9_openPages 2 = .ok (.invokevirtual 51, 3) := by decide +kernel
theorem dX9_openPages_5 : decode cX9_openPages 5 = .ok (.iload_n 2, 1) := by decide +kernel
theorem dX9_openPages_6 : decode cX9_openPages 6 = .ok (.invokestatic 197, 3) := by decide +kernel
theorem dX9_openPages_9 : decode cX9_openPages 9 = .ok (.aload_n 0, 1) := by decide +kernel
theorem dX9_openPages_10 : decode cX9_openPages 10 = .ok (.getfield 10, 3) := by decide +kernel
theorem dX9_openPages_13 : decode cX9_openPages 13 = .ok (.getfield 168, 3) := by decide +kernel
theorem dX9_openPages_16 : decode cX9_openPages 16 = .ok (.aload_n 0, 1) := by decide +kernel
theorem dX9_openPages_17 : decode cX9_openPages 17 = .ok (.getfield 10, 3) := by decide +kernel
theorem dX9_openPages_20 : decode cX9_openPages 20 = .ok (.getfield 55, 3) := by decide +kernel
theorem dX9_openPages_23 : decode cX9_openPages 23 = .ok (.iload_n 1, 1) := by decide +kernel
theorem dX9_openPages_24 : decode cX9_openPages 24 = .ok (.iload_n 2, 1) := by decide +kernel
theorem dX9_openPages_25 : decode cX9_openPages 25 = .ok (.invokevirtual 200, 3) := by decide +kernel
theorem dX9_openPages_28 : decode cX9_openPages 28 = .ok (.ireturn, 1) := by decide +kernel
theorem dX9_firstDay_0 : decode cX9_firstDay 0 = .ok (.aload_n 0, 1) := by decide +kernel
theorem dX9_firstDay_1 : decode cX9_firstDay 1 = .ok (.iload_n 1, 1) := by decide +kernel
theorem dX9_firstDay_2 : decode cX9_firstDay 2 = .ok (.invokevirtual 204, 3) := by decide +kernel
theorem dX9_put_0 : decode cX9_put 0 = .ok (.aload_n 0, 1) := by decide +kernel
theorem dX9_put_1 : decode cX9_put 1 = .ok (.iload_n 1, 1) := by decide +kernel
theorem dX9_put_2 : decode cX9_put 2 = .ok (.invokevirtual 51, 3) := by decide +kernel
theorem dX9_put_5 : decode cX9_put 5 = .ok (.aload_n 0, 1) := by decide +kernel
theorem dX9_put_6 : decode cX9_put 6 = .ok (.iload_n 2, 1) := by decide +kernel
theorem dX9_put_7 : decode cX9_put 7 = .ok (.invokevirtual 227, 3) := by decide +kernel
theorem dX9_takeOut_0 : decode cX9_takeOut 0 = .ok (.aload_n 0, 1) := by decide +kernel
theorem dX9_takeOut_1 : decode cX9_takeOut 1 = .ok (.iload_n 1, 1) := by decide +kernel
theorem dX9_takeOut_2 : decode cX9_takeOut 2 = .ok (.invokevirtual 51, 3) := by decide +kernel
theorem dX9_takeOut_5 : decode cX9_takeOut 5 = .ok (.aload_n 0, 1) := by decide +kernel
theorem dX9_takeOut_6 : decode cX9_takeOut 6 = .ok (.getfield 10, 3) := by decide +kernel
theorem dX9_takeOut_9 : decode cX9_takeOut 9 = .ok (.getfield 136, 3) := by decide +kernel
theorem dX9_takeOut_12 : decode cX9_takeOut 12 = .ok (.getfield 140, 3) := by decide +kernel
theorem dX9_takeOut_15 : decode cX9_takeOut 15 = .ok (.iload_n 1, 1) := by decide +kernel
theorem dX9_takeOut_16 : decode cX9_takeOut 16 = .ok (.iaload, 1) := by decide +kernel
theorem dX9_takeOut_17 : decode cX9_takeOut 17 = .ok (.istore_n 2, 1) := by decide +kernel
theorem dX9_takeOut_18 : decode cX9_takeOut 18 = .ok (.iload_n 2, 1) := by decide +kernel
theorem dX9_takeOut_19 : decode cX9_takeOut 19 = .ok (.iconst (-1), 1) := by decide +kernel
theorem dX9_takeOut_20 : decode cX9_takeOut 20 = .ok (.if_icmp .ne 13, 3) := by decide +kernel
theorem dX9_takeOut_23 : decode cX9_takeOut 23 = .ok (.new 79, 3) := by decide +kernel
theorem dX9_takeOut_26 : decode cX9_takeOut 26 = .ok (.dup, 1) := by decide +kernel
theorem dX9_takeOut_27 : decode cX9_takeOut 27 = .ok (.ldc 254, 2) := by decide +kernel
theorem dX9_takeOut_29 : decode cX9_takeOut 29 = .ok (.invokespecial 83, 3) := by decide +kernel
theorem dX9_takeOut_32 : decode cX9_takeOut 32 = .ok (.athrow, 1) := by decide +kernel
theorem dX9_split_0 : decode cX9_split 0 = .ok (.aload_n 0, 1) := by decide +kernel
theorem dX9_split_1 : decode cX9_split 1 = .ok (.iload_n 1, 1) := by decide +kernel
theorem dX9_split_2 : decode cX9_split 2 = .ok (.invokevirtual 227, 3) := by decide +kernel
theorem dX9_merge_0 : decode cX9_merge 0 = .ok (.aload_n 0, 1) := by decide +kernel
theorem dX9_merge_1 : decode cX9_merge 1 = .ok (.iload_n 1, 1) := by decide +kernel
theorem dX9_merge_2 : decode cX9_merge 2 = .ok (.invokevirtual 227, 3) := by decide +kernel
theorem dX9_container_0 : decode cX9_container 0 = .ok (.aload_n 0, 1) := by decide +kernel
theorem dX9_container_1 : decode cX9_container 1 = .ok (.iload_n 1, 1) := by decide +kernel
theorem dX9_container_2 : decode cX9_container 2 = .ok (.invokevirtual 227, 3) := by decide +kernel
theorem dX9_unitAt_0 : decode cX9_unitAt 0 = .ok (.aload_n 0, 1) := by decide +kernel
theorem dX9_unitAt_1 : decode cX9_unitAt 1 = .ok (.iload_n 1, 1) := by decide +kernel
theorem dX9_unitAt_2 : decode cX9_unitAt 2 = .ok (.invokevirtual 227, 3) := by decide +kernel
theorem dX9_copy_0 : decode cX9_copy 0 = .ok (.aload_n 0, 1) := by decide +kernel
theorem dX9_copy_1 : decode cX9_copy 1 = .ok (.iload_n 1, 1) := by decide +kernel
theorem dX9_copy_2 : decode cX9_copy 2 = .ok (.invokevirtual 51, 3) := by decide +kernel
theorem dX9_copy_5 : decode cX9_copy 5 = .ok (.aload_n 0, 1) := by decide +kernel
theorem dX9_copy_6 : decode cX9_copy 6 = .ok (.iload_n 1, 1) := by decide +kernel
theorem dX9_copy_7 : decode cX9_copy 7 = .ok (.invokevirtual 230, 3) := by decide +kernel
theorem dX9_copyPart_0 : decode cX9_copyPart 0 = .ok (.aload_n 0, 1) := by decide +kernel
theorem dX9_copyPart_1 : decode cX9_copyPart 1 = .ok (.iload_n 1, 1) := by decide +kernel
theorem dX9_copyPart_2 : decode cX9_copyPart 2 = .ok (.invokevirtual 204, 3) := by decide +kernel
theorem dX9_request_0 : decode cX9_request 0 = .ok (.iload_n 1, 1) := by decide +kernel
theorem dX9_request_1 : decode cX9_request 1 = .ok (.ifCond .lt 9, 3) := by decide +kernel
theorem dX9_request_10 : decode cX9_request 10 = .ok (.new 161, 3) := by decide +kernel
theorem dX9_request_13 : decode cX9_request 13 = .ok (.dup, 1) := by decide +kernel
theorem dX9_request_14 : decode cX9_request 14 = .ok (.ldc_w 328, 3) := by decide +kernel
theorem dX9_request_17 : decode cX9_request 17 = .ok (.invokespecial 165, 3) := by decide +kernel
theorem dX9_request_20 : decode cX9_request 20 = .ok (.athrow, 1) := by decide +kernel
theorem dX9_request_4 : decode cX9_request 4 = .ok (.iload_n 1, 1) := by decide +kernel
theorem dX9_request_5 : decode cX9_request 5 = .ok (.bipush 8, 2) := by decide +kernel
theorem dX9_request_7 : decode cX9_request 7 = .ok (.if_icmp .lt 14, 3) := by decide +kernel
theorem dX9_request_21 : decode cX9_request 21 = .ok (.aload_n 0, 1) := by decide +kernel
theorem dX9_request_22 : decode cX9_request 22 = .ok (.iload_n 2, 1) := by decide +kernel
theorem dX9_request_23 : decode cX9_request 23 = .ok (.invokevirtual 51, 3) := by decide +kernel
theorem dX9_request_26 : decode cX9_request 26 = .ok (.aload_n 0, 1) := by decide +kernel
theorem dX9_request_27 : decode cX9_request 27 = .ok (.iload_n 2, 1) := by decide +kernel
theorem dX9_request_28 : decode cX9_request 28 = .ok (.invokevirtual 230, 3) := by decide +kernel
theorem dX9_requestPart_0 : decode cX9_requestPart 0 = .ok (.aload_n 0, 1) := by decide +kernel
theorem dX9_requestPart_1 : decode cX9_requestPart 1 = .ok (.iload_n 1, 1) := by decide +kernel
theorem dX9_requestPart_2 : decode cX9_requestPart 2 = .ok (.invokevirtual 361, 3) := by decide +kernel
theorem dX9_cancel_0 : decode cX9_cancel 0 = .ok (.aload_n 0, 1) := by decide +kernel
theorem dX9_cancel_1 : decode cX9_cancel 1 = .ok (.iload_n 1, 1) := by decide +kernel
theorem dX9_cancel_2 : decode cX9_cancel 2 = .ok (.invokevirtual 361, 3) := by decide +kernel
theorem dX9_account_0 : decode cX9_account 0 = .ok (.iload_n 1, 1) := by decide +kernel
theorem dX9_account_1 : decode cX9_account 1 = .ok (.bipush 9, 2) := by decide +kernel
theorem dX9_account_3 : decode cX9_account 3 = .ok (.invokestatic 112, 3) := by decide +kernel
theorem dX9_account_6 : decode cX9_account 6 = .ok (.iload_n 1, 1) := by decide +kernel
theorem dX9_account_7 : decode cX9_account 7 = .ok (.tableswitch 147 0 8 #[49, 60, 71, 83, 94, 105, 116, 127, 135], 49) := by decide +kernel
theorem dX9_account_56 : decode cX9_account 56 = .ok (.aload_n 0, 1) := by decide +kernel
theorem dX9_account_57 : decode cX9_account 57 = .ok (.getfield 10, 3) := by decide +kernel
theorem dX9_account_60 : decode cX9_account 60 = .ok (.getfield 55, 3) := by decide +kernel
theorem dX9_account_63 : decode cX9_account 63 = .ok (.getfield 383, 3) := by decide +kernel
theorem dX9_account_66 : decode cX9_account 66 = .ok (.ireturn, 1) := by decide +kernel
theorem dX9_account_67 : decode cX9_account 67 = .ok (.aload_n 0, 1) := by decide +kernel
theorem dX9_account_68 : decode cX9_account 68 = .ok (.getfield 10, 3) := by decide +kernel
theorem dX9_account_71 : decode cX9_account 71 = .ok (.getfield 55, 3) := by decide +kernel
theorem dX9_account_74 : decode cX9_account 74 = .ok (.invokevirtual 386, 3) := by decide +kernel
theorem dX9_account_77 : decode cX9_account 77 = .ok (.ireturn, 1) := by decide +kernel
theorem dX9_account_78 : decode cX9_account 78 = .ok (.aload_n 0, 1) := by decide +kernel
theorem dX9_account_79 : decode cX9_account 79 = .ok (.getfield 10, 3) := by decide +kernel
theorem dX9_account_82 : decode cX9_account 82 = .ok (.getfield 55, 3) := by decide +kernel
theorem dX9_account_85 : decode cX9_account 85 = .ok (.iconst 0, 1) := by decide +kernel
theorem dX9_account_86 : decode cX9_account 86 = .ok (.invokevirtual 133, 3) := by decide +kernel
theorem dX9_account_89 : decode cX9_account 89 = .ok (.ireturn, 1) := by decide +kernel
theorem dX9_account_90 : decode cX9_account 90 = .ok (.aload_n 0, 1) := by decide +kernel
theorem dX9_account_91 : decode cX9_account 91 = .ok (.getfield 10, 3) := by decide +kernel
theorem dX9_account_94 : decode cX9_account 94 = .ok (.getfield 136, 3) := by decide +kernel
theorem dX9_account_97 : decode cX9_account 97 = .ok (.getfield 389, 3) := by decide +kernel
theorem dX9_account_100 : decode cX9_account 100 = .ok (.ireturn, 1) := by decide +kernel
theorem dX9_account_101 : decode cX9_account 101 = .ok (.aload_n 0, 1) := by decide +kernel
theorem dX9_account_102 : decode cX9_account 102 = .ok (.getfield 10, 3) := by decide +kernel
theorem dX9_account_105 : decode cX9_account 105 = .ok (.getfield 136, 3) := by decide +kernel
theorem dX9_account_108 : decode cX9_account 108 = .ok (.getfield 391, 3) := by decide +kernel
theorem dX9_account_111 : decode cX9_account 111 = .ok (.ireturn, 1) := by decide +kernel
theorem dX9_account_112 : decode cX9_account 112 = .ok (.aload_n 0, 1) := by decide +kernel
theorem dX9_account_113 : decode cX9_account 113 = .ok (.getfield 10, 3) := by decide +kernel
theorem dX9_account_116 : decode cX9_account 116 = .ok (.getfield 148, 3) := by decide +kernel
theorem dX9_account_119 : decode cX9_account 119 = .ok (.invokevirtual 394, 3) := by decide +kernel
theorem dX9_account_122 : decode cX9_account 122 = .ok (.ireturn, 1) := by decide +kernel
theorem dX9_account_123 : decode cX9_account 123 = .ok (.aload_n 0, 1) := by decide +kernel
theorem dX9_account_124 : decode cX9_account 124 = .ok (.getfield 10, 3) := by decide +kernel
theorem dX9_account_127 : decode cX9_account 127 = .ok (.getfield 314, 3) := by decide +kernel
theorem dX9_account_130 : decode cX9_account 130 = .ok (.getfield 330, 3) := by decide +kernel
theorem dX9_account_133 : decode cX9_account 133 = .ok (.ireturn, 1) := by decide +kernel
theorem dX9_account_134 : decode cX9_account 134 = .ok (.aload_n 0, 1) := by decide +kernel
theorem dX9_account_135 : decode cX9_account 135 = .ok (.getfield 10, 3) := by decide +kernel
theorem dX9_account_138 : decode cX9_account 138 = .ok (.invokevirtual 397, 3) := by decide +kernel
theorem dX9_account_141 : decode cX9_account 141 = .ok (.ireturn, 1) := by decide +kernel
theorem dX9_account_142 : decode cX9_account 142 = .ok (.aload_n 0, 1) := by decide +kernel
theorem dX9_account_143 : decode cX9_account 143 = .ok (.getfield 10, 3) := by decide +kernel
theorem dX9_account_146 : decode cX9_account 146 = .ok (.getfield 314, 3) := by decide +kernel
theorem dX9_account_149 : decode cX9_account 149 = .ok (.iconst (-1), 1) := by decide +kernel
theorem dX9_account_150 : decode cX9_account 150 = .ok (.invokevirtual 318, 3) := by decide +kernel
theorem dX9_account_153 : decode cX9_account 153 = .ok (.ireturn, 1) := by decide +kernel
theorem dX9_account_154 : decode cX9_account 154 = .ok (.aload_n 0, 1) := by decide +kernel
theorem dX9_account_155 : decode cX9_account 155 = .ok (.getfield 10, 3) := by decide +kernel
theorem dX9_account_158 : decode cX9_account 158 = .ok (.getfield 136, 3) := by decide +kernel
theorem dX9_account_161 : decode cX9_account 161 = .ok (.getfield 239, 3) := by decide +kernel
theorem dX9_account_164 : decode cX9_account 164 = .ok (.aload_n 0, 1) := by decide +kernel
theorem dX9_account_165 : decode cX9_account 165 = .ok (.getfield 10, 3) := by decide +kernel
theorem dX9_account_168 : decode cX9_account 168 = .ok (.getfield 55, 3) := by decide +kernel
theorem dX9_account_171 : decode cX9_account 171 = .ok (.invokevirtual 400, 3) := by decide +kernel
theorem dX9_account_174 : decode cX9_account 174 = .ok (.ireturn, 1) := by decide +kernel
theorem dX9_dayCount_0 : decode cX9_dayCount 0 = .ok (.iload_n 1, 1) := by decide +kernel
theorem dX9_dayCount_1 : decode cX9_dayCount 1 = .ok (.invokestatic 197, 3) := by decide +kernel
theorem dX9_dayCount_4 : decode cX9_dayCount 4 = .ok (.iload_n 2, 1) := by decide +kernel
theorem dX9_dayCount_5 : decode cX9_dayCount 5 = .ok (.iconst 3, 1) := by decide +kernel
theorem dX9_dayCount_6 : decode cX9_dayCount 6 = .ok (.invokestatic 112, 3) := by decide +kernel
theorem dX9_dayCount_9 : decode cX9_dayCount 9 = .ok (.iload_n 2, 1) := by decide +kernel
theorem dX9_dayCount_10 : decode cX9_dayCount 10 = .ok (.tableswitch 59 0 2 #[26, 38, 50], 26) := by decide +kernel
theorem dX9_dayCount_36 : decode cX9_dayCount 36 = .ok (.aload_n 0, 1) := by decide +kernel
theorem dX9_dayCount_37 : decode cX9_dayCount 37 = .ok (.getfield 10, 3) := by decide +kernel
theorem dX9_dayCount_40 : decode cX9_dayCount 40 = .ok (.getfield 314, 3) := by decide +kernel
theorem dX9_dayCount_43 : decode cX9_dayCount 43 = .ok (.iload_n 1, 1) := by decide +kernel
theorem dX9_dayCount_44 : decode cX9_dayCount 44 = .ok (.invokevirtual 404, 3) := by decide +kernel
theorem dX9_dayCount_47 : decode cX9_dayCount 47 = .ok (.ireturn, 1) := by decide +kernel
theorem dX9_dayCount_48 : decode cX9_dayCount 48 = .ok (.aload_n 0, 1) := by decide +kernel
theorem dX9_dayCount_49 : decode cX9_dayCount 49 = .ok (.getfield 10, 3) := by decide +kernel
theorem dX9_dayCount_52 : decode cX9_dayCount 52 = .ok (.getfield 314, 3) := by decide +kernel
theorem dX9_dayCount_55 : decode cX9_dayCount 55 = .ok (.iload_n 1, 1) := by decide +kernel
theorem dX9_dayCount_56 : decode cX9_dayCount 56 = .ok (.invokevirtual 407, 3) := by decide +kernel
theorem dX9_dayCount_59 : decode cX9_dayCount 59 = .ok (.ireturn, 1) := by decide +kernel
theorem dX9_dayCount_60 : decode cX9_dayCount 60 = .ok (.aload_n 0, 1) := by decide +kernel
theorem dX9_dayCount_61 : decode cX9_dayCount 61 = .ok (.getfield 10, 3) := by decide +kernel
theorem dX9_dayCount_64 : decode cX9_dayCount 64 = .ok (.iload_n 1, 1) := by decide +kernel
theorem dX9_dayCount_65 : decode cX9_dayCount 65 = .ok (.invokevirtual 410, 3) := by decide +kernel
theorem dX9_dayCount_68 : decode cX9_dayCount 68 = .ok (.ireturn, 1) := by decide +kernel
theorem dX9_dayCount_69 : decode cX9_dayCount 69 = .ok (.aload_n 0, 1) := by decide +kernel
theorem dX9_dayCount_70 : decode cX9_dayCount 70 = .ok (.getfield 10, 3) := by decide +kernel
theorem dX9_dayCount_73 : decode cX9_dayCount 73 = .ok (.iload_n 1, 1) := by decide +kernel
theorem dX9_dayCount_74 : decode cX9_dayCount 74 = .ok (.invokevirtual 413, 3) := by decide +kernel
theorem dX9_dayCount_77 : decode cX9_dayCount 77 = .ok (.ireturn, 1) := by decide +kernel
theorem dX9_openShare_0 : decode cX9_openShare 0 = .ok (.iload_n 1, 1) := by decide +kernel
theorem dX9_openShare_1 : decode cX9_openShare 1 = .ok (.invokestatic 197, 3) := by decide +kernel
theorem dX9_openShare_4 : decode cX9_openShare 4 = .ok (.aload_n 0, 1) := by decide +kernel
theorem dX9_openShare_5 : decode cX9_openShare 5 = .ok (.getfield 10, 3) := by decide +kernel
theorem dX9_openShare_8 : decode cX9_openShare 8 = .ok (.getfield 55, 3) := by decide +kernel
theorem dX9_openShare_11 : decode cX9_openShare 11 = .ok (.iconst 0, 1) := by decide +kernel
theorem dX9_openShare_12 : decode cX9_openShare 12 = .ok (.invokevirtual 133, 3) := by decide +kernel
theorem dX9_openShare_15 : decode cX9_openShare 15 = .ok (.istore_n 2, 1) := by decide +kernel
theorem dX9_openShare_16 : decode cX9_openShare 16 = .ok (.iload_n 2, 1) := by decide +kernel
theorem dX9_openShare_17 : decode cX9_openShare 17 = .ok (.ifCond .ne 14, 3) := by decide +kernel
theorem dX9_openShare_20 : decode cX9_openShare 20 = .ok (.new 416, 3) := by decide +kernel
theorem dX9_openShare_23 : decode cX9_openShare 23 = .ok (.dup, 1) := by decide +kernel
theorem dX9_openShare_24 : decode cX9_openShare 24 = .ok (.ldc_w 418, 3) := by decide +kernel
theorem dX9_openShare_27 : decode cX9_openShare 27 = .ok (.invokespecial 420, 3) := by decide +kernel
theorem dX9_openShare_30 : decode cX9_openShare 30 = .ok (.athrow, 1) := by decide +kernel
theorem dX9_text_0 : decode cX9_text 0 = .ok (.iload_n 1, 1) := by decide +kernel
theorem dX9_text_1 : decode cX9_text 1 = .ok (.ifCond .lt 14, 3) := by decide +kernel
theorem dX9_text_15 : decode cX9_text 15 = .ok (.new 161, 3) := by decide +kernel
theorem dX9_text_18 : decode cX9_text 18 = .ok (.dup, 1) := by decide +kernel
theorem dX9_text_19 : decode cX9_text 19 = .ok (.ldc_w 474, 3) := by decide +kernel
theorem dX9_text_22 : decode cX9_text 22 = .ok (.invokespecial 165, 3) := by decide +kernel
theorem dX9_text_25 : decode cX9_text 25 = .ok (.athrow, 1) := by decide +kernel
theorem dX9_text_4 : decode cX9_text 4 = .ok (.iload_n 1, 1) := by decide +kernel
theorem dX9_text_5 : decode cX9_text 5 = .ok (.aload_n 0, 1) := by decide +kernel
theorem dX9_text_6 : decode cX9_text 6 = .ok (.getfield 47, 3) := by decide +kernel
theorem dX9_text_9 : decode cX9_text 9 = .ok (.invokevirtual 472, 3) := by decide +kernel
theorem dX9_text_12 : decode cX9_text 12 = .ok (.if_icmp .lt 14, 3) := by decide +kernel
theorem dX9_undo_0 : decode cX9_undo 0 = .ok (.aload_n 0, 1) := by decide +kernel
theorem dX9_undo_1 : decode cX9_undo 1 = .ok (.getfield 16, 3) := by decide +kernel
theorem dX9_undo_4 : decode cX9_undo 4 = .ok (.aload_n 0, 1) := by decide +kernel
theorem dX9_undo_5 : decode cX9_undo 5 = .ok (.getfield 20, 3) := by decide +kernel
theorem dX9_undo_8 : decode cX9_undo 8 = .ok (.aaload, 1) := by decide +kernel
theorem dX9_undo_9 : decode cX9_undo 9 = .ok (.astore_n 1, 1) := by decide +kernel
theorem dX9_undo_10 : decode cX9_undo 10 = .ok (.aload_n 0, 1) := by decide +kernel
theorem dX9_undo_11 : decode cX9_undo 11 = .ok (.getfield 24, 3) := by decide +kernel
theorem dX9_undo_14 : decode cX9_undo 14 = .ok (.ifCond .eq 7, 3) := by decide +kernel
theorem dX9_undo_21 : decode cX9_undo 21 = .ok (.new 79, 3) := by decide +kernel
theorem dX9_undo_24 : decode cX9_undo 24 = .ok (.dup, 1) := by decide +kernel
theorem dX9_undo_25 : decode cX9_undo 25 = .ok (.ldc_w 480, 3) := by decide +kernel
theorem dX9_undo_28 : decode cX9_undo 28 = .ok (.invokespecial 83, 3) := by decide +kernel
theorem dX9_undo_31 : decode cX9_undo 31 = .ok (.athrow, 1) := by decide +kernel
theorem dX9_restore_0 : decode cX9_restore 0 = .ok (.aload_n 0, 1) := by decide +kernel
theorem dX9_restore_1 : decode cX9_restore 1 = .ok (.getfield 27, 3) := by decide +kernel
theorem dX9_restore_4 : decode cX9_restore 4 = .ok (.ifnonnull 14, 3) := by decide +kernel
theorem dX9_restore_7 : decode cX9_restore 7 = .ok (.new 79, 3) := by decide +kernel
theorem dX9_restore_10 : decode cX9_restore 10 = .ok (.dup, 1) := by decide +kernel
theorem dX9_restore_11 : decode cX9_restore 11 = .ok (.ldc_w 486, 3) := by decide +kernel
theorem dX9_restore_14 : decode cX9_restore 14 = .ok (.invokespecial 83, 3) := by decide +kernel
theorem dX9_restore_17 : decode cX9_restore 17 = .ok (.athrow, 1) := by decide +kernel
theorem fl_2 : (2 : Int32).toInt = 2 := by decide
theorem fl_4 : (4 : Int32).toInt = 4 := by decide
theorem fl_5 : (5 : Int32).toInt = 5 := by decide
theorem fl_6 : (6 : Int32).toInt = 6 := by decide
theorem fl_7 : (7 : Int32).toInt = 7 := by decide
theorem fl_8 : (8 : Int32).toInt = 8 := by decide
theorem fl_9 : (9 : Int32).toInt = 9 := by decide
theorem fl_10 : (10 : Int32).toInt = 10 := by decide
theorem fl_11 : (11 : Int32).toInt = 11 := by decide
theorem fq_38 (x0 x1 : Int32) (h0 : ¬ (x0 = 0)) : (¬ (x0 = 0) ∨ ¬ (x1 = 0)) := by first | decide | (simp only [fz_lt, fz_le, fz_eq, true_and, and_true, false_and, and_false, true_or, or_true, false_or, or_false, not_true_eq_false, not_false_eq_true, fl_m1, fl_0, fl_1, fl_2, fl_3, fl_4, fl_5, fl_6, fl_7, fl_8, fl_9, fl_10, fl_11, fl_20, fl_200, fl_9999] at *; omega) | (simp only [fz_lt, fz_le, fz_eq, true_and, and_true, false_and, and_false, true_or, or_true, false_or, or_false, not_true_eq_false, not_false_eq_true, fl_m1, fl_0, fl_1, fl_2, fl_3, fl_4, fl_5, fl_6, fl_7, fl_8, fl_9, fl_10, fl_11, fl_20, fl_200, fl_9999] at *; done) | omega
theorem fq_39 (x0 : Int32) (h0 : ¬ (x0 = 0)) : (¬ ((0 : Int32) = 0) ∨ ¬ (x0 = 0)) := by first | decide | (simp only [fz_lt, fz_le, fz_eq, true_and, and_true, false_and, and_false, true_or, or_true, false_or, or_false, not_true_eq_false, not_false_eq_true, fl_m1, fl_0, fl_1, fl_2, fl_3, fl_4, fl_5, fl_6, fl_7, fl_8, fl_9, fl_10, fl_11, fl_20, fl_200, fl_9999] at *; omega) | (simp only [fz_lt, fz_le, fz_eq, true_and, and_true, false_and, and_false, true_or, or_true, false_or, or_false, not_true_eq_false, not_false_eq_true, fl_m1, fl_0, fl_1, fl_2, fl_3, fl_4, fl_5, fl_6, fl_7, fl_8, fl_9, fl_10, fl_11, fl_20, fl_200, fl_9999] at *; done) | omega
theorem fq_40  : ((0 : Int32) = 0 ∧ (0 : Int32) = 0) := by first | decide | (simp only [fz_lt, fz_le, fz_eq, true_and, and_true, false_and, and_false, true_or, or_true, false_or, or_false, not_true_eq_false, not_false_eq_true, fl_m1, fl_0, fl_1, fl_2, fl_3, fl_4, fl_5, fl_6, fl_7, fl_8, fl_9, fl_10, fl_11, fl_20, fl_200, fl_9999] at *; omega) | (simp only [fz_lt, fz_le, fz_eq, true_and, and_true, false_and, and_false, true_or, or_true, false_or, or_false, not_true_eq_false, not_false_eq_true, fl_m1, fl_0, fl_1, fl_2, fl_3, fl_4, fl_5, fl_6, fl_7, fl_8, fl_9, fl_10, fl_11, fl_20, fl_200, fl_9999] at *; done) | omega
theorem fq_41 (x0 : Int32) (h0 : (x0 < 0 ∨ 11 < x0)) : ((0 : Int32) = 0 ∧ ¬ ((0 ≤ x0 ∧ x0 ≤ 11))) := by first | decide | (simp only [fz_lt, fz_le, fz_eq, true_and, and_true, false_and, and_false, true_or, or_true, false_or, or_false, not_true_eq_false, not_false_eq_true, fl_m1, fl_0, fl_1, fl_2, fl_3, fl_4, fl_5, fl_6, fl_7, fl_8, fl_9, fl_10, fl_11, fl_20, fl_200, fl_9999] at *; omega) | (simp only [fz_lt, fz_le, fz_eq, true_and, and_true, false_and, and_false, true_or, or_true, false_or, or_false, not_true_eq_false, not_false_eq_true, fl_m1, fl_0, fl_1, fl_2, fl_3, fl_4, fl_5, fl_6, fl_7, fl_8, fl_9, fl_10, fl_11, fl_20, fl_200, fl_9999] at *; done) | omega
theorem fq_42  : ((0 : Int32) = 0 ∧ (1 : Int32) = 1) := by first | decide | (simp only [fz_lt, fz_le, fz_eq, true_and, and_true, false_and, and_false, true_or, or_true, false_or, or_false, not_true_eq_false, not_false_eq_true, fl_m1, fl_0, fl_1, fl_2, fl_3, fl_4, fl_5, fl_6, fl_7, fl_8, fl_9, fl_10, fl_11, fl_20, fl_200, fl_9999] at *; omega) | (simp only [fz_lt, fz_le, fz_eq, true_and, and_true, false_and, and_false, true_or, or_true, false_or, or_false, not_true_eq_false, not_false_eq_true, fl_m1, fl_0, fl_1, fl_2, fl_3, fl_4, fl_5, fl_6, fl_7, fl_8, fl_9, fl_10, fl_11, fl_20, fl_200, fl_9999] at *; done) | omega
theorem fq_43  : ((0 : Int32) = 0 ∧ (2 : Int32) = 2) := by first | decide | (simp only [fz_lt, fz_le, fz_eq, true_and, and_true, false_and, and_false, true_or, or_true, false_or, or_false, not_true_eq_false, not_false_eq_true, fl_m1, fl_0, fl_1, fl_2, fl_3, fl_4, fl_5, fl_6, fl_7, fl_8, fl_9, fl_10, fl_11, fl_20, fl_200, fl_9999] at *; omega) | (simp only [fz_lt, fz_le, fz_eq, true_and, and_true, false_and, and_false, true_or, or_true, false_or, or_false, not_true_eq_false, not_false_eq_true, fl_m1, fl_0, fl_1, fl_2, fl_3, fl_4, fl_5, fl_6, fl_7, fl_8, fl_9, fl_10, fl_11, fl_20, fl_200, fl_9999] at *; done) | omega
theorem fq_44  : ((0 : Int32) = 0 ∧ ((3 : Int32) ≤ 3 ∧ (3 : Int32) ≤ 5)) := by first | decide | (simp only [fz_lt, fz_le, fz_eq, true_and, and_true, false_and, and_false, true_or, or_true, false_or, or_false, not_true_eq_false, not_false_eq_true, fl_m1, fl_0, fl_1, fl_2, fl_3, fl_4, fl_5, fl_6, fl_7, fl_8, fl_9, fl_10, fl_11, fl_20, fl_200, fl_9999] at *; omega) | (simp only [fz_lt, fz_le, fz_eq, true_and, and_true, false_and, and_false, true_or, or_true, false_or, or_false, not_true_eq_false, not_false_eq_true, fl_m1, fl_0, fl_1, fl_2, fl_3, fl_4, fl_5, fl_6, fl_7, fl_8, fl_9, fl_10, fl_11, fl_20, fl_200, fl_9999] at *; done) | omega
theorem fq_45  : ((0 : Int32) = 0 ∧ ((3 : Int32) ≤ 4 ∧ (4 : Int32) ≤ 5)) := by first | decide | (simp only [fz_lt, fz_le, fz_eq, true_and, and_true, false_and, and_false, true_or, or_true, false_or, or_false, not_true_eq_false, not_false_eq_true, fl_m1, fl_0, fl_1, fl_2, fl_3, fl_4, fl_5, fl_6, fl_7, fl_8, fl_9, fl_10, fl_11, fl_20, fl_200, fl_9999] at *; omega) | (simp only [fz_lt, fz_le, fz_eq, true_and, and_true, false_and, and_false, true_or, or_true, false_or, or_false, not_true_eq_false, not_false_eq_true, fl_m1, fl_0, fl_1, fl_2, fl_3, fl_4, fl_5, fl_6, fl_7, fl_8, fl_9, fl_10, fl_11, fl_20, fl_200, fl_9999] at *; done) | omega
theorem fq_46  : ((0 : Int32) = 0 ∧ ((3 : Int32) ≤ 5 ∧ (5 : Int32) ≤ 5)) := by first | decide | (simp only [fz_lt, fz_le, fz_eq, true_and, and_true, false_and, and_false, true_or, or_true, false_or, or_false, not_true_eq_false, not_false_eq_true, fl_m1, fl_0, fl_1, fl_2, fl_3, fl_4, fl_5, fl_6, fl_7, fl_8, fl_9, fl_10, fl_11, fl_20, fl_200, fl_9999] at *; omega) | (simp only [fz_lt, fz_le, fz_eq, true_and, and_true, false_and, and_false, true_or, or_true, false_or, or_false, not_true_eq_false, not_false_eq_true, fl_m1, fl_0, fl_1, fl_2, fl_3, fl_4, fl_5, fl_6, fl_7, fl_8, fl_9, fl_10, fl_11, fl_20, fl_200, fl_9999] at *; done) | omega
theorem fq_47  : ((0 : Int32) = 0 ∧ ((6 : Int32) ≤ 6 ∧ (6 : Int32) ≤ 8)) := by first | decide | (simp only [fz_lt, fz_le, fz_eq, true_and, and_true, false_and, and_false, true_or, or_true, false_or, or_false, not_true_eq_false, not_false_eq_true, fl_m1, fl_0, fl_1, fl_2, fl_3, fl_4, fl_5, fl_6, fl_7, fl_8, fl_9, fl_10, fl_11, fl_20, fl_200, fl_9999] at *; omega) | (simp only [fz_lt, fz_le, fz_eq, true_and, and_true, false_and, and_false, true_or, or_true, false_or, or_false, not_true_eq_false, not_false_eq_true, fl_m1, fl_0, fl_1, fl_2, fl_3, fl_4, fl_5, fl_6, fl_7, fl_8, fl_9, fl_10, fl_11, fl_20, fl_200, fl_9999] at *; done) | omega
theorem fq_48  : ((0 : Int32) = 0 ∧ ((6 : Int32) ≤ 7 ∧ (7 : Int32) ≤ 8)) := by first | decide | (simp only [fz_lt, fz_le, fz_eq, true_and, and_true, false_and, and_false, true_or, or_true, false_or, or_false, not_true_eq_false, not_false_eq_true, fl_m1, fl_0, fl_1, fl_2, fl_3, fl_4, fl_5, fl_6, fl_7, fl_8, fl_9, fl_10, fl_11, fl_20, fl_200, fl_9999] at *; omega) | (simp only [fz_lt, fz_le, fz_eq, true_and, and_true, false_and, and_false, true_or, or_true, false_or, or_false, not_true_eq_false, not_false_eq_true, fl_m1, fl_0, fl_1, fl_2, fl_3, fl_4, fl_5, fl_6, fl_7, fl_8, fl_9, fl_10, fl_11, fl_20, fl_200, fl_9999] at *; done) | omega
theorem fq_49  : ((0 : Int32) = 0 ∧ ((6 : Int32) ≤ 8 ∧ (8 : Int32) ≤ 8)) := by first | decide | (simp only [fz_lt, fz_le, fz_eq, true_and, and_true, false_and, and_false, true_or, or_true, false_or, or_false, not_true_eq_false, not_false_eq_true, fl_m1, fl_0, fl_1, fl_2, fl_3, fl_4, fl_5, fl_6, fl_7, fl_8, fl_9, fl_10, fl_11, fl_20, fl_200, fl_9999] at *; omega) | (simp only [fz_lt, fz_le, fz_eq, true_and, and_true, false_and, and_false, true_or, or_true, false_or, or_false, not_true_eq_false, not_false_eq_true, fl_m1, fl_0, fl_1, fl_2, fl_3, fl_4, fl_5, fl_6, fl_7, fl_8, fl_9, fl_10, fl_11, fl_20, fl_200, fl_9999] at *; done) | omega
theorem fq_50  : ((0 : Int32) = 0 ∧ ((9 : Int32) ≤ 9 ∧ (9 : Int32) ≤ 10)) := by first | decide | (simp only [fz_lt, fz_le, fz_eq, true_and, and_true, false_and, and_false, true_or, or_true, false_or, or_false, not_true_eq_false, not_false_eq_true, fl_m1, fl_0, fl_1, fl_2, fl_3, fl_4, fl_5, fl_6, fl_7, fl_8, fl_9, fl_10, fl_11, fl_20, fl_200, fl_9999] at *; omega) | (simp only [fz_lt, fz_le, fz_eq, true_and, and_true, false_and, and_false, true_or, or_true, false_or, or_false, not_true_eq_false, not_false_eq_true, fl_m1, fl_0, fl_1, fl_2, fl_3, fl_4, fl_5, fl_6, fl_7, fl_8, fl_9, fl_10, fl_11, fl_20, fl_200, fl_9999] at *; done) | omega
theorem fq_51  : ((0 : Int32) = 0 ∧ ((9 : Int32) ≤ 10 ∧ (10 : Int32) ≤ 10)) := by first | decide | (simp only [fz_lt, fz_le, fz_eq, true_and, and_true, false_and, and_false, true_or, or_true, false_or, or_false, not_true_eq_false, not_false_eq_true, fl_m1, fl_0, fl_1, fl_2, fl_3, fl_4, fl_5, fl_6, fl_7, fl_8, fl_9, fl_10, fl_11, fl_20, fl_200, fl_9999] at *; omega) | (simp only [fz_lt, fz_le, fz_eq, true_and, and_true, false_and, and_false, true_or, or_true, false_or, or_false, not_true_eq_false, not_false_eq_true, fl_m1, fl_0, fl_1, fl_2, fl_3, fl_4, fl_5, fl_6, fl_7, fl_8, fl_9, fl_10, fl_11, fl_20, fl_200, fl_9999] at *; done) | omega
theorem fq_52 (x0 : Int32) (h0 : (0 ≤ x0 ∧ x0 ≤ 11)) (h1 : ¬ (x0 = 0)) (h2 : ¬ (x0 = 1)) (h3 : ¬ (x0 = 2)) (h4 : ¬ (x0 = 3)) (h5 : ¬ (x0 = 4)) (h6 : ¬ (x0 = 5)) (h7 : ¬ (x0 = 6)) (h8 : ¬ (x0 = 7)) (h9 : ¬ (x0 = 8)) (h10 : ¬ (x0 = 9)) (h11 : ¬ (x0 = 10)) : x0 = 11 := by first | decide | (simp only [fz_lt, fz_le, fz_eq, true_and, and_true, false_and, and_false, true_or, or_true, false_or, or_false, not_true_eq_false, not_false_eq_true, fl_m1, fl_0, fl_1, fl_2, fl_3, fl_4, fl_5, fl_6, fl_7, fl_8, fl_9, fl_10, fl_11, fl_20, fl_200, fl_9999] at *; omega) | (simp only [fz_lt, fz_le, fz_eq, true_and, and_true, false_and, and_false, true_or, or_true, false_or, or_false, not_true_eq_false, not_false_eq_true, fl_m1, fl_0, fl_1, fl_2, fl_3, fl_4, fl_5, fl_6, fl_7, fl_8, fl_9, fl_10, fl_11, fl_20, fl_200, fl_9999] at *; done) | omega
theorem fq_53  : ((0 : Int32) = 0 ∧ (11 : Int32) = 11) := by first | decide | (simp only [fz_lt, fz_le, fz_eq, true_and, and_true, false_and, and_false, true_or, or_true, false_or, or_false, not_true_eq_false, not_false_eq_true, fl_m1, fl_0, fl_1, fl_2, fl_3, fl_4, fl_5, fl_6, fl_7, fl_8, fl_9, fl_10, fl_11, fl_20, fl_200, fl_9999] at *; omega) | (simp only [fz_lt, fz_le, fz_eq, true_and, and_true, false_and, and_false, true_or, or_true, false_or, or_false, not_true_eq_false, not_false_eq_true, fl_m1, fl_0, fl_1, fl_2, fl_3, fl_4, fl_5, fl_6, fl_7, fl_8, fl_9, fl_10, fl_11, fl_20, fl_200, fl_9999] at *; done) | omega
theorem fq_54 (x0 : Int32) (h0 : (x0 < 0 ∨ 2 < x0)) : ((0 : Int32) = 0 ∧ ¬ ((0 ≤ x0 ∧ x0 ≤ 2))) := by first | decide | (simp only [fz_lt, fz_le, fz_eq, true_and, and_true, false_and, and_false, true_or, or_true, false_or, or_false, not_true_eq_false, not_false_eq_true, fl_m1, fl_0, fl_1, fl_2, fl_3, fl_4, fl_5, fl_6, fl_7, fl_8, fl_9, fl_10, fl_11, fl_20, fl_200, fl_9999] at *; omega) | (simp only [fz_lt, fz_le, fz_eq, true_and, and_true, false_and, and_false, true_or, or_true, false_or, or_false, not_true_eq_false, not_false_eq_true, fl_m1, fl_0, fl_1, fl_2, fl_3, fl_4, fl_5, fl_6, fl_7, fl_8, fl_9, fl_10, fl_11, fl_20, fl_200, fl_9999] at *; done) | omega
theorem fq_55  : ((0 : Int32) = 0 ∧ ((1 : Int32) ≤ 1 ∧ (1 : Int32) ≤ 2)) := by first | decide | (simp only [fz_lt, fz_le, fz_eq, true_and, and_true, false_and, and_false, true_or, or_true, false_or, or_false, not_true_eq_false, not_false_eq_true, fl_m1, fl_0, fl_1, fl_2, fl_3, fl_4, fl_5, fl_6, fl_7, fl_8, fl_9, fl_10, fl_11, fl_20, fl_200, fl_9999] at *; omega) | (simp only [fz_lt, fz_le, fz_eq, true_and, and_true, false_and, and_false, true_or, or_true, false_or, or_false, not_true_eq_false, not_false_eq_true, fl_m1, fl_0, fl_1, fl_2, fl_3, fl_4, fl_5, fl_6, fl_7, fl_8, fl_9, fl_10, fl_11, fl_20, fl_200, fl_9999] at *; done) | omega
theorem fq_56 (x0 : Int32) (h0 : (0 ≤ x0 ∧ x0 ≤ 2)) (h1 : ¬ (x0 = 0)) (h2 : ¬ (x0 = 1)) : x0 = 2 := by first | decide | (simp only [fz_lt, fz_le, fz_eq, true_and, and_true, false_and, and_false, true_or, or_true, false_or, or_false, not_true_eq_false, not_false_eq_true, fl_m1, fl_0, fl_1, fl_2, fl_3, fl_4, fl_5, fl_6, fl_7, fl_8, fl_9, fl_10, fl_11, fl_20, fl_200, fl_9999] at *; omega) | (simp only [fz_lt, fz_le, fz_eq, true_and, and_true, false_and, and_false, true_or, or_true, false_or, or_false, not_true_eq_false, not_false_eq_true, fl_m1, fl_0, fl_1, fl_2, fl_3, fl_4, fl_5, fl_6, fl_7, fl_8, fl_9, fl_10, fl_11, fl_20, fl_200, fl_9999] at *; done) | omega
theorem fq_57  : ((0 : Int32) = 0 ∧ ((1 : Int32) ≤ 2 ∧ (2 : Int32) ≤ 2)) := by first | decide | (simp only [fz_lt, fz_le, fz_eq, true_and, and_true, false_and, and_false, true_or, or_true, false_or, or_false, not_true_eq_false, not_false_eq_true, fl_m1, fl_0, fl_1, fl_2, fl_3, fl_4, fl_5, fl_6, fl_7, fl_8, fl_9, fl_10, fl_11, fl_20, fl_200, fl_9999] at *; omega) | (simp only [fz_lt, fz_le, fz_eq, true_and, and_true, false_and, and_false, true_or, or_true, false_or, or_false, not_true_eq_false, not_false_eq_true, fl_m1, fl_0, fl_1, fl_2, fl_3, fl_4, fl_5, fl_6, fl_7, fl_8, fl_9, fl_10, fl_11, fl_20, fl_200, fl_9999] at *; done) | omega
theorem fq_58 (x0 : Int32) (h0 : ¬ ((0 ≤ x0 ∧ x0 ≤ 9999))) : ((0 : Int32) = 0 ∧ ¬ ((0 ≤ x0 ∧ x0 ≤ 9999))) := by first | decide | (simp only [fz_lt, fz_le, fz_eq, true_and, and_true, false_and, and_false, true_or, or_true, false_or, or_false, not_true_eq_false, not_false_eq_true, fl_m1, fl_0, fl_1, fl_2, fl_3, fl_4, fl_5, fl_6, fl_7, fl_8, fl_9, fl_10, fl_11, fl_20, fl_200, fl_9999] at *; omega) | (simp only [fz_lt, fz_le, fz_eq, true_and, and_true, false_and, and_false, true_or, or_true, false_or, or_false, not_true_eq_false, not_false_eq_true, fl_m1, fl_0, fl_1, fl_2, fl_3, fl_4, fl_5, fl_6, fl_7, fl_8, fl_9, fl_10, fl_11, fl_20, fl_200, fl_9999] at *; done) | omega
theorem fq_59 (x0 : Int32) (h0 : (0 ≤ x0 ∧ x0 ≤ 9999)) : ((0 : Int32) = 0 ∧ (0 ≤ x0 ∧ x0 ≤ 9999)) := by first | decide | (simp only [fz_lt, fz_le, fz_eq, true_and, and_true, false_and, and_false, true_or, or_true, false_or, or_false, not_true_eq_false, not_false_eq_true, fl_m1, fl_0, fl_1, fl_2, fl_3, fl_4, fl_5, fl_6, fl_7, fl_8, fl_9, fl_10, fl_11, fl_20, fl_200, fl_9999] at *; omega) | (simp only [fz_lt, fz_le, fz_eq, true_and, and_true, false_and, and_false, true_or, or_true, false_or, or_false, not_true_eq_false, not_false_eq_true, fl_m1, fl_0, fl_1, fl_2, fl_3, fl_4, fl_5, fl_6, fl_7, fl_8, fl_9, fl_10, fl_11, fl_20, fl_200, fl_9999] at *; done) | omega
theorem fq_60 (x0 x1 : Int32) (h0 : x0 < 0) : (¬ ((0 ≤ x0 ∧ x0 ≤ 7)) ∨ ¬ (x1 = 0)) := by first | decide | (simp only [fz_lt, fz_le, fz_eq, true_and, and_true, false_and, and_false, true_or, or_true, false_or, or_false, not_true_eq_false, not_false_eq_true, fl_m1, fl_0, fl_1, fl_2, fl_3, fl_4, fl_5, fl_6, fl_7, fl_8, fl_9, fl_10, fl_11, fl_20, fl_200, fl_9999] at *; omega) | (simp only [fz_lt, fz_le, fz_eq, true_and, and_true, false_and, and_false, true_or, or_true, false_or, or_false, not_true_eq_false, not_false_eq_true, fl_m1, fl_0, fl_1, fl_2, fl_3, fl_4, fl_5, fl_6, fl_7, fl_8, fl_9, fl_10, fl_11, fl_20, fl_200, fl_9999] at *; done) | omega
theorem fq_61 (x0 x1 : Int32) (h0 : ¬ (x1 = 0)) : (¬ ((0 ≤ x0 ∧ x0 ≤ 7)) ∨ ¬ (x1 = 0)) := by first | decide | (simp only [fz_lt, fz_le, fz_eq, true_and, and_true, false_and, and_false, true_or, or_true, false_or, or_false, not_true_eq_false, not_false_eq_true, fl_m1, fl_0, fl_1, fl_2, fl_3, fl_4, fl_5, fl_6, fl_7, fl_8, fl_9, fl_10, fl_11, fl_20, fl_200, fl_9999] at *; omega) | (simp only [fz_lt, fz_le, fz_eq, true_and, and_true, false_and, and_false, true_or, or_true, false_or, or_false, not_true_eq_false, not_false_eq_true, fl_m1, fl_0, fl_1, fl_2, fl_3, fl_4, fl_5, fl_6, fl_7, fl_8, fl_9, fl_10, fl_11, fl_20, fl_200, fl_9999] at *; done) | omega
theorem fq_62 (x0 : Int32) (h0 : ¬ (x0 < 0)) (h1 : x0 < 8) : ((0 ≤ x0 ∧ x0 ≤ 7) ∧ (0 : Int32) = 0) := by first | decide | (simp only [fz_lt, fz_le, fz_eq, true_and, and_true, false_and, and_false, true_or, or_true, false_or, or_false, not_true_eq_false, not_false_eq_true, fl_m1, fl_0, fl_1, fl_2, fl_3, fl_4, fl_5, fl_6, fl_7, fl_8, fl_9, fl_10, fl_11, fl_20, fl_200, fl_9999] at *; omega) | (simp only [fz_lt, fz_le, fz_eq, true_and, and_true, false_and, and_false, true_or, or_true, false_or, or_false, not_true_eq_false, not_false_eq_true, fl_m1, fl_0, fl_1, fl_2, fl_3, fl_4, fl_5, fl_6, fl_7, fl_8, fl_9, fl_10, fl_11, fl_20, fl_200, fl_9999] at *; done) | omega
theorem fq_63 (x0 x1 : Int32) (h0 : ¬ (x0 < 8)) : (¬ ((0 ≤ x0 ∧ x0 ≤ 7)) ∨ ¬ (x1 = 0)) := by first | decide | (simp only [fz_lt, fz_le, fz_eq, true_and, and_true, false_and, and_false, true_or, or_true, false_or, or_false, not_true_eq_false, not_false_eq_true, fl_m1, fl_0, fl_1, fl_2, fl_3, fl_4, fl_5, fl_6, fl_7, fl_8, fl_9, fl_10, fl_11, fl_20, fl_200, fl_9999] at *; omega) | (simp only [fz_lt, fz_le, fz_eq, true_and, and_true, false_and, and_false, true_or, or_true, false_or, or_false, not_true_eq_false, not_false_eq_true, fl_m1, fl_0, fl_1, fl_2, fl_3, fl_4, fl_5, fl_6, fl_7, fl_8, fl_9, fl_10, fl_11, fl_20, fl_200, fl_9999] at *; done) | omega
theorem fq_64 (x0 : Int32) (h0 : (x0 < 0 ∨ 9 < x0)) : ¬ ((0 ≤ x0 ∧ x0 ≤ 9)) := by first | decide | (simp only [fz_lt, fz_le, fz_eq, true_and, and_true, false_and, and_false, true_or, or_true, false_or, or_false, not_true_eq_false, not_false_eq_true, fl_m1, fl_0, fl_1, fl_2, fl_3, fl_4, fl_5, fl_6, fl_7, fl_8, fl_9, fl_10, fl_11, fl_20, fl_200, fl_9999] at *; omega) | (simp only [fz_lt, fz_le, fz_eq, true_and, and_true, false_and, and_false, true_or, or_true, false_or, or_false, not_true_eq_false, not_false_eq_true, fl_m1, fl_0, fl_1, fl_2, fl_3, fl_4, fl_5, fl_6, fl_7, fl_8, fl_9, fl_10, fl_11, fl_20, fl_200, fl_9999] at *; done) | omega
theorem fq_65  : ((1 : Int32) ≤ 1 ∧ (1 : Int32) ≤ 9) := by first | decide | (simp only [fz_lt, fz_le, fz_eq, true_and, and_true, false_and, and_false, true_or, or_true, false_or, or_false, not_true_eq_false, not_false_eq_true, fl_m1, fl_0, fl_1, fl_2, fl_3, fl_4, fl_5, fl_6, fl_7, fl_8, fl_9, fl_10, fl_11, fl_20, fl_200, fl_9999] at *; omega) | (simp only [fz_lt, fz_le, fz_eq, true_and, and_true, false_and, and_false, true_or, or_true, false_or, or_false, not_true_eq_false, not_false_eq_true, fl_m1, fl_0, fl_1, fl_2, fl_3, fl_4, fl_5, fl_6, fl_7, fl_8, fl_9, fl_10, fl_11, fl_20, fl_200, fl_9999] at *; done) | omega
theorem fq_66  : ((1 : Int32) ≤ 2 ∧ (2 : Int32) ≤ 9) := by first | decide | (simp only [fz_lt, fz_le, fz_eq, true_and, and_true, false_and, and_false, true_or, or_true, false_or, or_false, not_true_eq_false, not_false_eq_true, fl_m1, fl_0, fl_1, fl_2, fl_3, fl_4, fl_5, fl_6, fl_7, fl_8, fl_9, fl_10, fl_11, fl_20, fl_200, fl_9999] at *; omega) | (simp only [fz_lt, fz_le, fz_eq, true_and, and_true, false_and, and_false, true_or, or_true, false_or, or_false, not_true_eq_false, not_false_eq_true, fl_m1, fl_0, fl_1, fl_2, fl_3, fl_4, fl_5, fl_6, fl_7, fl_8, fl_9, fl_10, fl_11, fl_20, fl_200, fl_9999] at *; done) | omega
theorem fq_67  : ((1 : Int32) ≤ 3 ∧ (3 : Int32) ≤ 9) := by first | decide | (simp only [fz_lt, fz_le, fz_eq, true_and, and_true, false_and, and_false, true_or, or_true, false_or, or_false, not_true_eq_false, not_false_eq_true, fl_m1, fl_0, fl_1, fl_2, fl_3, fl_4, fl_5, fl_6, fl_7, fl_8, fl_9, fl_10, fl_11, fl_20, fl_200, fl_9999] at *; omega) | (simp only [fz_lt, fz_le, fz_eq, true_and, and_true, false_and, and_false, true_or, or_true, false_or, or_false, not_true_eq_false, not_false_eq_true, fl_m1, fl_0, fl_1, fl_2, fl_3, fl_4, fl_5, fl_6, fl_7, fl_8, fl_9, fl_10, fl_11, fl_20, fl_200, fl_9999] at *; done) | omega
theorem fq_68  : ((1 : Int32) ≤ 4 ∧ (4 : Int32) ≤ 9) := by first | decide | (simp only [fz_lt, fz_le, fz_eq, true_and, and_true, false_and, and_false, true_or, or_true, false_or, or_false, not_true_eq_false, not_false_eq_true, fl_m1, fl_0, fl_1, fl_2, fl_3, fl_4, fl_5, fl_6, fl_7, fl_8, fl_9, fl_10, fl_11, fl_20, fl_200, fl_9999] at *; omega) | (simp only [fz_lt, fz_le, fz_eq, true_and, and_true, false_and, and_false, true_or, or_true, false_or, or_false, not_true_eq_false, not_false_eq_true, fl_m1, fl_0, fl_1, fl_2, fl_3, fl_4, fl_5, fl_6, fl_7, fl_8, fl_9, fl_10, fl_11, fl_20, fl_200, fl_9999] at *; done) | omega
theorem fq_69  : ((1 : Int32) ≤ 5 ∧ (5 : Int32) ≤ 9) := by first | decide | (simp only [fz_lt, fz_le, fz_eq, true_and, and_true, false_and, and_false, true_or, or_true, false_or, or_false, not_true_eq_false, not_false_eq_true, fl_m1, fl_0, fl_1, fl_2, fl_3, fl_4, fl_5, fl_6, fl_7, fl_8, fl_9, fl_10, fl_11, fl_20, fl_200, fl_9999] at *; omega) | (simp only [fz_lt, fz_le, fz_eq, true_and, and_true, false_and, and_false, true_or, or_true, false_or, or_false, not_true_eq_false, not_false_eq_true, fl_m1, fl_0, fl_1, fl_2, fl_3, fl_4, fl_5, fl_6, fl_7, fl_8, fl_9, fl_10, fl_11, fl_20, fl_200, fl_9999] at *; done) | omega
theorem fq_70  : ((1 : Int32) ≤ 6 ∧ (6 : Int32) ≤ 9) := by first | decide | (simp only [fz_lt, fz_le, fz_eq, true_and, and_true, false_and, and_false, true_or, or_true, false_or, or_false, not_true_eq_false, not_false_eq_true, fl_m1, fl_0, fl_1, fl_2, fl_3, fl_4, fl_5, fl_6, fl_7, fl_8, fl_9, fl_10, fl_11, fl_20, fl_200, fl_9999] at *; omega) | (simp only [fz_lt, fz_le, fz_eq, true_and, and_true, false_and, and_false, true_or, or_true, false_or, or_false, not_true_eq_false, not_false_eq_true, fl_m1, fl_0, fl_1, fl_2, fl_3, fl_4, fl_5, fl_6, fl_7, fl_8, fl_9, fl_10, fl_11, fl_20, fl_200, fl_9999] at *; done) | omega
theorem fq_71  : ((1 : Int32) ≤ 7 ∧ (7 : Int32) ≤ 9) := by first | decide | (simp only [fz_lt, fz_le, fz_eq, true_and, and_true, false_and, and_false, true_or, or_true, false_or, or_false, not_true_eq_false, not_false_eq_true, fl_m1, fl_0, fl_1, fl_2, fl_3, fl_4, fl_5, fl_6, fl_7, fl_8, fl_9, fl_10, fl_11, fl_20, fl_200, fl_9999] at *; omega) | (simp only [fz_lt, fz_le, fz_eq, true_and, and_true, false_and, and_false, true_or, or_true, false_or, or_false, not_true_eq_false, not_false_eq_true, fl_m1, fl_0, fl_1, fl_2, fl_3, fl_4, fl_5, fl_6, fl_7, fl_8, fl_9, fl_10, fl_11, fl_20, fl_200, fl_9999] at *; done) | omega
theorem fq_72  : ((1 : Int32) ≤ 8 ∧ (8 : Int32) ≤ 9) := by first | decide | (simp only [fz_lt, fz_le, fz_eq, true_and, and_true, false_and, and_false, true_or, or_true, false_or, or_false, not_true_eq_false, not_false_eq_true, fl_m1, fl_0, fl_1, fl_2, fl_3, fl_4, fl_5, fl_6, fl_7, fl_8, fl_9, fl_10, fl_11, fl_20, fl_200, fl_9999] at *; omega) | (simp only [fz_lt, fz_le, fz_eq, true_and, and_true, false_and, and_false, true_or, or_true, false_or, or_false, not_true_eq_false, not_false_eq_true, fl_m1, fl_0, fl_1, fl_2, fl_3, fl_4, fl_5, fl_6, fl_7, fl_8, fl_9, fl_10, fl_11, fl_20, fl_200, fl_9999] at *; done) | omega
theorem fq_73 (x0 : Int32) (h0 : (0 ≤ x0 ∧ x0 ≤ 9)) (h1 : ¬ (x0 = 0)) (h2 : ¬ (x0 = 1)) (h3 : ¬ (x0 = 2)) (h4 : ¬ (x0 = 3)) (h5 : ¬ (x0 = 4)) (h6 : ¬ (x0 = 5)) (h7 : ¬ (x0 = 6)) (h8 : ¬ (x0 = 7)) (h9 : ¬ (x0 = 8)) : x0 = 9 := by first | decide | (simp only [fz_lt, fz_le, fz_eq, true_and, and_true, false_and, and_false, true_or, or_true, false_or, or_false, not_true_eq_false, not_false_eq_true, fl_m1, fl_0, fl_1, fl_2, fl_3, fl_4, fl_5, fl_6, fl_7, fl_8, fl_9, fl_10, fl_11, fl_20, fl_200, fl_9999] at *; omega) | (simp only [fz_lt, fz_le, fz_eq, true_and, and_true, false_and, and_false, true_or, or_true, false_or, or_false, not_true_eq_false, not_false_eq_true, fl_m1, fl_0, fl_1, fl_2, fl_3, fl_4, fl_5, fl_6, fl_7, fl_8, fl_9, fl_10, fl_11, fl_20, fl_200, fl_9999] at *; done) | omega
theorem fq_74  : ((1 : Int32) ≤ 9 ∧ (9 : Int32) ≤ 9) := by first | decide | (simp only [fz_lt, fz_le, fz_eq, true_and, and_true, false_and, and_false, true_or, or_true, false_or, or_false, not_true_eq_false, not_false_eq_true, fl_m1, fl_0, fl_1, fl_2, fl_3, fl_4, fl_5, fl_6, fl_7, fl_8, fl_9, fl_10, fl_11, fl_20, fl_200, fl_9999] at *; omega) | (simp only [fz_lt, fz_le, fz_eq, true_and, and_true, false_and, and_false, true_or, or_true, false_or, or_false, not_true_eq_false, not_false_eq_true, fl_m1, fl_0, fl_1, fl_2, fl_3, fl_4, fl_5, fl_6, fl_7, fl_8, fl_9, fl_10, fl_11, fl_20, fl_200, fl_9999] at *; done) | omega
theorem fq_75 (x0 x1 : Int32) (h0 : ¬ ((0 ≤ x0 ∧ x0 ≤ 9999))) : (¬ ((0 ≤ x0 ∧ x0 ≤ 9999)) ∨ ¬ ((0 ≤ x1 ∧ x1 ≤ 3))) := by first | decide | (simp only [fz_lt, fz_le, fz_eq, true_and, and_true, false_and, and_false, true_or, or_true, false_or, or_false, not_true_eq_false, not_false_eq_true, fl_m1, fl_0, fl_1, fl_2, fl_3, fl_4, fl_5, fl_6, fl_7, fl_8, fl_9, fl_10, fl_11, fl_20, fl_200, fl_9999] at *; omega) | (simp only [fz_lt, fz_le, fz_eq, true_and, and_true, false_and, and_false, true_or, or_true, false_or, or_false, not_true_eq_false, not_false_eq_true, fl_m1, fl_0, fl_1, fl_2, fl_3, fl_4, fl_5, fl_6, fl_7, fl_8, fl_9, fl_10, fl_11, fl_20, fl_200, fl_9999] at *; done) | omega
theorem fq_76 (x0 x1 : Int32) (h0 : (x1 < 0 ∨ 3 < x1)) : (¬ ((0 ≤ x0 ∧ x0 ≤ 9999)) ∨ ¬ ((0 ≤ x1 ∧ x1 ≤ 3))) := by first | decide | (simp only [fz_lt, fz_le, fz_eq, true_and, and_true, false_and, and_false, true_or, or_true, false_or, or_false, not_true_eq_false, not_false_eq_true, fl_m1, fl_0, fl_1, fl_2, fl_3, fl_4, fl_5, fl_6, fl_7, fl_8, fl_9, fl_10, fl_11, fl_20, fl_200, fl_9999] at *; omega) | (simp only [fz_lt, fz_le, fz_eq, true_and, and_true, false_and, and_false, true_or, or_true, false_or, or_false, not_true_eq_false, not_false_eq_true, fl_m1, fl_0, fl_1, fl_2, fl_3, fl_4, fl_5, fl_6, fl_7, fl_8, fl_9, fl_10, fl_11, fl_20, fl_200, fl_9999] at *; done) | omega
theorem fq_77 (x0 : Int32) (h0 : (0 ≤ x0 ∧ x0 ≤ 9999)) : ((0 ≤ x0 ∧ x0 ≤ 9999) ∧ ((0 : Int32) ≤ 0 ∧ (0 : Int32) ≤ 3)) := by first | decide | (simp only [fz_lt, fz_le, fz_eq, true_and, and_true, false_and, and_false, true_or, or_true, false_or, or_false, not_true_eq_false, not_false_eq_true, fl_m1, fl_0, fl_1, fl_2, fl_3, fl_4, fl_5, fl_6, fl_7, fl_8, fl_9, fl_10, fl_11, fl_20, fl_200, fl_9999] at *; omega) | (simp only [fz_lt, fz_le, fz_eq, true_and, and_true, false_and, and_false, true_or, or_true, false_or, or_false, not_true_eq_false, not_false_eq_true, fl_m1, fl_0, fl_1, fl_2, fl_3, fl_4, fl_5, fl_6, fl_7, fl_8, fl_9, fl_10, fl_11, fl_20, fl_200, fl_9999] at *; done) | omega
theorem fq_78 (x0 : Int32) (h0 : (0 ≤ x0 ∧ x0 ≤ 9999)) : ((0 ≤ x0 ∧ x0 ≤ 9999) ∧ ((0 : Int32) ≤ 1 ∧ (1 : Int32) ≤ 3)) := by first | decide | (simp only [fz_lt, fz_le, fz_eq, true_and, and_true, false_and, and_false, true_or, or_true, false_or, or_false, not_true_eq_false, not_false_eq_true, fl_m1, fl_0, fl_1, fl_2, fl_3, fl_4, fl_5, fl_6, fl_7, fl_8, fl_9, fl_10, fl_11, fl_20, fl_200, fl_9999] at *; omega) | (simp only [fz_lt, fz_le, fz_eq, true_and, and_true, false_and, and_false, true_or, or_true, false_or, or_false, not_true_eq_false, not_false_eq_true, fl_m1, fl_0, fl_1, fl_2, fl_3, fl_4, fl_5, fl_6, fl_7, fl_8, fl_9, fl_10, fl_11, fl_20, fl_200, fl_9999] at *; done) | omega
theorem fq_79 (x0 : Int32) (h0 : (0 ≤ x0 ∧ x0 ≤ 9999)) : ((0 ≤ x0 ∧ x0 ≤ 9999) ∧ ((0 : Int32) ≤ 2 ∧ (2 : Int32) ≤ 3)) := by first | decide | (simp only [fz_lt, fz_le, fz_eq, true_and, and_true, false_and, and_false, true_or, or_true, false_or, or_false, not_true_eq_false, not_false_eq_true, fl_m1, fl_0, fl_1, fl_2, fl_3, fl_4, fl_5, fl_6, fl_7, fl_8, fl_9, fl_10, fl_11, fl_20, fl_200, fl_9999] at *; omega) | (simp only [fz_lt, fz_le, fz_eq, true_and, and_true, false_and, and_false, true_or, or_true, false_or, or_false, not_true_eq_false, not_false_eq_true, fl_m1, fl_0, fl_1, fl_2, fl_3, fl_4, fl_5, fl_6, fl_7, fl_8, fl_9, fl_10, fl_11, fl_20, fl_200, fl_9999] at *; done) | omega
theorem fq_80 (x0 : Int32) (h0 : (0 ≤ x0 ∧ x0 ≤ 3)) (h1 : ¬ (x0 = 0)) (h2 : ¬ (x0 = 1)) (h3 : ¬ (x0 = 2)) : x0 = 3 := by first | decide | (simp only [fz_lt, fz_le, fz_eq, true_and, and_true, false_and, and_false, true_or, or_true, false_or, or_false, not_true_eq_false, not_false_eq_true, fl_m1, fl_0, fl_1, fl_2, fl_3, fl_4, fl_5, fl_6, fl_7, fl_8, fl_9, fl_10, fl_11, fl_20, fl_200, fl_9999] at *; omega) | (simp only [fz_lt, fz_le, fz_eq, true_and, and_true, false_and, and_false, true_or, or_true, false_or, or_false, not_true_eq_false, not_false_eq_true, fl_m1, fl_0, fl_1, fl_2, fl_3, fl_4, fl_5, fl_6, fl_7, fl_8, fl_9, fl_10, fl_11, fl_20, fl_200, fl_9999] at *; done) | omega
theorem fq_81 (x0 : Int32) (h0 : (0 ≤ x0 ∧ x0 ≤ 9999)) : ((0 ≤ x0 ∧ x0 ≤ 9999) ∧ ((0 : Int32) ≤ 3 ∧ (3 : Int32) ≤ 3)) := by first | decide | (simp only [fz_lt, fz_le, fz_eq, true_and, and_true, false_and, and_false, true_or, or_true, false_or, or_false, not_true_eq_false, not_false_eq_true, fl_m1, fl_0, fl_1, fl_2, fl_3, fl_4, fl_5, fl_6, fl_7, fl_8, fl_9, fl_10, fl_11, fl_20, fl_200, fl_9999] at *; omega) | (simp only [fz_lt, fz_le, fz_eq, true_and, and_true, false_and, and_false, true_or, or_true, false_or, or_false, not_true_eq_false, not_false_eq_true, fl_m1, fl_0, fl_1, fl_2, fl_3, fl_4, fl_5, fl_6, fl_7, fl_8, fl_9, fl_10, fl_11, fl_20, fl_200, fl_9999] at *; done) | omega
end
section
set_option maxHeartbeats 4000000 in
set_option maxRecDepth 100000 in
theorem c_remove (l : Launch) (hl0 : l.stackTraces = false) (A : Nat → Prop) (D : va_G) (k : Nat → ClassId) (q : Nat → Nat) (f : Nat → Nat → Int32) (pa : Nat → Option Nat) (v : Nat → Int32) (p0 : Int32) (g_v_1 : v 1 = 1) (g_f_4_0 : f 4 0 = 0)  :
    vx_Met l yX9_remove (fz_ws yX9_remove cX9_remove 3 (some .int)) { frames := 24, cells := 2, slots := 12, locals := 320 } (va_Pc [.ref (q 31), .int p0] (fz_PC A D (fz_tys k) (fz_WC k q f pa v))) (fz_QI D A (fun (_ : Unit) => ([] : va_W)) (fun (r : Int32) (_ : Unit) => r = 0)) (fz_XC (fun E => (E = "java/lang/IndexOutOfBoundsException" ∧ ¬ (p0 = 0)) ∨ (E = "java/lang/IllegalArgumentException" ∧ p0 = 0)) A) 2 12 A := by
  refine fz_ofX (by decide +kernel) (Nat.le_of_ble_eq_true rfl) ?_
  intro p e s m below meth c hx hb hr hml hown hlocks hts ht hA hP hK hD hG hS ls hl
  have hown : s.vm.findClass RX9 = some m.cls := hown
  have S0 : CallFix p m c cX9_remove 3 s [.ref (q 31), .int p0].toArray (fz_ws yX9_remove cX9_remove 3 (some .int)) RX9 := ⟨hx, hb, hml, hown, hts⟩
  have hl : lv_has ls 3 [(0, .ref (q 31)), (1, .int p0)] := hl
  refine lv_aload_n hx hb dX9_remove_0 rfl (lv_at hl 0 rfl) ?_
  refine lv_iload_n hx hb dX9_remove_1 rfl (lv_at hl 1 rfl) ?_
  refine fz_xVv (As := [.int p0]) (rest := []) S0 (c_reqNode l hl0 A D k q f pa v p0 g_v_1 g_f_4_0) (fz_cwV (C := RX9) 1 hts fm_100 fm_101 fm_102 fm_103 fm_6 rfl rfl ⟨by decide, by decide, by decide +kernel⟩ ⟨Nat.le_of_ble_eq_true rfl, Nat.le_of_ble_eq_true rfl⟩) (va_recv hK hP (ci := 13) (q0 := 31) rfl rfl) (fun _ h9 => h9) (fun a9 h9 => hA a9 (Nat.le_trans hS.1 h9)) hG hS hP hK hD rfl hl.1 rfl (Nat.le_of_ble_eq_true rfl) dX9_remove_2 ⟨Nat.le_of_ble_eq_true rfl, Nat.le_of_ble_eq_true rfl⟩ ht hlocks (fun E hE => by obtain ⟨rfl, h9⟩ := hE; exact (Or.inl ⟨rfl, (fq_28 p0 h9)⟩)) ⟨Nat.le_of_ble_eq_true rfl, Nat.le_of_ble_eq_true rfl⟩ (fun u_1 H locs hw hz1 hk1 hP hS => ?_)
  have hP : va_P D vwCl (fz_WC k q f pa v) H := hP
  have hq_1 : p0 = 0 := hw
  obtain rfl : p0 = 0 := (fq_27 p0 hq_1)
  refine lv_iload_n hx hb dX9_remove_5 rfl (lv_at hl 1 rfl) ?_
  refine lv_if_ne (tgt := 19) hx hb dX9_remove_6 (by decide) (fun c_2 => absurd (by decide) c_2) (fun c_2 => ?_)
  exact fz_throw (cls := "java/lang/IllegalArgumentException") (text := "the root stays") (names := fz_EN) (ik := 69) (is := 91) (ic := 73) hx hb hl0 hown hts hG (fz_fit_73) ⟨fm_19, fm_20⟩ (by decide) fz_at_73 fz_ok_73 hS (hl.1.trans hml.symm) dX9_remove_9 dX9_remove_12 dX9_remove_13 dX9_remove_15 dX9_remove_18 ht hlocks ⟨Nat.le_of_ble_eq_true rfl, Nat.le_of_ble_eq_true rfl, Nat.le_of_ble_eq_true rfl, Nat.le_of_ble_eq_true rfl⟩ (Or.inr ⟨rfl, (fq_3 )⟩) ⟨Nat.le_of_ble_eq_true rfl, Nat.le_of_ble_eq_true rfl⟩

set_option maxHeartbeats 4000000 in
set_option maxRecDepth 100000 in
theorem c_move (l : Launch) (hl0 : l.stackTraces = false) (A : Nat → Prop) (D : va_G) (k : Nat → ClassId) (q : Nat → Nat) (f : Nat → Nat → Int32) (pa : Nat → Option Nat) (v : Nat → Int32) (p0 p1 : Int32) (g_v_1 : v 1 = 1) (g_f_4_0 : f 4 0 = 0)  :
    vx_Met l yX9_move (fz_ws yX9_move cX9_move 4 (some .int)) { frames := 24, cells := 3, slots := 18, locals := 320 } (va_Pc [.ref (q 31), .int p0, .int p1] (fz_PC A D (fz_tys k) (fz_WC k q f pa v))) (fz_QI D A (fun (_ : Unit) => ([] : va_W)) (fun (r : Int32) (_ : Unit) => r = 0)) (fz_XC (fun E => (E = "java/lang/IndexOutOfBoundsException" ∧ (¬ (p0 = 0) ∨ ¬ (p1 = 0))) ∨ (E = "java/lang/IllegalArgumentException" ∧ (p0 = 0 ∧ p1 = 0))) A) 3 18 A := by
  refine fz_ofX (by decide +kernel) (Nat.le_of_ble_eq_true rfl) ?_
  intro p e s m below meth c hx hb hr hml hown hlocks hts ht hA hP hK hD hG hS ls hl
  have hown : s.vm.findClass RX9 = some m.cls := hown
  have S0 : CallFix p m c cX9_move 4 s [.ref (q 31), .int p0, .int p1].toArray (fz_ws yX9_move cX9_move 4 (some .int)) RX9 := ⟨hx, hb, hml, hown, hts⟩
  have hl : lv_has ls 4 [(0, .ref (q 31)), (1, .int p0), (2, .int p1)] := hl
  refine lv_aload_n hx hb dX9_move_0 rfl (lv_at hl 0 rfl) ?_
  refine lv_iload_n hx hb dX9_move_1 rfl (lv_at hl 1 rfl) ?_
  refine fz_xVv (As := [.int p0]) (rest := []) S0 (c_reqNode l hl0 A D k q f pa v p0 g_v_1 g_f_4_0) (fz_cwV (C := RX9) 1 hts fm_100 fm_101 fm_102 fm_103 fm_6 rfl rfl ⟨by decide, by decide, by decide +kernel⟩ ⟨Nat.le_of_ble_eq_true rfl, Nat.le_of_ble_eq_true rfl⟩) (va_recv hK hP (ci := 13) (q0 := 31) rfl rfl) (fun _ h9 => h9) (fun a9 h9 => hA a9 (Nat.le_trans hS.1 h9)) hG hS hP hK hD rfl hl.1 rfl (Nat.le_of_ble_eq_true rfl) dX9_move_2 ⟨Nat.le_of_ble_eq_true rfl, Nat.le_of_ble_eq_true rfl⟩ ht hlocks (fun E hE => by obtain ⟨rfl, h9⟩ := hE; exact (Or.inl ⟨rfl, (fq_38 p0 p1 h9)⟩)) ⟨Nat.le_of_ble_eq_true rfl, Nat.le_of_ble_eq_true rfl⟩ (fun u_1 H locs hw hz1 hk1 hP hS => ?_)
  have hP : va_P D vwCl (fz_WC k q f pa v) H := hP
  have hq_1 : p0 = 0 := hw
  obtain rfl : p0 = 0 := (fq_27 p0 hq_1)
  refine lv_aload_n hx hb dX9_move_5 rfl (lv_at hl 0 rfl) ?_
  refine lv_iload_n hx hb dX9_move_6 rfl (lv_at hl 2 rfl) ?_
  refine fz_xVv (As := [.int p1]) (rest := []) S0 (c_reqNode l hl0 A D k q f pa v p1 g_v_1 g_f_4_0) (fz_cwV (C := RX9) 1 hts fm_100 fm_101 fm_102 fm_103 fm_6 rfl rfl ⟨by decide, by decide, by decide +kernel⟩ ⟨Nat.le_of_ble_eq_true rfl, Nat.le_of_ble_eq_true rfl⟩) (va_recv hK hP (ci := 13) (q0 := 31) rfl rfl) (fun _ h9 => h9) (fun a9 h9 => hA a9 (Nat.le_trans hS.1 h9)) hG hS hP hK hD rfl hl.1 rfl (Nat.le_of_ble_eq_true rfl) dX9_move_7 ⟨Nat.le_of_ble_eq_true rfl, Nat.le_of_ble_eq_true rfl⟩ ht hlocks (fun E hE => by obtain ⟨rfl, h9⟩ := hE; exact (Or.inl ⟨rfl, (fq_39 p1 h9)⟩)) ⟨Nat.le_of_ble_eq_true rfl, Nat.le_of_ble_eq_true rfl⟩ (fun u_2 H locs hw hz1 hk1 hP hS => ?_)
  have hP : va_P D vwCl (fz_WC k q f pa v) H := hP
  have hq_2 : p1 = 0 := hw
  obtain rfl : p1 = 0 := (fq_27 p1 hq_2)
  refine lv_aload_n hx hb dX9_move_10 rfl (lv_at hl 0 rfl) ?_
  refine va_get (D := D) (ci := 13) (v := .ref (q 0)) (C := RX9) (T := TX9) (N := 8) hx hb hts (fun w9 h9 => fz_m (fin_X9 w9 h9)) hown hK hP 31 rfl rfl 0 (by decide) (hts _ (fz_m fm_9)) (fun _ h9 => h9) rfl dX9_move_11 ?_
  refine va_get (D := D) (ci := 11) (v := .ref (q 1)) (C := RX7) (T := TX7) (N := 6) hx hb hts (fun w9 h9 => fz_m (fin_X7 w9 h9)) hown hK hP 0 rfl rfl 0 (by decide) (hts _ (fz_m fm_10)) (fun _ h9 => h9) rfl dX9_move_14 ?_
  refine va_get (D := D) (ci := 12) (v := .ref (q 4)) (C := RX8) (T := TX8) (N := 10) hx hb hts (fun w9 h9 => fz_m (fin_X8 w9 h9)) hown hK hP 1 rfl rfl 4 (by decide) (hts _ (fz_m fm_104)) (fun _ h9 => h9) rfl dX9_move_17 ?_
  refine lv_iload_n hx hb dX9_move_20 rfl (lv_at hl 2 rfl) ?_
  refine va_iald hx hb hK hP 4 0 rfl rfl (fz_vin (by decide)) dX9_move_21 ?_
  refine fz_I (y := 0) g_f_4_0 ?_
  refine lv_aload_n hx hb dX9_move_22 rfl (lv_at hl 0 rfl) ?_
  refine va_get (D := D) (ci := 13) (v := .ref (q 0)) (C := RX9) (T := TX9) (N := 8) hx hb hts (fun w9 h9 => fz_m (fin_X9 w9 h9)) hown hK hP 31 rfl rfl 0 (by decide) (hts _ (fz_m fm_9)) (fun _ h9 => h9) rfl dX9_move_23 ?_
  refine va_get (D := D) (ci := 11) (v := .ref (q 1)) (C := RX7) (T := TX7) (N := 6) hx hb hts (fun w9 h9 => fz_m (fin_X7 w9 h9)) hown hK hP 0 rfl rfl 0 (by decide) (hts _ (fz_m fm_10)) (fun _ h9 => h9) rfl dX9_move_26 ?_
  refine va_get (D := D) (ci := 12) (v := .ref (q 4)) (C := RX8) (T := TX8) (N := 10) hx hb hts (fun w9 h9 => fz_m (fin_X8 w9 h9)) hown hK hP 1 rfl rfl 4 (by decide) (hts _ (fz_m fm_104)) (fun _ h9 => h9) rfl dX9_move_29 ?_
  refine lv_iload_n hx hb dX9_move_32 rfl (lv_at hl 1 rfl) ?_
  refine va_iald hx hb hK hP 4 0 rfl rfl (fz_vin (by decide)) dX9_move_33 ?_
  refine fz_I (y := 0) g_f_4_0 ?_
  refine lv_icmp_lt (tgt := 47) hx hb dX9_move_34 (by decide) (fun c_3 => absurd c_3 (by decide)) (fun c_3 => ?_)
  exact fz_throw (cls := "java/lang/IllegalArgumentException") (text := "the node cannot be moved there") (names := fz_EN) (ik := 69) (is := 100) (ic := 73) hx hb hl0 hown hts hG (fz_fit_73) ⟨fm_19, fm_20⟩ (by decide) fz_at_73 fz_ok_73 hS (hl.1.trans hml.symm) dX9_move_37 dX9_move_40 dX9_move_41 dX9_move_43 dX9_move_46 ht hlocks ⟨Nat.le_of_ble_eq_true rfl, Nat.le_of_ble_eq_true rfl, Nat.le_of_ble_eq_true rfl, Nat.le_of_ble_eq_true rfl⟩ (Or.inr ⟨rfl, (fq_40 )⟩) ⟨Nat.le_of_ble_eq_true rfl, Nat.le_of_ble_eq_true rfl⟩

set_option maxHeartbeats 4000000 in
set_option maxRecDepth 100000 in
theorem c_node (l : Launch) (hl0 : l.stackTraces = false) (A : Nat → Prop) (D : va_G) (k : Nat → ClassId) (q : Nat → Nat) (f : Nat → Nat → Int32) (pa : Nat → Option Nat) (v : Nat → Int32) (p0 p1 : Int32) (g_v_1 : v 1 = 1) (g_f_4_0 : f 4 0 = 0) (g_f_5_0 : f 5 0 = (-1)) (g_f_7_0 : f 7 0 = 0) (g_f_8_0 : f 8 0 = (-1)) (g_f_9_0 : f 9 0 = (-1)) (g_v_2 : v 2 = 1) (g_f_6_0 : f 6 0 = 0) (g_f_2_0 : f 2 0 = 0) (g_f_18_0 : f 18 0 = (-1)) (g_f_19_0 : f 19 0 = (-1)) (g_v_7 : v 7 = 0)  :
    vx_Met l yX9_node (fz_ws yX9_node cX9_node 4 (some .int)) { frames := 24, cells := 2, slots := 12, locals := 320 } (va_Pc [.ref (q 31), .int p0, .int p1] (fz_PC A D (fz_tys k) (fz_WC k q f pa v))) (fz_QI D A (fun (_ : Unit) => ([] : va_W)) (fun (r : Int32) (_ : Unit) => (r = 0 ∧ (p0 = 0 ∧ p1 = 0)) ∨ (r = (-1) ∧ (p0 = 0 ∧ p1 = 1)) ∨ (r = 0 ∧ (p0 = 0 ∧ p1 = 2)) ∨ (r = (-1) ∧ (p0 = 0 ∧ (3 ≤ p1 ∧ p1 ≤ 5))) ∨ (r = 0 ∧ (p0 = 0 ∧ (6 ≤ p1 ∧ p1 ≤ 8))) ∨ (r = (-1) ∧ (p0 = 0 ∧ (9 ≤ p1 ∧ p1 ≤ 10))) ∨ (r = 0 ∧ (p0 = 0 ∧ p1 = 11)))) (fz_XC (fun E => (E = "java/lang/IndexOutOfBoundsException" ∧ ¬ (p0 = 0)) ∨ (E = "java/lang/IllegalArgumentException" ∧ (p0 = 0 ∧ ¬ ((0 ≤ p1 ∧ p1 ≤ 11))))) A) 2 12 A := by
  refine fz_ofX (by decide +kernel) (Nat.le_of_ble_eq_true rfl) ?_
  intro p e s m below meth c hx hb hr hml hown hlocks hts ht hA hP hK hD hG hS ls hl
  have hown : s.vm.findClass RX9 = some m.cls := hown
  have S0 : CallFix p m c cX9_node 4 s [.ref (q 31), .int p0, .int p1].toArray (fz_ws yX9_node cX9_node 4 (some .int)) RX9 := ⟨hx, hb, hml, hown, hts⟩
  have hl : lv_has ls 4 [(0, .ref (q 31)), (1, .int p0), (2, .int p1)] := hl
  refine lv_aload_n hx hb dX9_node_0 rfl (lv_at hl 0 rfl) ?_
  refine lv_iload_n hx hb dX9_node_1 rfl (lv_at hl 1 rfl) ?_
  refine fz_xVv (As := [.int p0]) (rest := []) S0 (c_reqNode l hl0 A D k q f pa v p0 g_v_1 g_f_4_0) (fz_cwV (C := RX9) 1 hts fm_100 fm_101 fm_102 fm_103 fm_6 rfl rfl ⟨by decide, by decide, by decide +kernel⟩ ⟨Nat.le_of_ble_eq_true rfl, Nat.le_of_ble_eq_true rfl⟩) (va_recv hK hP (ci := 13) (q0 := 31) rfl rfl) (fun _ h9 => h9) (fun a9 h9 => hA a9 (Nat.le_trans hS.1 h9)) hG hS hP hK hD rfl hl.1 rfl (Nat.le_of_ble_eq_true rfl) dX9_node_2 ⟨Nat.le_of_ble_eq_true rfl, Nat.le_of_ble_eq_true rfl⟩ ht hlocks (fun E hE => by obtain ⟨rfl, h9⟩ := hE; exact (Or.inl ⟨rfl, (fq_28 p0 h9)⟩)) ⟨Nat.le_of_ble_eq_true rfl, Nat.le_of_ble_eq_true rfl⟩ (fun u_1 H locs hw hz1 hk1 hP hS => ?_)
  have hP : va_P D vwCl (fz_WC k q f pa v) H := hP
  have hq_1 : p0 = 0 := hw
  obtain rfl : p0 = 0 := (fq_27 p0 hq_1)
  refine lv_iload_n hx hb dX9_node_5 rfl (lv_at hl 2 rfl) ?_
  refine lv_bipush (v := 11) hx hb dX9_node_6 (by decide) ?_
  refine fz_xSv (As := [.int p1, .int 11]) (rest := []) S0 (c_reqPart l hl0 A D k q f pa v p1 11) (fz_cwS 2 hts fm_105 fm_106 fm_107 fm_6 rfl rfl ⟨by decide, by decide, by decide +kernel⟩ ⟨Nat.le_of_ble_eq_true rfl, Nat.le_of_ble_eq_true rfl⟩) (fun _ h9 => h9) (fun a9 h9 => hA a9 (Nat.le_trans hS.1 h9)) hG hS hP hK hD rfl hl.1 rfl (Nat.le_of_ble_eq_true rfl) dX9_node_8 ⟨Nat.le_of_ble_eq_true rfl, Nat.le_of_ble_eq_true rfl⟩ ht hlocks (fun E hE => by obtain ⟨rfl, h9⟩ := hE; exact (Or.inr ⟨rfl, (fq_41 p1 h9)⟩)) ⟨Nat.le_of_ble_eq_true rfl, Nat.le_of_ble_eq_true rfl⟩ (fun u_2 H locs hw hz1 hk1 hP hS => ?_)
  have hP : va_P D vwCl (fz_WC k q f pa v) H := hP
  have hq_2 : (0 ≤ p1 ∧ p1 ≤ 11) := hw
  refine lv_aload_n hx hb dX9_node_11 rfl (lv_at hl 0 rfl) ?_
  refine va_get (D := D) (ci := 13) (v := .ref (q 0)) (C := RX9) (T := TX9) (N := 8) hx hb hts (fun w9 h9 => fz_m (fin_X9 w9 h9)) hown hK hP 31 rfl rfl 0 (by decide) (hts _ (fz_m fm_9)) (fun _ h9 => h9) rfl dX9_node_12 ?_
  refine va_get (D := D) (ci := 11) (v := .ref (q 1)) (C := RX7) (T := TX7) (N := 6) hx hb hts (fun w9 h9 => fz_m (fin_X7 w9 h9)) hown hK hP 0 rfl rfl 0 (by decide) (hts _ (fz_m fm_10)) (fun _ h9 => h9) rfl dX9_node_15 ?_
  refine lv_astore_n (lv' := [(3, .ref (q 1)), (0, .ref (q 31)), (1, .int 0), (2, .int p1)]) hx hb dX9_node_18 rfl hl (by decide) rfl (fun ls hl => ?_)
  refine lv_iload_n hx hb dX9_node_19 rfl (lv_at hl 3 rfl) ?_
  by_cases c_3_0 : p1 = 0
  · subst c_3_0
    refine lv_tableIn (off := 60) (tgt := 80) hx hb dX9_node_20 (by decide) (by decide) rfl (by decide) ?_
    refine lv_aload_n hx hb dX9_node_80 rfl (lv_at hl 0 rfl) ?_
    refine va_get (D := D) (ci := 12) (v := .ref (q 4)) (C := RX8) (T := TX8) (N := 10) hx hb hts (fun w9 h9 => fz_m (fin_X8 w9 h9)) hown hK hP 1 rfl rfl 4 (by decide) (hts _ (fz_m fm_104)) (fun _ h9 => h9) rfl dX9_node_81 ?_
    refine lv_iload_n hx hb dX9_node_84 rfl (lv_at hl 2 rfl) ?_
    refine va_iald hx hb hK hP 4 0 rfl rfl (fz_vin (by decide)) dX9_node_85 ?_
    refine fz_I (y := 0) g_f_4_0 ?_
    have hP : va_P D vwCl [] H := fz_nil
    exact vx_ret (fz_iret hx hb hr rfl hlocks hS dX9_node_86 () (Or.inl ⟨rfl, (fq_40 )⟩) hP (Nat.le_of_ble_eq_true rfl) (Nat.le_of_ble_eq_true rfl))
  by_cases c_3_1 : p1 = 1
  · subst c_3_1
    refine lv_tableIn (off := 67) (tgt := 87) hx hb dX9_node_20 (by decide) (by decide) rfl (by decide) ?_
    refine lv_aload_n hx hb dX9_node_87 rfl (lv_at hl 0 rfl) ?_
    refine va_get (D := D) (ci := 12) (v := .ref (q 5)) (C := RX8) (T := TX8) (N := 10) hx hb hts (fun w9 h9 => fz_m (fin_X8 w9 h9)) hown hK hP 1 rfl rfl 5 (by decide) (hts _ (fz_m fm_108)) (fun _ h9 => h9) rfl dX9_node_88 ?_
    refine lv_iload_n hx hb dX9_node_91 rfl (lv_at hl 2 rfl) ?_
    refine va_iald hx hb hK hP 5 0 rfl rfl (fz_vin (by decide)) dX9_node_92 ?_
    refine fz_I (y := (-1)) g_f_5_0 ?_
    have hP : va_P D vwCl [] H := fz_nil
    exact vx_ret (fz_iret hx hb hr rfl hlocks hS dX9_node_93 () (Or.inr (Or.inl ⟨rfl, (fq_42 )⟩)) hP (Nat.le_of_ble_eq_true rfl) (Nat.le_of_ble_eq_true rfl))
  by_cases c_3_2 : p1 = 2
  · subst c_3_2
    refine lv_tableIn (off := 74) (tgt := 94) hx hb dX9_node_20 (by decide) (by decide) rfl (by decide) ?_
    refine lv_aload_n hx hb dX9_node_94 rfl (lv_at hl 0 rfl) ?_
    refine va_get (D := D) (ci := 12) (v := .ref (q 7)) (C := RX8) (T := TX8) (N := 10) hx hb hts (fun w9 h9 => fz_m (fin_X8 w9 h9)) hown hK hP 1 rfl rfl 7 (by decide) (hts _ (fz_m fm_18)) (fun _ h9 => h9) rfl dX9_node_95 ?_
    refine lv_iload_n hx hb dX9_node_98 rfl (lv_at hl 2 rfl) ?_
    refine va_iald hx hb hK hP 7 0 rfl rfl (fz_vin (by decide)) dX9_node_99 ?_
    refine fz_I (y := 0) g_f_7_0 ?_
    have hP : va_P D vwCl [] H := fz_nil
    exact vx_ret (fz_iret hx hb hr rfl hlocks hS dX9_node_100 () (Or.inr (Or.inr (Or.inl ⟨rfl, (fq_43 )⟩))) hP (Nat.le_of_ble_eq_true rfl) (Nat.le_of_ble_eq_true rfl))
  by_cases c_3_3 : p1 = 3
  · subst c_3_3
    refine lv_tableIn (off := 81) (tgt := 101) hx hb dX9_node_20 (by decide) (by decide) rfl (by decide) ?_
    refine lv_aload_n hx hb dX9_node_101 rfl (lv_at hl 0 rfl) ?_
    refine va_get (D := D) (ci := 12) (v := .ref (q 8)) (C := RX8) (T := TX8) (N := 10) hx hb hts (fun w9 h9 => fz_m (fin_X8 w9 h9)) hown hK hP 1 rfl rfl 8 (by decide) (hts _ (fz_m fm_109)) (fun _ h9 => h9) rfl dX9_node_102 ?_
    refine lv_iload_n hx hb dX9_node_105 rfl (lv_at hl 2 rfl) ?_
    refine va_iald hx hb hK hP 8 0 rfl rfl (fz_vin (by decide)) dX9_node_106 ?_
    refine fz_I (y := (-1)) g_f_8_0 ?_
    have hP : va_P D vwCl [] H := fz_nil
    exact vx_ret (fz_iret hx hb hr rfl hlocks hS dX9_node_107 () (Or.inr (Or.inr (Or.inr (Or.inl ⟨rfl, (fq_44 )⟩)))) hP (Nat.le_of_ble_eq_true rfl) (Nat.le_of_ble_eq_true rfl))
  by_cases c_3_4 : p1 = 4
  · subst c_3_4
    refine lv_tableIn (off := 88) (tgt := 108) hx hb dX9_node_20 (by decide) (by decide) rfl (by decide) ?_
    refine lv_aload_n hx hb dX9_node_108 rfl (lv_at hl 0 rfl) ?_
    refine va_get (D := D) (ci := 12) (v := .ref (q 9)) (C := RX8) (T := TX8) (N := 10) hx hb hts (fun w9 h9 => fz_m (fin_X8 w9 h9)) hown hK hP 1 rfl rfl 9 (by decide) (hts _ (fz_m fm_110)) (fun _ h9 => h9) rfl dX9_node_109 ?_
    refine lv_iload_n hx hb dX9_node_112 rfl (lv_at hl 2 rfl) ?_
    refine va_iald hx hb hK hP 9 0 rfl rfl (fz_vin (by decide)) dX9_node_113 ?_
    refine fz_I (y := (-1)) g_f_9_0 ?_
    have hP : va_P D vwCl [] H := fz_nil
    exact vx_ret (fz_iret hx hb hr rfl hlocks hS dX9_node_114 () (Or.inr (Or.inr (Or.inr (Or.inl ⟨rfl, (fq_45 )⟩)))) hP (Nat.le_of_ble_eq_true rfl) (Nat.le_of_ble_eq_true rfl))
  by_cases c_3_5 : p1 = 5
  · subst c_3_5
    refine lv_tableIn (off := 95) (tgt := 115) hx hb dX9_node_20 (by decide) (by decide) rfl (by decide) ?_
    refine lv_aload_n hx hb dX9_node_115 rfl (lv_at hl 0 rfl) ?_
    refine lv_iload_n hx hb dX9_node_116 rfl (lv_at hl 2 rfl) ?_
    refine fz_cVi (As := [.int 0]) (rest := []) S0 (c_latestDay l A D k q f pa v g_v_2 g_f_6_0 g_f_2_0 g_f_9_0) (fz_cwV (C := RX8) 1 hts fm_59 fm_111 fm_61 fm_62 fm_15 rfl rfl ⟨by decide, by decide, by decide +kernel⟩ ⟨Nat.le_of_ble_eq_true rfl, Nat.le_of_ble_eq_true rfl⟩) (va_recv hK hP (ci := 12) (q0 := 1) rfl rfl) (fun _ h9 => h9) (fun a9 h9 => hA a9 (Nat.le_trans hS.1 h9)) hG hS hP hK hD rfl hl.1 rfl (Nat.le_of_ble_eq_true rfl) dX9_node_117 ⟨Nat.le_of_ble_eq_true rfl, Nat.le_of_ble_eq_true rfl⟩ (fun r_4 u_4 H locs hw hz1 hk1 hP hS => ?_)
    have hP : va_P D vwCl (fz_WC k q f pa v) H := hP
    obtain rfl : r_4 = (-1) := hw
    have hP : va_P D vwCl [] H := fz_nil
    exact vx_ret (fz_iret hx hb hr rfl hlocks hS dX9_node_120 () (Or.inr (Or.inr (Or.inr (Or.inl ⟨rfl, (fq_46 )⟩)))) hP (Nat.le_of_ble_eq_true rfl) (Nat.le_of_ble_eq_true rfl))
  by_cases c_3_6 : p1 = 6
  · subst c_3_6
    refine lv_tableIn (off := 101) (tgt := 121) hx hb dX9_node_20 (by decide) (by decide) rfl (by decide) ?_
    refine lv_aload_n hx hb dX9_node_121 rfl (lv_at hl 0 rfl) ?_
    refine lv_iload_n hx hb dX9_node_122 rfl (lv_at hl 2 rfl) ?_
    refine fz_cVi (As := [.int 0]) (rest := []) S0 (c_countChildren l A D k q f pa v g_v_2 g_f_2_0 g_f_5_0) (fz_cwV (C := RX8) 1 hts fm_112 fm_113 fm_114 fm_115 fm_15 rfl rfl ⟨by decide, by decide, by decide +kernel⟩ ⟨Nat.le_of_ble_eq_true rfl, Nat.le_of_ble_eq_true rfl⟩) (va_recv hK hP (ci := 12) (q0 := 1) rfl rfl) (fun _ h9 => h9) (fun a9 h9 => hA a9 (Nat.le_trans hS.1 h9)) hG hS hP hK hD rfl hl.1 rfl (Nat.le_of_ble_eq_true rfl) dX9_node_123 ⟨Nat.le_of_ble_eq_true rfl, Nat.le_of_ble_eq_true rfl⟩ (fun r_5 u_5 H locs hw hz1 hk1 hP hS => ?_)
    have hP : va_P D vwCl (fz_WC k q f pa v) H := hP
    obtain rfl : r_5 = 0 := hw
    have hP : va_P D vwCl [] H := fz_nil
    exact vx_ret (fz_iret hx hb hr rfl hlocks hS dX9_node_126 () (Or.inr (Or.inr (Or.inr (Or.inr (Or.inl ⟨rfl, (fq_47 )⟩))))) hP (Nat.le_of_ble_eq_true rfl) (Nat.le_of_ble_eq_true rfl))
  by_cases c_3_7 : p1 = 7
  · subst c_3_7
    refine lv_tableIn (off := 107) (tgt := 127) hx hb dX9_node_20 (by decide) (by decide) rfl (by decide) ?_
    refine lv_aload_n hx hb dX9_node_127 rfl (lv_at hl 0 rfl) ?_
    refine va_get (D := D) (ci := 12) (v := .ref (q 6)) (C := RX8) (T := TX8) (N := 10) hx hb hts (fun w9 h9 => fz_m (fin_X8 w9 h9)) hown hK hP 1 rfl rfl 6 (by decide) (hts _ (fz_m fm_116)) (fun _ h9 => h9) rfl dX9_node_128 ?_
    refine lv_iload_n hx hb dX9_node_131 rfl (lv_at hl 2 rfl) ?_
    refine va_iald hx hb hK hP 6 0 rfl rfl (fz_vin (by decide)) dX9_node_132 ?_
    refine fz_I (y := 0) g_f_6_0 ?_
    have hP : va_P D vwCl [] H := fz_nil
    exact vx_ret (fz_iret hx hb hr rfl hlocks hS dX9_node_133 () (Or.inr (Or.inr (Or.inr (Or.inr (Or.inl ⟨rfl, (fq_48 )⟩))))) hP (Nat.le_of_ble_eq_true rfl) (Nat.le_of_ble_eq_true rfl))
  by_cases c_3_8 : p1 = 8
  · subst c_3_8
    refine lv_tableIn (off := 114) (tgt := 134) hx hb dX9_node_20 (by decide) (by decide) rfl (by decide) ?_
    refine lv_aload_n hx hb dX9_node_134 rfl (lv_at hl 0 rfl) ?_
    refine lv_iload_n hx hb dX9_node_135 rfl (lv_at hl 2 rfl) ?_
    refine fz_cVi (As := [.int 0]) (rest := []) S0 (c_countPages l A D k q f pa v g_v_2 g_f_6_0 g_f_2_0 g_f_7_0) (fz_cwV (C := RX8) 1 hts fm_117 fm_118 fm_119 fm_120 fm_15 rfl rfl ⟨by decide, by decide, by decide +kernel⟩ ⟨Nat.le_of_ble_eq_true rfl, Nat.le_of_ble_eq_true rfl⟩) (va_recv hK hP (ci := 12) (q0 := 1) rfl rfl) (fun _ h9 => h9) (fun a9 h9 => hA a9 (Nat.le_trans hS.1 h9)) hG hS hP hK hD rfl hl.1 rfl (Nat.le_of_ble_eq_true rfl) dX9_node_136 ⟨Nat.le_of_ble_eq_true rfl, Nat.le_of_ble_eq_true rfl⟩ (fun r_6 u_6 H locs hw hz1 hk1 hP hS => ?_)
    have hP : va_P D vwCl (fz_WC k q f pa v) H := hP
    obtain rfl : r_6 = 0 := hw
    have hP : va_P D vwCl [] H := fz_nil
    exact vx_ret (fz_iret hx hb hr rfl hlocks hS dX9_node_139 () (Or.inr (Or.inr (Or.inr (Or.inr (Or.inl ⟨rfl, (fq_49 )⟩))))) hP (Nat.le_of_ble_eq_true rfl) (Nat.le_of_ble_eq_true rfl))
  by_cases c_3_9 : p1 = 9
  · subst c_3_9
    refine lv_tableIn (off := 120) (tgt := 140) hx hb dX9_node_20 (by decide) (by decide) rfl (by decide) ?_
    refine lv_aload_n hx hb dX9_node_140 rfl (lv_at hl 1 rfl) ?_
    refine va_get (D := D) (ci := 13) (v := .ref (q 0)) (C := RX9) (T := TX9) (N := 8) hx hb hts (fun w9 h9 => fz_m (fin_X9 w9 h9)) hown hK hP 31 rfl rfl 0 (by decide) (hts _ (fz_m fm_9)) (fun _ h9 => h9) rfl dX9_node_141 ?_
    refine va_get (D := D) (ci := 11) (v := .ref (q 14)) (C := RX7) (T := TX7) (N := 6) hx hb hts (fun w9 h9 => fz_m (fin_X7 w9 h9)) hown hK hP 0 rfl rfl 2 (by decide) (hts _ (fz_m fm_21)) (fun _ h9 => h9) rfl dX9_node_144 ?_
    refine va_get (D := D) (ci := 4) (v := .ref (q 18)) (C := RX0) (T := TX0) (N := 9) hx hb hts (fun w9 h9 => fz_m (fin_X0 w9 h9)) hown hK hP 14 rfl rfl 6 (by decide) (hts _ (fz_m fm_121)) (fun _ h9 => h9) rfl dX9_node_147 ?_
    refine lv_iload_n hx hb dX9_node_150 rfl (lv_at hl 2 rfl) ?_
    refine va_iald hx hb hK hP 18 0 rfl rfl (fz_vin (by decide)) dX9_node_151 ?_
    refine fz_I (y := (-1)) g_f_18_0 ?_
    have hP : va_P D vwCl [] H := fz_nil
    exact vx_ret (fz_iret hx hb hr rfl hlocks hS dX9_node_152 () (Or.inr (Or.inr (Or.inr (Or.inr (Or.inr (Or.inl ⟨rfl, (fq_50 )⟩)))))) hP (Nat.le_of_ble_eq_true rfl) (Nat.le_of_ble_eq_true rfl))
  by_cases c_3_10 : p1 = 10
  · subst c_3_10
    refine lv_tableIn (off := 133) (tgt := 153) hx hb dX9_node_20 (by decide) (by decide) rfl (by decide) ?_
    refine lv_aload_n hx hb dX9_node_153 rfl (lv_at hl 1 rfl) ?_
    refine va_get (D := D) (ci := 13) (v := .ref (q 0)) (C := RX9) (T := TX9) (N := 8) hx hb hts (fun w9 h9 => fz_m (fin_X9 w9 h9)) hown hK hP 31 rfl rfl 0 (by decide) (hts _ (fz_m fm_9)) (fun _ h9 => h9) rfl dX9_node_154 ?_
    refine va_get (D := D) (ci := 11) (v := .ref (q 14)) (C := RX7) (T := TX7) (N := 6) hx hb hts (fun w9 h9 => fz_m (fin_X7 w9 h9)) hown hK hP 0 rfl rfl 2 (by decide) (hts _ (fz_m fm_21)) (fun _ h9 => h9) rfl dX9_node_157 ?_
    refine va_get (D := D) (ci := 4) (v := .ref (q 19)) (C := RX0) (T := TX0) (N := 9) hx hb hts (fun w9 h9 => fz_m (fin_X0 w9 h9)) hown hK hP 14 rfl rfl 7 (by decide) (hts _ (fz_m fm_122)) (fun _ h9 => h9) rfl dX9_node_160 ?_
    refine lv_iload_n hx hb dX9_node_163 rfl (lv_at hl 2 rfl) ?_
    refine va_iald hx hb hK hP 19 0 rfl rfl (fz_vin (by decide)) dX9_node_164 ?_
    refine fz_I (y := (-1)) g_f_19_0 ?_
    have hP : va_P D vwCl [] H := fz_nil
    exact vx_ret (fz_iret hx hb hr rfl hlocks hS dX9_node_165 () (Or.inr (Or.inr (Or.inr (Or.inr (Or.inr (Or.inl ⟨rfl, (fq_51 )⟩)))))) hP (Nat.le_of_ble_eq_true rfl) (Nat.le_of_ble_eq_true rfl))
  obtain rfl : p1 = 11 := (fq_52 p1 hq_2 c_3_0 c_3_1 c_3_2 c_3_3 c_3_4 c_3_5 c_3_6 c_3_7 c_3_8 c_3_9 c_3_10)
  refine lv_tableOut (tgt := 166) hx hb dX9_node_20 (by decide) (by decide) ?_
  refine lv_aload_n hx hb dX9_node_166 rfl (lv_at hl 1 rfl) ?_
  refine va_get (D := D) (ci := 13) (v := .ref (q 0)) (C := RX9) (T := TX9) (N := 8) hx hb hts (fun w9 h9 => fz_m (fin_X9 w9 h9)) hown hK hP 31 rfl rfl 0 (by decide) (hts _ (fz_m fm_9)) (fun _ h9 => h9) rfl dX9_node_167 ?_
  refine va_get (D := D) (ci := 11) (v := .ref (q 23)) (C := RX7) (T := TX7) (N := 6) hx hb hts (fun w9 h9 => fz_m (fin_X7 w9 h9)) hown hK hP 0 rfl rfl 3 (by decide) (hts _ (fz_m fm_27)) (fun _ h9 => h9) rfl dX9_node_170 ?_
  refine lv_iload_n hx hb dX9_node_173 rfl (lv_at hl 2 rfl) ?_
  refine fz_cVi (As := [.int 0]) (rest := []) S0 (c_countOf l A D k q f pa v 0 g_v_7) (fz_cwV (C := RX1) 1 hts fm_69 fm_123 fm_71 fm_72 fm_32 rfl rfl ⟨by decide, by decide, by decide +kernel⟩ ⟨Nat.le_of_ble_eq_true rfl, Nat.le_of_ble_eq_true rfl⟩) (va_recv hK hP (ci := 5) (q0 := 23) rfl rfl) (fun _ h9 => h9) (fun a9 h9 => hA a9 (Nat.le_trans hS.1 h9)) hG hS hP hK hD rfl hl.1 rfl (Nat.le_of_ble_eq_true rfl) dX9_node_174 ⟨Nat.le_of_ble_eq_true rfl, Nat.le_of_ble_eq_true rfl⟩ (fun r_7 u_7 H locs hw hz1 hk1 hP hS => ?_)
  have hP : va_P D vwCl (fz_WC k q f pa v) H := hP
  obtain rfl : r_7 = 0 := hw
  have hP : va_P D vwCl [] H := fz_nil
  exact vx_ret (fz_iret hx hb hr rfl hlocks hS dX9_node_177 () (Or.inr (Or.inr (Or.inr (Or.inr (Or.inr (Or.inr ⟨rfl, (fq_53 )⟩)))))) hP (Nat.le_of_ble_eq_true rfl) (Nat.le_of_ble_eq_true rfl))

set_option maxHeartbeats 4000000 in
set_option maxRecDepth 100000 in
theorem c_child (l : Launch) (hl0 : l.stackTraces = false) (A : Nat → Prop) (D : va_G) (k : Nat → ClassId) (q : Nat → Nat) (f : Nat → Nat → Int32) (pa : Nat → Option Nat) (v : Nat → Int32) (p0 p1 : Int32) (g_v_1 : v 1 = 1) (g_f_4_0 : f 4 0 = 0) (g_v_2 : v 2 = 1) (g_f_2_0 : f 2 0 = 0) (g_f_5_0 : f 5 0 = (-1))  :
    vx_Met l yX9_child (fz_ws yX9_child cX9_child 4 (some .int)) { frames := 24, cells := 2, slots := 12, locals := 320 } (va_Pc [.ref (q 31), .int p0, .int p1] (fz_PC A D (fz_tys k) (fz_WC k q f pa v))) (fz_QI D A (fun (_ : Unit) => ([] : va_W)) (fun (r : Int32) (_ : Unit) => r = 0)) (fz_XC (fun E => (E = "java/lang/IndexOutOfBoundsException" ∧ True)) A) 2 12 A := by
  refine fz_ofX (by decide +kernel) (Nat.le_of_ble_eq_true rfl) ?_
  intro p e s m below meth c hx hb hr hml hown hlocks hts ht hA hP hK hD hG hS ls hl
  have hown : s.vm.findClass RX9 = some m.cls := hown
  have S0 : CallFix p m c cX9_child 4 s [.ref (q 31), .int p0, .int p1].toArray (fz_ws yX9_child cX9_child 4 (some .int)) RX9 := ⟨hx, hb, hml, hown, hts⟩
  have hl : lv_has ls 4 [(0, .ref (q 31)), (1, .int p0), (2, .int p1)] := hl
  refine lv_aload_n hx hb dX9_child_0 rfl (lv_at hl 0 rfl) ?_
  refine lv_iload_n hx hb dX9_child_1 rfl (lv_at hl 1 rfl) ?_
  refine fz_xVv (As := [.int p0]) (rest := []) S0 (c_reqNode l hl0 A D k q f pa v p0 g_v_1 g_f_4_0) (fz_cwV (C := RX9) 1 hts fm_100 fm_101 fm_102 fm_103 fm_6 rfl rfl ⟨by decide, by decide, by decide +kernel⟩ ⟨Nat.le_of_ble_eq_true rfl, Nat.le_of_ble_eq_true rfl⟩) (va_recv hK hP (ci := 13) (q0 := 31) rfl rfl) (fun _ h9 => h9) (fun a9 h9 => hA a9 (Nat.le_trans hS.1 h9)) hG hS hP hK hD rfl hl.1 rfl (Nat.le_of_ble_eq_true rfl) dX9_child_2 ⟨Nat.le_of_ble_eq_true rfl, Nat.le_of_ble_eq_true rfl⟩ ht hlocks (fun E hE => by obtain ⟨rfl, h9⟩ := hE; exact ⟨rfl, trivial⟩) ⟨Nat.le_of_ble_eq_true rfl, Nat.le_of_ble_eq_true rfl⟩ (fun u_1 H locs hw hz1 hk1 hP hS => ?_)
  have hP : va_P D vwCl (fz_WC k q f pa v) H := hP
  have hq_1 : p0 = 0 := hw
  obtain rfl : p0 = 0 := (fq_27 p0 hq_1)
  refine lv_aload_n hx hb dX9_child_5 rfl (lv_at hl 0 rfl) ?_
  refine va_get (D := D) (ci := 13) (v := .ref (q 0)) (C := RX9) (T := TX9) (N := 8) hx hb hts (fun w9 h9 => fz_m (fin_X9 w9 h9)) hown hK hP 31 rfl rfl 0 (by decide) (hts _ (fz_m fm_9)) (fun _ h9 => h9) rfl dX9_child_6 ?_
  refine va_get (D := D) (ci := 11) (v := .ref (q 1)) (C := RX7) (T := TX7) (N := 6) hx hb hts (fun w9 h9 => fz_m (fin_X7 w9 h9)) hown hK hP 0 rfl rfl 0 (by decide) (hts _ (fz_m fm_10)) (fun _ h9 => h9) rfl dX9_child_9 ?_
  refine lv_iload_n hx hb dX9_child_12 rfl (lv_at hl 1 rfl) ?_
  refine lv_iload_n hx hb dX9_child_13 rfl (lv_at hl 2 rfl) ?_
  refine fz_cVi (As := [.int 0, .int p1]) (rest := []) S0 (c_findChild l A D k q f pa v p1 g_v_2 g_f_2_0 g_f_5_0) (fz_cwV (C := RX8) 2 hts fm_124 fm_125 fm_126 fm_127 fm_15 rfl rfl ⟨by decide, by decide, by decide +kernel⟩ ⟨Nat.le_of_ble_eq_true rfl, Nat.le_of_ble_eq_true rfl⟩) (va_recv hK hP (ci := 12) (q0 := 1) rfl rfl) (fun _ h9 => h9) (fun a9 h9 => hA a9 (Nat.le_trans hS.1 h9)) hG hS hP hK hD rfl hl.1 rfl (Nat.le_of_ble_eq_true rfl) dX9_child_14 ⟨Nat.le_of_ble_eq_true rfl, Nat.le_of_ble_eq_true rfl⟩ (fun r_2 u_2 H locs hw hz1 hk1 hP hS => ?_)
  have hP : va_P D vwCl (fz_WC k q f pa v) H := hP
  obtain rfl : r_2 = (-1) := hw
  refine lv_istore_n (lv' := [(3, .int (-1)), (0, .ref (q 31)), (1, .int 0), (2, .int p1)]) hx hb dX9_child_17 rfl hl (by decide) rfl (fun ls hl => ?_)
  refine lv_iload_n hx hb dX9_child_18 rfl (lv_at hl 0 rfl) ?_
  refine lv_iconst (v := (-1)) hx hb dX9_child_19 (by decide) ?_
  refine lv_icmp_ne (tgt := 33) hx hb dX9_child_20 (by decide) (fun c_3 => absurd (by decide) c_3) (fun c_3 => ?_)
  exact fz_throw (cls := "java/lang/IndexOutOfBoundsException") (text := "no such child") (names := fz_EN) (ik := 161) (is := 163) (ic := 165) hx hb hl0 hown hts hG (fz_fit_165) ⟨fm_16, fm_17⟩ (by decide) fz_at_165 fz_ok_165 hS (hl.1.trans hml.symm) dX9_child_23 dX9_child_26 dX9_child_27 dX9_child_29 dX9_child_32 ht hlocks ⟨Nat.le_of_ble_eq_true rfl, Nat.le_of_ble_eq_true rfl, Nat.le_of_ble_eq_true rfl, Nat.le_of_ble_eq_true rfl⟩ ⟨rfl, trivial⟩ ⟨Nat.le_of_ble_eq_true rfl, Nat.le_of_ble_eq_true rfl⟩

set_option maxHeartbeats 4000000 in
set_option maxRecDepth 100000 in
theorem c_restriction (l : Launch) (hl0 : l.stackTraces = false) (A : Nat → Prop) (D : va_G) (k : Nat → ClassId) (q : Nat → Nat) (f : Nat → Nat → Int32) (pa : Nat → Option Nat) (v : Nat → Int32) (p0 p1 : Int32) (g_v_1 : v 1 = 1) (g_f_4_0 : f 4 0 = 0) (g_f_11_0 : f 11 0 = (-1)) (g_f_5_0 : f 5 0 = (-1)) (g_v_2 : v 2 = 1) (g_f_6_0 : f 6 0 = 0) (g_f_2_0 : f 2 0 = 0) (g_f_9_0 : f 9 0 = (-1))  :
    vx_Met l yX9_restriction (fz_ws yX9_restriction cX9_restriction 3 (some .int)) { frames := 36, cells := 2, slots := 12, locals := 480 } (va_Pc [.ref (q 31), .int p0, .int p1] (fz_PC A D (fz_tys k) (fz_WC k q f pa v))) (fz_QI D A (fun (_ : Unit) => ([] : va_W)) (fun (r : Int32) (_ : Unit) => (r = 0 ∧ (p0 = 0 ∧ p1 = 0)) ∨ (r = (-1) ∧ (p0 = 0 ∧ (1 ≤ p1 ∧ p1 ≤ 2))))) (fz_XC (fun E => (E = "java/lang/IndexOutOfBoundsException" ∧ ¬ (p0 = 0)) ∨ (E = "java/lang/IllegalArgumentException" ∧ (p0 = 0 ∧ ¬ ((0 ≤ p1 ∧ p1 ≤ 2))))) A) 2 12 A := by
  refine fz_ofX (by decide +kernel) (Nat.le_of_ble_eq_true rfl) ?_
  intro p e s m below meth c hx hb hr hml hown hlocks hts ht hA hP hK hD hG hS ls hl
  have hown : s.vm.findClass RX9 = some m.cls := hown
  have S0 : CallFix p m c cX9_restriction 3 s [.ref (q 31), .int p0, .int p1].toArray (fz_ws yX9_restriction cX9_restriction 3 (some .int)) RX9 := ⟨hx, hb, hml, hown, hts⟩
  have hl : lv_has ls 3 [(0, .ref (q 31)), (1, .int p0), (2, .int p1)] := hl
  refine lv_aload_n hx hb dX9_restriction_0 rfl (lv_at hl 0 rfl) ?_
  refine lv_iload_n hx hb dX9_restriction_1 rfl (lv_at hl 1 rfl) ?_
  refine fz_xVv (As := [.int p0]) (rest := []) S0 (c_reqNode l hl0 A D k q f pa v p0 g_v_1 g_f_4_0) (fz_cwV (C := RX9) 1 hts fm_100 fm_101 fm_102 fm_103 fm_6 rfl rfl ⟨by decide, by decide, by decide +kernel⟩ ⟨Nat.le_of_ble_eq_true rfl, Nat.le_of_ble_eq_true rfl⟩) (va_recv hK hP (ci := 13) (q0 := 31) rfl rfl) (fun _ h9 => h9) (fun a9 h9 => hA a9 (Nat.le_trans hS.1 h9)) hG hS hP hK hD rfl hl.1 rfl (Nat.le_of_ble_eq_true rfl) dX9_restriction_2 ⟨Nat.le_of_ble_eq_true rfl, Nat.le_of_ble_eq_true rfl⟩ ht hlocks (fun E hE => by obtain ⟨rfl, h9⟩ := hE; exact (Or.inl ⟨rfl, (fq_28 p0 h9)⟩)) ⟨Nat.le_of_ble_eq_true rfl, Nat.le_of_ble_eq_true rfl⟩ (fun u_1 H locs hw hz1 hk1 hP hS => ?_)
  have hP : va_P D vwCl (fz_WC k q f pa v) H := hP
  have hq_1 : p0 = 0 := hw
  obtain rfl : p0 = 0 := (fq_27 p0 hq_1)
  refine lv_iload_n hx hb dX9_restriction_5 rfl (lv_at hl 2 rfl) ?_
  refine lv_iconst (v := 2) hx hb dX9_restriction_6 (by decide) ?_
  refine fz_xSv (As := [.int p1, .int 2]) (rest := []) S0 (c_reqPart l hl0 A D k q f pa v p1 2) (fz_cwS 2 hts fm_105 fm_106 fm_107 fm_6 rfl rfl ⟨by decide, by decide, by decide +kernel⟩ ⟨Nat.le_of_ble_eq_true rfl, Nat.le_of_ble_eq_true rfl⟩) (fun _ h9 => h9) (fun a9 h9 => hA a9 (Nat.le_trans hS.1 h9)) hG hS hP hK hD rfl hl.1 rfl (Nat.le_of_ble_eq_true rfl) dX9_restriction_7 ⟨Nat.le_of_ble_eq_true rfl, Nat.le_of_ble_eq_true rfl⟩ ht hlocks (fun E hE => by obtain ⟨rfl, h9⟩ := hE; exact (Or.inr ⟨rfl, (fq_54 p1 h9)⟩)) ⟨Nat.le_of_ble_eq_true rfl, Nat.le_of_ble_eq_true rfl⟩ (fun u_2 H locs hw hz1 hk1 hP hS => ?_)
  have hP : va_P D vwCl (fz_WC k q f pa v) H := hP
  have hq_2 : (0 ≤ p1 ∧ p1 ≤ 2) := hw
  refine lv_iload_n hx hb dX9_restriction_10 rfl (lv_at hl 2 rfl) ?_
  by_cases c_3_0 : p1 = 0
  · subst c_3_0
    refine lv_lookup (off := 25) (tgt := 36) hx hb dX9_restriction_11 (by decide) (by decide) (by decide) ?_
    refine lv_aload_n hx hb dX9_restriction_36 rfl (lv_at hl 0 rfl) ?_
    refine va_get (D := D) (ci := 13) (v := .ref (q 0)) (C := RX9) (T := TX9) (N := 8) hx hb hts (fun w9 h9 => fz_m (fin_X9 w9 h9)) hown hK hP 31 rfl rfl 0 (by decide) (hts _ (fz_m fm_9)) (fun _ h9 => h9) rfl dX9_restriction_37 ?_
    refine va_get (D := D) (ci := 11) (v := .ref (q 10)) (C := RX7) (T := TX7) (N := 6) hx hb hts (fun w9 h9 => fz_m (fin_X7 w9 h9)) hown hK hP 0 rfl rfl 1 (by decide) (hts _ (fz_m fm_128)) (fun _ h9 => h9) rfl dX9_restriction_40 ?_
    refine lv_aload_n hx hb dX9_restriction_43 rfl (lv_at hl 0 rfl) ?_
    refine va_get (D := D) (ci := 13) (v := .ref (q 0)) (C := RX9) (T := TX9) (N := 8) hx hb hts (fun w9 h9 => fz_m (fin_X9 w9 h9)) hown hK hP 31 rfl rfl 0 (by decide) (hts _ (fz_m fm_9)) (fun _ h9 => h9) rfl dX9_restriction_44 ?_
    refine va_get (D := D) (ci := 11) (v := .ref (q 1)) (C := RX7) (T := TX7) (N := 6) hx hb hts (fun w9 h9 => fz_m (fin_X7 w9 h9)) hown hK hP 0 rfl rfl 0 (by decide) (hts _ (fz_m fm_10)) (fun _ h9 => h9) rfl dX9_restriction_47 ?_
    refine lv_iload_n hx hb dX9_restriction_50 rfl (lv_at hl 1 rfl) ?_
    refine fz_cVi (As := [.ref (q 1), .int 0]) (rest := []) S0 (c_term l A D k q f pa v g_f_11_0 g_f_5_0) (fz_cwV (C := RX6) 2 hts fm_55 fm_129 fm_57 fm_58 fm_54 rfl rfl ⟨by decide, by decide, by decide +kernel⟩ ⟨Nat.le_of_ble_eq_true rfl, Nat.le_of_ble_eq_true rfl⟩) (va_recv hK hP (ci := 10) (q0 := 10) rfl rfl) (fun _ h9 => h9) (fun a9 h9 => hA a9 (Nat.le_trans hS.1 h9)) hG hS hP hK hD rfl hl.1 rfl (Nat.le_of_ble_eq_true rfl) dX9_restriction_51 ⟨Nat.le_of_ble_eq_true rfl, Nat.le_of_ble_eq_true rfl⟩ (fun r_4 u_4 H locs hw hz1 hk1 hP hS => ?_)
    have hP : va_P D vwCl (fz_WC k q f pa v) H := hP
    obtain rfl : r_4 = 0 := hw
    have hP : va_P D vwCl [] H := fz_nil
    exact vx_ret (fz_iret hx hb hr rfl hlocks hS dX9_restriction_54 () (Or.inl ⟨rfl, (fq_40 )⟩) hP (Nat.le_of_ble_eq_true rfl) (Nat.le_of_ble_eq_true rfl))
  by_cases c_3_1 : p1 = 1
  · subst c_3_1
    refine lv_lookup (off := 44) (tgt := 55) hx hb dX9_restriction_11 (by decide) (by decide) (by decide) ?_
    refine lv_aload_n hx hb dX9_restriction_55 rfl (lv_at hl 0 rfl) ?_
    refine va_get (D := D) (ci := 13) (v := .ref (q 0)) (C := RX9) (T := TX9) (N := 8) hx hb hts (fun w9 h9 => fz_m (fin_X9 w9 h9)) hown hK hP 31 rfl rfl 0 (by decide) (hts _ (fz_m fm_9)) (fun _ h9 => h9) rfl dX9_restriction_56 ?_
    refine va_get (D := D) (ci := 11) (v := .ref (q 10)) (C := RX7) (T := TX7) (N := 6) hx hb hts (fun w9 h9 => fz_m (fin_X7 w9 h9)) hown hK hP 0 rfl rfl 1 (by decide) (hts _ (fz_m fm_128)) (fun _ h9 => h9) rfl dX9_restriction_59 ?_
    refine lv_aload_n hx hb dX9_restriction_62 rfl (lv_at hl 0 rfl) ?_
    refine va_get (D := D) (ci := 13) (v := .ref (q 0)) (C := RX9) (T := TX9) (N := 8) hx hb hts (fun w9 h9 => fz_m (fin_X9 w9 h9)) hown hK hP 31 rfl rfl 0 (by decide) (hts _ (fz_m fm_9)) (fun _ h9 => h9) rfl dX9_restriction_63 ?_
    refine va_get (D := D) (ci := 11) (v := .ref (q 1)) (C := RX7) (T := TX7) (N := 6) hx hb hts (fun w9 h9 => fz_m (fin_X7 w9 h9)) hown hK hP 0 rfl rfl 0 (by decide) (hts _ (fz_m fm_10)) (fun _ h9 => h9) rfl dX9_restriction_66 ?_
    refine lv_iload_n hx hb dX9_restriction_69 rfl (lv_at hl 1 rfl) ?_
    refine fz_cVi (As := [.ref (q 1), .int 0]) (rest := []) S0 (c_deciding l A D k q f pa v g_f_11_0 g_f_5_0) (fz_cwV (C := RX6) 2 hts fm_50 fm_130 fm_52 fm_53 fm_54 rfl rfl ⟨by decide, by decide, by decide +kernel⟩ ⟨Nat.le_of_ble_eq_true rfl, Nat.le_of_ble_eq_true rfl⟩) (va_recv hK hP (ci := 10) (q0 := 10) rfl rfl) (fun _ h9 => h9) (fun a9 h9 => hA a9 (Nat.le_trans hS.1 h9)) hG hS hP hK hD rfl hl.1 rfl (Nat.le_of_ble_eq_true rfl) dX9_restriction_70 ⟨Nat.le_of_ble_eq_true rfl, Nat.le_of_ble_eq_true rfl⟩ (fun r_5 u_5 H locs hw hz1 hk1 hP hS => ?_)
    have hP : va_P D vwCl (fz_WC k q f pa v) H := hP
    obtain rfl : r_5 = (-1) := hw
    have hP : va_P D vwCl [] H := fz_nil
    exact vx_ret (fz_iret hx hb hr rfl hlocks hS dX9_restriction_73 () (Or.inr ⟨rfl, (fq_55 )⟩) hP (Nat.le_of_ble_eq_true rfl) (Nat.le_of_ble_eq_true rfl))
  obtain rfl : p1 = 2 := (fq_56 p1 hq_2 c_3_0 c_3_1)
  refine lv_lookup (off := 63) (tgt := 74) hx hb dX9_restriction_11 (by decide) (by decide) (by decide) ?_
  refine lv_aload_n hx hb dX9_restriction_74 rfl (lv_at hl 0 rfl) ?_
  refine va_get (D := D) (ci := 13) (v := .ref (q 0)) (C := RX9) (T := TX9) (N := 8) hx hb hts (fun w9 h9 => fz_m (fin_X9 w9 h9)) hown hK hP 31 rfl rfl 0 (by decide) (hts _ (fz_m fm_9)) (fun _ h9 => h9) rfl dX9_restriction_75 ?_
  refine va_get (D := D) (ci := 11) (v := .ref (q 10)) (C := RX7) (T := TX7) (N := 6) hx hb hts (fun w9 h9 => fz_m (fin_X7 w9 h9)) hown hK hP 0 rfl rfl 1 (by decide) (hts _ (fz_m fm_128)) (fun _ h9 => h9) rfl dX9_restriction_78 ?_
  refine lv_aload_n hx hb dX9_restriction_81 rfl (lv_at hl 0 rfl) ?_
  refine va_get (D := D) (ci := 13) (v := .ref (q 0)) (C := RX9) (T := TX9) (N := 8) hx hb hts (fun w9 h9 => fz_m (fin_X9 w9 h9)) hown hK hP 31 rfl rfl 0 (by decide) (hts _ (fz_m fm_9)) (fun _ h9 => h9) rfl dX9_restriction_82 ?_
  refine va_get (D := D) (ci := 11) (v := .ref (q 1)) (C := RX7) (T := TX7) (N := 6) hx hb hts (fun w9 h9 => fz_m (fin_X7 w9 h9)) hown hK hP 0 rfl rfl 0 (by decide) (hts _ (fz_m fm_10)) (fun _ h9 => h9) rfl dX9_restriction_85 ?_
  refine lv_iload_n hx hb dX9_restriction_88 rfl (lv_at hl 1 rfl) ?_
  refine fz_cVi (As := [.ref (q 1), .int 0]) (rest := []) S0 (c_lastClosedDay l A D k q f pa v g_f_11_0 g_f_5_0 g_v_2 g_f_6_0 g_f_2_0 g_f_9_0) (fz_cwV (C := RX6) 2 hts fm_131 fm_132 fm_133 fm_134 fm_54 rfl rfl ⟨by decide, by decide, by decide +kernel⟩ ⟨Nat.le_of_ble_eq_true rfl, Nat.le_of_ble_eq_true rfl⟩) (va_recv hK hP (ci := 10) (q0 := 10) rfl rfl) (fun _ h9 => h9) (fun a9 h9 => hA a9 (Nat.le_trans hS.1 h9)) hG hS hP hK hD rfl hl.1 rfl (Nat.le_of_ble_eq_true rfl) dX9_restriction_89 ⟨Nat.le_of_ble_eq_true rfl, Nat.le_of_ble_eq_true rfl⟩ (fun r_6 u_6 H locs hw hz1 hk1 hP hS => ?_)
  have hP : va_P D vwCl (fz_WC k q f pa v) H := hP
  obtain rfl : r_6 = (-1) := hw
  have hP : va_P D vwCl [] H := fz_nil
  exact vx_ret (fz_iret hx hb hr rfl hlocks hS dX9_restriction_92 () (Or.inr ⟨rfl, (fq_57 )⟩) hP (Nat.le_of_ble_eq_true rfl) (Nat.le_of_ble_eq_true rfl))

set_option maxHeartbeats 4000000 in
set_option maxRecDepth 100000 in
theorem c_openPages (l : Launch) (hl0 : l.stackTraces = false) (A : Nat → Prop) (D : va_G) (k : Nat → ClassId) (q : Nat → Nat) (f : Nat → Nat → Int32) (pa : Nat → Option Nat) (v : Nat → Int32) (p0 p1 : Int32) (g_v_1 : v 1 = 1) (g_f_4_0 : f 4 0 = 0) (g_f_7_0 : f 7 0 = 0)  :
    vx_Met l yX9_openPages (fz_ws yX9_openPages cX9_openPages 3 (some .int)) { frames := 24, cells := 2, slots := 12, locals := 320 } (va_Pc [.ref (q 31), .int p0, .int p1] (fz_PC A D (fz_tys k) (fz_WC k q f pa v))) (fz_QI D A (fun (_ : Unit) => ([] : va_W)) (fun (r : Int32) (_ : Unit) => r = 0 ∧ (p0 = 0 ∧ (0 ≤ p1 ∧ p1 ≤ 9999)))) (fz_XC (fun E => (E = "java/lang/IndexOutOfBoundsException" ∧ ¬ (p0 = 0)) ∨ (E = "java/lang/IllegalArgumentException" ∧ (p0 = 0 ∧ ¬ ((0 ≤ p1 ∧ p1 ≤ 9999))))) A) 2 12 A := by
  refine fz_ofX (by decide +kernel) (Nat.le_of_ble_eq_true rfl) ?_
  intro p e s m below meth c hx hb hr hml hown hlocks hts ht hA hP hK hD hG hS ls hl
  have hown : s.vm.findClass RX9 = some m.cls := hown
  have S0 : CallFix p m c cX9_openPages 3 s [.ref (q 31), .int p0, .int p1].toArray (fz_ws yX9_openPages cX9_openPages 3 (some .int)) RX9 := ⟨hx, hb, hml, hown, hts⟩
  have hl : lv_has ls 3 [(0, .ref (q 31)), (1, .int p0), (2, .int p1)] := hl
  refine lv_aload_n hx hb dX9_openPages_0 rfl (lv_at hl 0 rfl) ?_
  refine lv_iload_n hx hb dX9_openPages_1 rfl (lv_at hl 1 rfl) ?_
  refine fz_xVv (As := [.int p0]) (rest := []) S0 (c_reqNode l hl0 A D k q f pa v p0 g_v_1 g_f_4_0) (fz_cwV (C := RX9) 1 hts fm_100 fm_101 fm_102 fm_103 fm_6 rfl rfl ⟨by decide, by decide, by decide +kernel⟩ ⟨Nat.le_of_ble_eq_true rfl, Nat.le_of_ble_eq_true rfl⟩) (va_recv hK hP (ci := 13) (q0 := 31) rfl rfl) (fun _ h9 => h9) (fun a9 h9 => hA a9 (Nat.le_trans hS.1 h9)) hG hS hP hK hD rfl hl.1 rfl (Nat.le_of_ble_eq_true rfl) dX9_openPages_2 ⟨Nat.le_of_ble_eq_true rfl, Nat.le_of_ble_eq_true rfl⟩ ht hlocks (fun E hE => by obtain ⟨rfl, h9⟩ := hE; exact (Or.inl ⟨rfl, (fq_28 p0 h9)⟩)) ⟨Nat.le_of_ble_eq_true rfl, Nat.le_of_ble_eq_true rfl⟩ (fun u_1 H locs hw hz1 hk1 hP hS => ?_)
  have hP : va_P D vwCl (fz_WC k q f pa v) H := hP
  have hq_1 : p0 = 0 := hw
  obtain rfl : p0 = 0 := (fq_27 p0 hq_1)
  refine lv_iload_n hx hb dX9_openPages_5 rfl (lv_at hl 2 rfl) ?_
  refine fz_xSv (As := [.int p1]) (rest := []) S0 (c_reqDay l hl0 A D k q f pa v p1) (fz_cwS 1 hts fm_135 fm_136 fm_137 fm_6 rfl rfl ⟨by decide, by decide, by decide +kernel⟩ ⟨Nat.le_of_ble_eq_true rfl, Nat.le_of_ble_eq_true rfl⟩) (fun _ h9 => h9) (fun a9 h9 => hA a9 (Nat.le_trans hS.1 h9)) hG hS hP hK hD rfl hl.1 rfl (Nat.le_of_ble_eq_true rfl) dX9_openPages_6 ⟨Nat.le_of_ble_eq_true rfl, Nat.le_of_ble_eq_true rfl⟩ ht hlocks (fun E hE => by obtain ⟨rfl, h9⟩ := hE; exact (Or.inr ⟨rfl, (fq_58 p1 h9)⟩)) ⟨Nat.le_of_ble_eq_true rfl, Nat.le_of_ble_eq_true rfl⟩ (fun u_2 H locs hw hz1 hk1 hP hS => ?_)
  have hP : va_P D vwCl (fz_WC k q f pa v) H := hP
  have hq_2 : (0 ≤ p1 ∧ p1 ≤ 9999) := hw
  refine lv_aload_n hx hb dX9_openPages_9 rfl (lv_at hl 0 rfl) ?_
  refine va_get (D := D) (ci := 13) (v := .ref (q 0)) (C := RX9) (T := TX9) (N := 8) hx hb hts (fun w9 h9 => fz_m (fin_X9 w9 h9)) hown hK hP 31 rfl rfl 0 (by decide) (hts _ (fz_m fm_9)) (fun _ h9 => h9) rfl dX9_openPages_10 ?_
  refine va_get (D := D) (ci := 11) (v := .ref (q 10)) (C := RX7) (T := TX7) (N := 6) hx hb hts (fun w9 h9 => fz_m (fin_X7 w9 h9)) hown hK hP 0 rfl rfl 1 (by decide) (hts _ (fz_m fm_128)) (fun _ h9 => h9) rfl dX9_openPages_13 ?_
  refine lv_aload_n hx hb dX9_openPages_16 rfl (lv_at hl 0 rfl) ?_
  refine va_get (D := D) (ci := 13) (v := .ref (q 0)) (C := RX9) (T := TX9) (N := 8) hx hb hts (fun w9 h9 => fz_m (fin_X9 w9 h9)) hown hK hP 31 rfl rfl 0 (by decide) (hts _ (fz_m fm_9)) (fun _ h9 => h9) rfl dX9_openPages_17 ?_
  refine va_get (D := D) (ci := 11) (v := .ref (q 1)) (C := RX7) (T := TX7) (N := 6) hx hb hts (fun w9 h9 => fz_m (fin_X7 w9 h9)) hown hK hP 0 rfl rfl 0 (by decide) (hts _ (fz_m fm_10)) (fun _ h9 => h9) rfl dX9_openPages_20 ?_
  refine lv_iload_n hx hb dX9_openPages_23 rfl (lv_at hl 1 rfl) ?_
  refine lv_iload_n hx hb dX9_openPages_24 rfl (lv_at hl 2 rfl) ?_
  refine fz_cVi (As := [.ref (q 1), .int 0, .int p1]) (rest := []) S0 (c_openSet l A D k q f pa v p1 g_f_7_0) (fz_cwV (C := RX6) 3 hts fm_95 fm_138 fm_97 fm_98 fm_54 rfl rfl ⟨by decide, by decide, by decide +kernel⟩ ⟨Nat.le_of_ble_eq_true rfl, Nat.le_of_ble_eq_true rfl⟩) (va_recv hK hP (ci := 10) (q0 := 10) rfl rfl) (fun _ h9 => h9) (fun a9 h9 => hA a9 (Nat.le_trans hS.1 h9)) hG hS hP hK hD rfl hl.1 rfl (Nat.le_of_ble_eq_true rfl) dX9_openPages_25 ⟨Nat.le_of_ble_eq_true rfl, Nat.le_of_ble_eq_true rfl⟩ (fun r_3 u_3 H locs hw hz1 hk1 hP hS => ?_)
  have hP : va_P D vwCl (fz_WC k q f pa v) H := hP
  obtain rfl : r_3 = 0 := hw
  have hP : va_P D vwCl [] H := fz_nil
  exact vx_ret (fz_iret hx hb hr rfl hlocks hS dX9_openPages_28 () ⟨rfl, (fq_59 p1 hq_2)⟩ hP (Nat.le_of_ble_eq_true rfl) (Nat.le_of_ble_eq_true rfl))

set_option maxHeartbeats 4000000 in
set_option maxRecDepth 100000 in
theorem c_firstDay (l : Launch) (hl0 : l.stackTraces = false) (A : Nat → Prop) (D : va_G) (k : Nat → ClassId) (q : Nat → Nat) (f : Nat → Nat → Int32) (pa : Nat → Option Nat) (v : Nat → Int32) (p0 : Int32) (g_v_7 : v 7 = 0)  :
    vx_Met l yX9_firstDay (fz_ws yX9_firstDay cX9_firstDay 3 (some .int)) { frames := 24, cells := 1, slots := 6, locals := 320 } (va_Pc [.ref (q 31), .int p0] (fz_PC A D (fz_tys k) (fz_WC k q f pa v))) (fz_QI D A (fun (_ : Unit) => ([] : va_W)) (fun (r : Int32) (_ : Unit) => r = 0)) (fz_XC (fun E => (E = "java/lang/IndexOutOfBoundsException" ∧ True)) A) 1 6 A := by
  refine fz_ofX (by decide +kernel) (Nat.le_of_ble_eq_true rfl) ?_
  intro p e s m below meth c hx hb hr hml hown hlocks hts ht hA hP hK hD hG hS ls hl
  have hown : s.vm.findClass RX9 = some m.cls := hown
  have S0 : CallFix p m c cX9_firstDay 3 s [.ref (q 31), .int p0].toArray (fz_ws yX9_firstDay cX9_firstDay 3 (some .int)) RX9 := ⟨hx, hb, hml, hown, hts⟩
  have hl : lv_has ls 3 [(0, .ref (q 31)), (1, .int p0)] := hl
  refine lv_aload_n hx hb dX9_firstDay_0 rfl (lv_at hl 0 rfl) ?_
  refine lv_iload_n hx hb dX9_firstDay_1 rfl (lv_at hl 1 rfl) ?_
  refine fz_xVv (As := [.int p0]) (rest := []) S0 (c_reqCopy l hl0 A D k q f pa v p0 g_v_7) (fz_cwV (C := RX9) 1 hts fm_139 fm_140 fm_141 fm_142 fm_6 rfl rfl ⟨by decide, by decide, by decide +kernel⟩ ⟨Nat.le_of_ble_eq_true rfl, Nat.le_of_ble_eq_true rfl⟩) (va_recv hK hP (ci := 13) (q0 := 31) rfl rfl) (fun _ h9 => h9) (fun a9 h9 => hA a9 (Nat.le_trans hS.1 h9)) hG hS hP hK hD rfl hl.1 rfl (Nat.le_of_ble_eq_true rfl) dX9_firstDay_2 ⟨Nat.le_of_ble_eq_true rfl, Nat.le_of_ble_eq_true rfl⟩ ht hlocks (fun E hE => by obtain ⟨rfl, h9⟩ := hE; exact ⟨rfl, trivial⟩) ⟨Nat.le_of_ble_eq_true rfl, Nat.le_of_ble_eq_true rfl⟩ (fun u_1 H locs hw hz1 hk1 hP hS => ?_)
  have hP : va_P D vwCl (fz_WC k q f pa v) H := hP
  exact (show False from hw).elim

set_option maxHeartbeats 4000000 in
set_option maxRecDepth 100000 in
theorem c_put (l : Launch) (hl0 : l.stackTraces = false) (A : Nat → Prop) (D : va_G) (k : Nat → ClassId) (q : Nat → Nat) (f : Nat → Nat → Int32) (pa : Nat → Option Nat) (v : Nat → Int32) (p0 p1 : Int32) (g_v_1 : v 1 = 1) (g_f_4_0 : f 4 0 = 0) (g_v_3 : v 3 = 0)  :
    vx_Met l yX9_put (fz_ws yX9_put cX9_put 6 (some .int)) { frames := 24, cells := 2, slots := 12, locals := 320 } (va_Pc [.ref (q 31), .int p0, .int p1] (fz_PC A D (fz_tys k) (fz_WC k q f pa v))) (fz_QI D A (fun (_ : Unit) => ([] : va_W)) (fun (r : Int32) (_ : Unit) => r = 0)) (fz_XC (fun E => (E = "java/lang/IndexOutOfBoundsException" ∧ True)) A) 2 12 A := by
  refine fz_ofX (by decide +kernel) (Nat.le_of_ble_eq_true rfl) ?_
  intro p e s m below meth c hx hb hr hml hown hlocks hts ht hA hP hK hD hG hS ls hl
  have hown : s.vm.findClass RX9 = some m.cls := hown
  have S0 : CallFix p m c cX9_put 6 s [.ref (q 31), .int p0, .int p1].toArray (fz_ws yX9_put cX9_put 6 (some .int)) RX9 := ⟨hx, hb, hml, hown, hts⟩
  have hl : lv_has ls 6 [(0, .ref (q 31)), (1, .int p0), (2, .int p1)] := hl
  refine lv_aload_n hx hb dX9_put_0 rfl (lv_at hl 0 rfl) ?_
  refine lv_iload_n hx hb dX9_put_1 rfl (lv_at hl 1 rfl) ?_
  refine fz_xVv (As := [.int p0]) (rest := []) S0 (c_reqNode l hl0 A D k q f pa v p0 g_v_1 g_f_4_0) (fz_cwV (C := RX9) 1 hts fm_100 fm_101 fm_102 fm_103 fm_6 rfl rfl ⟨by decide, by decide, by decide +kernel⟩ ⟨Nat.le_of_ble_eq_true rfl, Nat.le_of_ble_eq_true rfl⟩) (va_recv hK hP (ci := 13) (q0 := 31) rfl rfl) (fun _ h9 => h9) (fun a9 h9 => hA a9 (Nat.le_trans hS.1 h9)) hG hS hP hK hD rfl hl.1 rfl (Nat.le_of_ble_eq_true rfl) dX9_put_2 ⟨Nat.le_of_ble_eq_true rfl, Nat.le_of_ble_eq_true rfl⟩ ht hlocks (fun E hE => by obtain ⟨rfl, h9⟩ := hE; exact ⟨rfl, trivial⟩) ⟨Nat.le_of_ble_eq_true rfl, Nat.le_of_ble_eq_true rfl⟩ (fun u_1 H locs hw hz1 hk1 hP hS => ?_)
  have hP : va_P D vwCl (fz_WC k q f pa v) H := hP
  have hq_1 : p0 = 0 := hw
  obtain rfl : p0 = 0 := (fq_27 p0 hq_1)
  refine lv_aload_n hx hb dX9_put_5 rfl (lv_at hl 0 rfl) ?_
  refine lv_iload_n hx hb dX9_put_6 rfl (lv_at hl 2 rfl) ?_
  refine fz_xVv (As := [.int p1]) (rest := []) S0 (c_reqCont l hl0 A D k q f pa v p1 g_v_3) (fz_cwV (C := RX9) 1 hts fm_143 fm_144 fm_145 fm_146 fm_6 rfl rfl ⟨by decide, by decide, by decide +kernel⟩ ⟨Nat.le_of_ble_eq_true rfl, Nat.le_of_ble_eq_true rfl⟩) (va_recv hK hP (ci := 13) (q0 := 31) rfl rfl) (fun _ h9 => h9) (fun a9 h9 => hA a9 (Nat.le_trans hS.1 h9)) hG hS hP hK hD rfl hl.1 rfl (Nat.le_of_ble_eq_true rfl) dX9_put_7 ⟨Nat.le_of_ble_eq_true rfl, Nat.le_of_ble_eq_true rfl⟩ ht hlocks (fun E hE => by obtain ⟨rfl, h9⟩ := hE; exact ⟨rfl, trivial⟩) ⟨Nat.le_of_ble_eq_true rfl, Nat.le_of_ble_eq_true rfl⟩ (fun u_2 H locs hw hz1 hk1 hP hS => ?_)
  have hP : va_P D vwCl (fz_WC k q f pa v) H := hP
  exact (show False from hw).elim

set_option maxHeartbeats 4000000 in
set_option maxRecDepth 100000 in
theorem c_takeOut (l : Launch) (hl0 : l.stackTraces = false) (A : Nat → Prop) (D : va_G) (k : Nat → ClassId) (q : Nat → Nat) (f : Nat → Nat → Int32) (pa : Nat → Option Nat) (v : Nat → Int32) (p0 : Int32) (g_v_1 : v 1 = 1) (g_f_4_0 : f 4 0 = 0) (g_f_18_0 : f 18 0 = (-1))  :
    vx_Met l yX9_takeOut (fz_ws yX9_takeOut cX9_takeOut 3 (some .int)) { frames := 24, cells := 2, slots := 12, locals := 320 } (va_Pc [.ref (q 31), .int p0] (fz_PC A D (fz_tys k) (fz_WC k q f pa v))) (fz_QI D A (fun (_ : Unit) => ([] : va_W)) (fun (r : Int32) (_ : Unit) => r = 0)) (fz_XC (fun E => (E = "java/lang/IndexOutOfBoundsException" ∧ ¬ (p0 = 0)) ∨ (E = "java/lang/IllegalStateException" ∧ p0 = 0)) A) 2 12 A := by
  refine fz_ofX (by decide +kernel) (Nat.le_of_ble_eq_true rfl) ?_
  intro p e s m below meth c hx hb hr hml hown hlocks hts ht hA hP hK hD hG hS ls hl
  have hown : s.vm.findClass RX9 = some m.cls := hown
  have S0 : CallFix p m c cX9_takeOut 3 s [.ref (q 31), .int p0].toArray (fz_ws yX9_takeOut cX9_takeOut 3 (some .int)) RX9 := ⟨hx, hb, hml, hown, hts⟩
  have hl : lv_has ls 3 [(0, .ref (q 31)), (1, .int p0)] := hl
  refine lv_aload_n hx hb dX9_takeOut_0 rfl (lv_at hl 0 rfl) ?_
  refine lv_iload_n hx hb dX9_takeOut_1 rfl (lv_at hl 1 rfl) ?_
  refine fz_xVv (As := [.int p0]) (rest := []) S0 (c_reqNode l hl0 A D k q f pa v p0 g_v_1 g_f_4_0) (fz_cwV (C := RX9) 1 hts fm_100 fm_101 fm_102 fm_103 fm_6 rfl rfl ⟨by decide, by decide, by decide +kernel⟩ ⟨Nat.le_of_ble_eq_true rfl, Nat.le_of_ble_eq_true rfl⟩) (va_recv hK hP (ci := 13) (q0 := 31) rfl rfl) (fun _ h9 => h9) (fun a9 h9 => hA a9 (Nat.le_trans hS.1 h9)) hG hS hP hK hD rfl hl.1 rfl (Nat.le_of_ble_eq_true rfl) dX9_takeOut_2 ⟨Nat.le_of_ble_eq_true rfl, Nat.le_of_ble_eq_true rfl⟩ ht hlocks (fun E hE => by obtain ⟨rfl, h9⟩ := hE; exact (Or.inl ⟨rfl, (fq_28 p0 h9)⟩)) ⟨Nat.le_of_ble_eq_true rfl, Nat.le_of_ble_eq_true rfl⟩ (fun u_1 H locs hw hz1 hk1 hP hS => ?_)
  have hP : va_P D vwCl (fz_WC k q f pa v) H := hP
  have hq_1 : p0 = 0 := hw
  obtain rfl : p0 = 0 := (fq_27 p0 hq_1)
  refine lv_aload_n hx hb dX9_takeOut_5 rfl (lv_at hl 0 rfl) ?_
  refine va_get (D := D) (ci := 13) (v := .ref (q 0)) (C := RX9) (T := TX9) (N := 8) hx hb hts (fun w9 h9 => fz_m (fin_X9 w9 h9)) hown hK hP 31 rfl rfl 0 (by decide) (hts _ (fz_m fm_9)) (fun _ h9 => h9) rfl dX9_takeOut_6 ?_
  refine va_get (D := D) (ci := 11) (v := .ref (q 14)) (C := RX7) (T := TX7) (N := 6) hx hb hts (fun w9 h9 => fz_m (fin_X7 w9 h9)) hown hK hP 0 rfl rfl 2 (by decide) (hts _ (fz_m fm_21)) (fun _ h9 => h9) rfl dX9_takeOut_9 ?_
  refine va_get (D := D) (ci := 4) (v := .ref (q 18)) (C := RX0) (T := TX0) (N := 9) hx hb hts (fun w9 h9 => fz_m (fin_X0 w9 h9)) hown hK hP 14 rfl rfl 6 (by decide) (hts _ (fz_m fm_121)) (fun _ h9 => h9) rfl dX9_takeOut_12 ?_
  refine lv_iload_n hx hb dX9_takeOut_15 rfl (lv_at hl 1 rfl) ?_
  refine va_iald hx hb hK hP 18 0 rfl rfl (fz_vin (by decide)) dX9_takeOut_16 ?_
  refine fz_I (y := (-1)) g_f_18_0 ?_
  refine lv_istore_n (lv' := [(2, .int (-1)), (0, .ref (q 31)), (1, .int 0)]) hx hb dX9_takeOut_17 rfl hl (by decide) rfl (fun ls hl => ?_)
  refine lv_iload_n hx hb dX9_takeOut_18 rfl (lv_at hl 0 rfl) ?_
  refine lv_iconst (v := (-1)) hx hb dX9_takeOut_19 (by decide) ?_
  refine lv_icmp_ne (tgt := 33) hx hb dX9_takeOut_20 (by decide) (fun c_2 => absurd (by decide) c_2) (fun c_2 => ?_)
  exact fz_throw (cls := "java/lang/IllegalStateException") (text := "the node is in no container") (names := fz_EN) (ik := 79) (is := 254) (ic := 83) hx hb hl0 hown hts hG (fz_fit_83) ⟨fm_147, fm_148⟩ (by decide) fz_at_83 fz_ok_83 hS (hl.1.trans hml.symm) dX9_takeOut_23 dX9_takeOut_26 dX9_takeOut_27 dX9_takeOut_29 dX9_takeOut_32 ht hlocks ⟨Nat.le_of_ble_eq_true rfl, Nat.le_of_ble_eq_true rfl, Nat.le_of_ble_eq_true rfl, Nat.le_of_ble_eq_true rfl⟩ (Or.inr ⟨rfl, (fq_3 )⟩) ⟨Nat.le_of_ble_eq_true rfl, Nat.le_of_ble_eq_true rfl⟩

set_option maxHeartbeats 4000000 in
set_option maxRecDepth 100000 in
theorem c_split (l : Launch) (hl0 : l.stackTraces = false) (A : Nat → Prop) (D : va_G) (k : Nat → ClassId) (q : Nat → Nat) (f : Nat → Nat → Int32) (pa : Nat → Option Nat) (v : Nat → Int32) (p0 p1 p2 : Int32) (g_v_3 : v 3 = 0)  :
    vx_Met l yX9_split (fz_ws yX9_split cX9_split 8 (some .int)) { frames := 24, cells := 1, slots := 6, locals := 320 } (va_Pc [.ref (q 31), .int p0, .int p1, .int p2] (fz_PC A D (fz_tys k) (fz_WC k q f pa v))) (fz_QI D A (fun (_ : Unit) => ([] : va_W)) (fun (r : Int32) (_ : Unit) => r = 0)) (fz_XC (fun E => (E = "java/lang/IndexOutOfBoundsException" ∧ True)) A) 1 6 A := by
  refine fz_ofX (by decide +kernel) (Nat.le_of_ble_eq_true rfl) ?_
  intro p e s m below meth c hx hb hr hml hown hlocks hts ht hA hP hK hD hG hS ls hl
  have hown : s.vm.findClass RX9 = some m.cls := hown
  have S0 : CallFix p m c cX9_split 8 s [.ref (q 31), .int p0, .int p1, .int p2].toArray (fz_ws yX9_split cX9_split 8 (some .int)) RX9 := ⟨hx, hb, hml, hown, hts⟩
  have hl : lv_has ls 8 [(0, .ref (q 31)), (1, .int p0), (2, .int p1), (3, .int p2)] := hl
  refine lv_aload_n hx hb dX9_split_0 rfl (lv_at hl 0 rfl) ?_
  refine lv_iload_n hx hb dX9_split_1 rfl (lv_at hl 1 rfl) ?_
  refine fz_xVv (As := [.int p0]) (rest := []) S0 (c_reqCont l hl0 A D k q f pa v p0 g_v_3) (fz_cwV (C := RX9) 1 hts fm_143 fm_144 fm_145 fm_146 fm_6 rfl rfl ⟨by decide, by decide, by decide +kernel⟩ ⟨Nat.le_of_ble_eq_true rfl, Nat.le_of_ble_eq_true rfl⟩) (va_recv hK hP (ci := 13) (q0 := 31) rfl rfl) (fun _ h9 => h9) (fun a9 h9 => hA a9 (Nat.le_trans hS.1 h9)) hG hS hP hK hD rfl hl.1 rfl (Nat.le_of_ble_eq_true rfl) dX9_split_2 ⟨Nat.le_of_ble_eq_true rfl, Nat.le_of_ble_eq_true rfl⟩ ht hlocks (fun E hE => by obtain ⟨rfl, h9⟩ := hE; exact ⟨rfl, trivial⟩) ⟨Nat.le_of_ble_eq_true rfl, Nat.le_of_ble_eq_true rfl⟩ (fun u_1 H locs hw hz1 hk1 hP hS => ?_)
  have hP : va_P D vwCl (fz_WC k q f pa v) H := hP
  exact (show False from hw).elim

set_option maxHeartbeats 4000000 in
set_option maxRecDepth 100000 in
theorem c_merge (l : Launch) (hl0 : l.stackTraces = false) (A : Nat → Prop) (D : va_G) (k : Nat → ClassId) (q : Nat → Nat) (f : Nat → Nat → Int32) (pa : Nat → Option Nat) (v : Nat → Int32) (p0 p1 : Int32) (g_v_3 : v 3 = 0)  :
    vx_Met l yX9_merge (fz_ws yX9_merge cX9_merge 6 (some .int)) { frames := 24, cells := 1, slots := 6, locals := 320 } (va_Pc [.ref (q 31), .int p0, .int p1] (fz_PC A D (fz_tys k) (fz_WC k q f pa v))) (fz_QI D A (fun (_ : Unit) => ([] : va_W)) (fun (r : Int32) (_ : Unit) => r = 0)) (fz_XC (fun E => (E = "java/lang/IndexOutOfBoundsException" ∧ True)) A) 1 6 A := by
  refine fz_ofX (by decide +kernel) (Nat.le_of_ble_eq_true rfl) ?_
  intro p e s m below meth c hx hb hr hml hown hlocks hts ht hA hP hK hD hG hS ls hl
  have hown : s.vm.findClass RX9 = some m.cls := hown
  have S0 : CallFix p m c cX9_merge 6 s [.ref (q 31), .int p0, .int p1].toArray (fz_ws yX9_merge cX9_merge 6 (some .int)) RX9 := ⟨hx, hb, hml, hown, hts⟩
  have hl : lv_has ls 6 [(0, .ref (q 31)), (1, .int p0), (2, .int p1)] := hl
  refine lv_aload_n hx hb dX9_merge_0 rfl (lv_at hl 0 rfl) ?_
  refine lv_iload_n hx hb dX9_merge_1 rfl (lv_at hl 1 rfl) ?_
  refine fz_xVv (As := [.int p0]) (rest := []) S0 (c_reqCont l hl0 A D k q f pa v p0 g_v_3) (fz_cwV (C := RX9) 1 hts fm_143 fm_144 fm_145 fm_146 fm_6 rfl rfl ⟨by decide, by decide, by decide +kernel⟩ ⟨Nat.le_of_ble_eq_true rfl, Nat.le_of_ble_eq_true rfl⟩) (va_recv hK hP (ci := 13) (q0 := 31) rfl rfl) (fun _ h9 => h9) (fun a9 h9 => hA a9 (Nat.le_trans hS.1 h9)) hG hS hP hK hD rfl hl.1 rfl (Nat.le_of_ble_eq_true rfl) dX9_merge_2 ⟨Nat.le_of_ble_eq_true rfl, Nat.le_of_ble_eq_true rfl⟩ ht hlocks (fun E hE => by obtain ⟨rfl, h9⟩ := hE; exact ⟨rfl, trivial⟩) ⟨Nat.le_of_ble_eq_true rfl, Nat.le_of_ble_eq_true rfl⟩ (fun u_1 H locs hw hz1 hk1 hP hS => ?_)
  have hP : va_P D vwCl (fz_WC k q f pa v) H := hP
  exact (show False from hw).elim

set_option maxHeartbeats 4000000 in
set_option maxRecDepth 100000 in
theorem c_container (l : Launch) (hl0 : l.stackTraces = false) (A : Nat → Prop) (D : va_G) (k : Nat → ClassId) (q : Nat → Nat) (f : Nat → Nat → Int32) (pa : Nat → Option Nat) (v : Nat → Int32) (p0 p1 : Int32) (g_v_3 : v 3 = 0)  :
    vx_Met l yX9_container (fz_ws yX9_container cX9_container 3 (some .int)) { frames := 24, cells := 1, slots := 6, locals := 320 } (va_Pc [.ref (q 31), .int p0, .int p1] (fz_PC A D (fz_tys k) (fz_WC k q f pa v))) (fz_QI D A (fun (_ : Unit) => ([] : va_W)) (fun (r : Int32) (_ : Unit) => r = 0)) (fz_XC (fun E => (E = "java/lang/IndexOutOfBoundsException" ∧ True)) A) 1 6 A := by
  refine fz_ofX (by decide +kernel) (Nat.le_of_ble_eq_true rfl) ?_
  intro p e s m below meth c hx hb hr hml hown hlocks hts ht hA hP hK hD hG hS ls hl
  have hown : s.vm.findClass RX9 = some m.cls := hown
  have S0 : CallFix p m c cX9_container 3 s [.ref (q 31), .int p0, .int p1].toArray (fz_ws yX9_container cX9_container 3 (some .int)) RX9 := ⟨hx, hb, hml, hown, hts⟩
  have hl : lv_has ls 3 [(0, .ref (q 31)), (1, .int p0), (2, .int p1)] := hl
  refine lv_aload_n hx hb dX9_container_0 rfl (lv_at hl 0 rfl) ?_
  refine lv_iload_n hx hb dX9_container_1 rfl (lv_at hl 1 rfl) ?_
  refine fz_xVv (As := [.int p0]) (rest := []) S0 (c_reqCont l hl0 A D k q f pa v p0 g_v_3) (fz_cwV (C := RX9) 1 hts fm_143 fm_144 fm_145 fm_146 fm_6 rfl rfl ⟨by decide, by decide, by decide +kernel⟩ ⟨Nat.le_of_ble_eq_true rfl, Nat.le_of_ble_eq_true rfl⟩) (va_recv hK hP (ci := 13) (q0 := 31) rfl rfl) (fun _ h9 => h9) (fun a9 h9 => hA a9 (Nat.le_trans hS.1 h9)) hG hS hP hK hD rfl hl.1 rfl (Nat.le_of_ble_eq_true rfl) dX9_container_2 ⟨Nat.le_of_ble_eq_true rfl, Nat.le_of_ble_eq_true rfl⟩ ht hlocks (fun E hE => by obtain ⟨rfl, h9⟩ := hE; exact ⟨rfl, trivial⟩) ⟨Nat.le_of_ble_eq_true rfl, Nat.le_of_ble_eq_true rfl⟩ (fun u_1 H locs hw hz1 hk1 hP hS => ?_)
  have hP : va_P D vwCl (fz_WC k q f pa v) H := hP
  exact (show False from hw).elim

set_option maxHeartbeats 4000000 in
set_option maxRecDepth 100000 in
theorem c_unitAt (l : Launch) (hl0 : l.stackTraces = false) (A : Nat → Prop) (D : va_G) (k : Nat → ClassId) (q : Nat → Nat) (f : Nat → Nat → Int32) (pa : Nat → Option Nat) (v : Nat → Int32) (p0 p1 : Int32) (g_v_3 : v 3 = 0)  :
    vx_Met l yX9_unitAt (fz_ws yX9_unitAt cX9_unitAt 4 (some .int)) { frames := 24, cells := 1, slots := 6, locals := 320 } (va_Pc [.ref (q 31), .int p0, .int p1] (fz_PC A D (fz_tys k) (fz_WC k q f pa v))) (fz_QI D A (fun (_ : Unit) => ([] : va_W)) (fun (r : Int32) (_ : Unit) => r = 0)) (fz_XC (fun E => (E = "java/lang/IndexOutOfBoundsException" ∧ True)) A) 1 6 A := by
  refine fz_ofX (by decide +kernel) (Nat.le_of_ble_eq_true rfl) ?_
  intro p e s m below meth c hx hb hr hml hown hlocks hts ht hA hP hK hD hG hS ls hl
  have hown : s.vm.findClass RX9 = some m.cls := hown
  have S0 : CallFix p m c cX9_unitAt 4 s [.ref (q 31), .int p0, .int p1].toArray (fz_ws yX9_unitAt cX9_unitAt 4 (some .int)) RX9 := ⟨hx, hb, hml, hown, hts⟩
  have hl : lv_has ls 4 [(0, .ref (q 31)), (1, .int p0), (2, .int p1)] := hl
  refine lv_aload_n hx hb dX9_unitAt_0 rfl (lv_at hl 0 rfl) ?_
  refine lv_iload_n hx hb dX9_unitAt_1 rfl (lv_at hl 1 rfl) ?_
  refine fz_xVv (As := [.int p0]) (rest := []) S0 (c_reqCont l hl0 A D k q f pa v p0 g_v_3) (fz_cwV (C := RX9) 1 hts fm_143 fm_144 fm_145 fm_146 fm_6 rfl rfl ⟨by decide, by decide, by decide +kernel⟩ ⟨Nat.le_of_ble_eq_true rfl, Nat.le_of_ble_eq_true rfl⟩) (va_recv hK hP (ci := 13) (q0 := 31) rfl rfl) (fun _ h9 => h9) (fun a9 h9 => hA a9 (Nat.le_trans hS.1 h9)) hG hS hP hK hD rfl hl.1 rfl (Nat.le_of_ble_eq_true rfl) dX9_unitAt_2 ⟨Nat.le_of_ble_eq_true rfl, Nat.le_of_ble_eq_true rfl⟩ ht hlocks (fun E hE => by obtain ⟨rfl, h9⟩ := hE; exact ⟨rfl, trivial⟩) ⟨Nat.le_of_ble_eq_true rfl, Nat.le_of_ble_eq_true rfl⟩ (fun u_1 H locs hw hz1 hk1 hP hS => ?_)
  have hP : va_P D vwCl (fz_WC k q f pa v) H := hP
  exact (show False from hw).elim

set_option maxHeartbeats 4000000 in
set_option maxRecDepth 100000 in
theorem c_copy (l : Launch) (hl0 : l.stackTraces = false) (A : Nat → Prop) (D : va_G) (k : Nat → ClassId) (q : Nat → Nat) (f : Nat → Nat → Int32) (pa : Nat → Option Nat) (v : Nat → Int32) (p0 p1 : Int32) (g_v_1 : v 1 = 1) (g_f_4_0 : f 4 0 = 0) (g_f_7_0 : f 7 0 = 0)  :
    vx_Met l yX9_copy (fz_ws yX9_copy cX9_copy 4 (some .int)) { frames := 24, cells := 2, slots := 12, locals := 320 } (va_Pc [.ref (q 31), .int p0, .int p1] (fz_PC A D (fz_tys k) (fz_WC k q f pa v))) (fz_QI D A (fun (_ : Unit) => ([] : va_W)) (fun (r : Int32) (_ : Unit) => r = 0)) (fz_XC (fun E => (E = "java/lang/IndexOutOfBoundsException" ∧ ¬ (p0 = 0)) ∨ (E = "java/lang/IllegalArgumentException" ∧ p0 = 0)) A) 2 12 A := by
  refine fz_ofX (by decide +kernel) (Nat.le_of_ble_eq_true rfl) ?_
  intro p e s m below meth c hx hb hr hml hown hlocks hts ht hA hP hK hD hG hS ls hl
  have hown : s.vm.findClass RX9 = some m.cls := hown
  have S0 : CallFix p m c cX9_copy 4 s [.ref (q 31), .int p0, .int p1].toArray (fz_ws yX9_copy cX9_copy 4 (some .int)) RX9 := ⟨hx, hb, hml, hown, hts⟩
  have hl : lv_has ls 4 [(0, .ref (q 31)), (1, .int p0), (2, .int p1)] := hl
  refine lv_aload_n hx hb dX9_copy_0 rfl (lv_at hl 0 rfl) ?_
  refine lv_iload_n hx hb dX9_copy_1 rfl (lv_at hl 1 rfl) ?_
  refine fz_xVv (As := [.int p0]) (rest := []) S0 (c_reqNode l hl0 A D k q f pa v p0 g_v_1 g_f_4_0) (fz_cwV (C := RX9) 1 hts fm_100 fm_101 fm_102 fm_103 fm_6 rfl rfl ⟨by decide, by decide, by decide +kernel⟩ ⟨Nat.le_of_ble_eq_true rfl, Nat.le_of_ble_eq_true rfl⟩) (va_recv hK hP (ci := 13) (q0 := 31) rfl rfl) (fun _ h9 => h9) (fun a9 h9 => hA a9 (Nat.le_trans hS.1 h9)) hG hS hP hK hD rfl hl.1 rfl (Nat.le_of_ble_eq_true rfl) dX9_copy_2 ⟨Nat.le_of_ble_eq_true rfl, Nat.le_of_ble_eq_true rfl⟩ ht hlocks (fun E hE => by obtain ⟨rfl, h9⟩ := hE; exact (Or.inl ⟨rfl, (fq_28 p0 h9)⟩)) ⟨Nat.le_of_ble_eq_true rfl, Nat.le_of_ble_eq_true rfl⟩ (fun u_1 H locs hw hz1 hk1 hP hS => ?_)
  have hP : va_P D vwCl (fz_WC k q f pa v) H := hP
  have hq_1 : p0 = 0 := hw
  obtain rfl : p0 = 0 := (fq_27 p0 hq_1)
  refine lv_aload_n hx hb dX9_copy_5 rfl (lv_at hl 0 rfl) ?_
  refine lv_iload_n hx hb dX9_copy_6 rfl (lv_at hl 1 rfl) ?_
  refine fz_xVv (As := [.int 0]) (rest := []) S0 (c_reqUnit l hl0 A D k q f pa v g_f_7_0) (fz_cwV (C := RX9) 1 hts fm_149 fm_150 fm_151 fm_152 fm_6 rfl rfl ⟨by decide, by decide, by decide +kernel⟩ ⟨Nat.le_of_ble_eq_true rfl, Nat.le_of_ble_eq_true rfl⟩) (va_recv hK hP (ci := 13) (q0 := 31) rfl rfl) (fun _ h9 => h9) (fun a9 h9 => hA a9 (Nat.le_trans hS.1 h9)) hG hS hP hK hD rfl hl.1 rfl (Nat.le_of_ble_eq_true rfl) dX9_copy_7 ⟨Nat.le_of_ble_eq_true rfl, Nat.le_of_ble_eq_true rfl⟩ ht hlocks (fun E hE => by obtain ⟨rfl, h9⟩ := hE; exact (Or.inr ⟨rfl, (fq_3 )⟩)) ⟨Nat.le_of_ble_eq_true rfl, Nat.le_of_ble_eq_true rfl⟩ (fun u_2 H locs hw hz1 hk1 hP hS => ?_)
  have hP : va_P D vwCl (fz_WC k q f pa v) H := hP
  exact (show False from hw).elim

set_option maxHeartbeats 4000000 in
set_option maxRecDepth 100000 in
theorem c_copyPart (l : Launch) (hl0 : l.stackTraces = false) (A : Nat → Prop) (D : va_G) (k : Nat → ClassId) (q : Nat → Nat) (f : Nat → Nat → Int32) (pa : Nat → Option Nat) (v : Nat → Int32) (p0 p1 : Int32) (g_v_7 : v 7 = 0)  :
    vx_Met l yX9_copyPart (fz_ws yX9_copyPart cX9_copyPart 4 (some .int)) { frames := 24, cells := 1, slots := 6, locals := 320 } (va_Pc [.ref (q 31), .int p0, .int p1] (fz_PC A D (fz_tys k) (fz_WC k q f pa v))) (fz_QI D A (fun (_ : Unit) => ([] : va_W)) (fun (r : Int32) (_ : Unit) => r = 0)) (fz_XC (fun E => (E = "java/lang/IndexOutOfBoundsException" ∧ True)) A) 1 6 A := by
  refine fz_ofX (by decide +kernel) (Nat.le_of_ble_eq_true rfl) ?_
  intro p e s m below meth c hx hb hr hml hown hlocks hts ht hA hP hK hD hG hS ls hl
  have hown : s.vm.findClass RX9 = some m.cls := hown
  have S0 : CallFix p m c cX9_copyPart 4 s [.ref (q 31), .int p0, .int p1].toArray (fz_ws yX9_copyPart cX9_copyPart 4 (some .int)) RX9 := ⟨hx, hb, hml, hown, hts⟩
  have hl : lv_has ls 4 [(0, .ref (q 31)), (1, .int p0), (2, .int p1)] := hl
  refine lv_aload_n hx hb dX9_copyPart_0 rfl (lv_at hl 0 rfl) ?_
  refine lv_iload_n hx hb dX9_copyPart_1 rfl (lv_at hl 1 rfl) ?_
  refine fz_xVv (As := [.int p0]) (rest := []) S0 (c_reqCopy l hl0 A D k q f pa v p0 g_v_7) (fz_cwV (C := RX9) 1 hts fm_139 fm_140 fm_141 fm_142 fm_6 rfl rfl ⟨by decide, by decide, by decide +kernel⟩ ⟨Nat.le_of_ble_eq_true rfl, Nat.le_of_ble_eq_true rfl⟩) (va_recv hK hP (ci := 13) (q0 := 31) rfl rfl) (fun _ h9 => h9) (fun a9 h9 => hA a9 (Nat.le_trans hS.1 h9)) hG hS hP hK hD rfl hl.1 rfl (Nat.le_of_ble_eq_true rfl) dX9_copyPart_2 ⟨Nat.le_of_ble_eq_true rfl, Nat.le_of_ble_eq_true rfl⟩ ht hlocks (fun E hE => by obtain ⟨rfl, h9⟩ := hE; exact ⟨rfl, trivial⟩) ⟨Nat.le_of_ble_eq_true rfl, Nat.le_of_ble_eq_true rfl⟩ (fun u_1 H locs hw hz1 hk1 hP hS => ?_)
  have hP : va_P D vwCl (fz_WC k q f pa v) H := hP
  exact (show False from hw).elim

set_option maxHeartbeats 4000000 in
set_option maxRecDepth 100000 in
theorem c_request (l : Launch) (hl0 : l.stackTraces = false) (A : Nat → Prop) (D : va_G) (k : Nat → ClassId) (q : Nat → Nat) (f : Nat → Nat → Int32) (pa : Nat → Option Nat) (v : Nat → Int32) (p0 p1 p2 : Int32) (g_v_1 : v 1 = 1) (g_f_4_0 : f 4 0 = 0) (g_f_7_0 : f 7 0 = 0)  :
    vx_Met l yX9_request (fz_ws yX9_request cX9_request 6 (some .int)) { frames := 24, cells := 2, slots := 12, locals := 320 } (va_Pc [.ref (q 31), .int p0, .int p1, .int p2] (fz_PC A D (fz_tys k) (fz_WC k q f pa v))) (fz_QI D A (fun (_ : Unit) => ([] : va_W)) (fun (r : Int32) (_ : Unit) => r = 0)) (fz_XC (fun E => (E = "java/lang/IndexOutOfBoundsException" ∧ (¬ ((0 ≤ p0 ∧ p0 ≤ 7)) ∨ ¬ (p1 = 0))) ∨ (E = "java/lang/IllegalArgumentException" ∧ ((0 ≤ p0 ∧ p0 ≤ 7) ∧ p1 = 0))) A) 2 12 A := by
  refine fz_ofX (by decide +kernel) (Nat.le_of_ble_eq_true rfl) ?_
  intro p e s m below meth c hx hb hr hml hown hlocks hts ht hA hP hK hD hG hS ls hl
  have hown : s.vm.findClass RX9 = some m.cls := hown
  have S0 : CallFix p m c cX9_request 6 s [.ref (q 31), .int p0, .int p1, .int p2].toArray (fz_ws yX9_request cX9_request 6 (some .int)) RX9 := ⟨hx, hb, hml, hown, hts⟩
  have hl : lv_has ls 6 [(0, .ref (q 31)), (1, .int p0), (2, .int p1), (3, .int p2)] := hl
  refine lv_iload_n hx hb dX9_request_0 rfl (lv_at hl 1 rfl) ?_
  refine lv_if_lt (tgt := 10) hx hb dX9_request_1 (by decide) (fun c_1 => ?_) (fun c_1 => ?_)
  · skip
    exact fz_throwW (cls := "java/lang/IndexOutOfBoundsException") (text := "no such reader") (names := fz_EN) (ik := 161) (is := 328) (ic := 165) hx hb hl0 hown hts hG (fz_fit_165) ⟨fm_16, fm_17⟩ (by decide) fz_at_165 fz_ok_165 hS (hl.1.trans hml.symm) dX9_request_10 dX9_request_13 dX9_request_14 dX9_request_17 dX9_request_20 ht hlocks ⟨Nat.le_of_ble_eq_true rfl, Nat.le_of_ble_eq_true rfl, Nat.le_of_ble_eq_true rfl, Nat.le_of_ble_eq_true rfl⟩ (Or.inl ⟨rfl, (fq_60 p0 p1 c_1)⟩) ⟨Nat.le_of_ble_eq_true rfl, Nat.le_of_ble_eq_true rfl⟩
  · skip
    refine lv_iload_n hx hb dX9_request_4 rfl (lv_at hl 1 rfl) ?_
    refine lv_bipush (v := 8) hx hb dX9_request_5 (by decide) ?_
    refine lv_icmp_lt (tgt := 21) hx hb dX9_request_7 (by decide) (fun c_2 => ?_) (fun c_2 => ?_)
    · skip
      refine lv_aload_n hx hb dX9_request_21 rfl (lv_at hl 0 rfl) ?_
      refine lv_iload_n hx hb dX9_request_22 rfl (lv_at hl 2 rfl) ?_
      refine fz_xVv (As := [.int p1]) (rest := []) S0 (c_reqNode l hl0 A D k q f pa v p1 g_v_1 g_f_4_0) (fz_cwV (C := RX9) 1 hts fm_100 fm_101 fm_102 fm_103 fm_6 rfl rfl ⟨by decide, by decide, by decide +kernel⟩ ⟨Nat.le_of_ble_eq_true rfl, Nat.le_of_ble_eq_true rfl⟩) (va_recv hK hP (ci := 13) (q0 := 31) rfl rfl) (fun _ h9 => h9) (fun a9 h9 => hA a9 (Nat.le_trans hS.1 h9)) hG hS hP hK hD rfl hl.1 rfl (Nat.le_of_ble_eq_true rfl) dX9_request_23 ⟨Nat.le_of_ble_eq_true rfl, Nat.le_of_ble_eq_true rfl⟩ ht hlocks (fun E hE => by obtain ⟨rfl, h9⟩ := hE; exact (Or.inl ⟨rfl, (fq_61 p0 p1 h9)⟩)) ⟨Nat.le_of_ble_eq_true rfl, Nat.le_of_ble_eq_true rfl⟩ (fun u_3 H locs hw hz1 hk1 hP hS => ?_)
      have hP : va_P D vwCl (fz_WC k q f pa v) H := hP
      have hq_3 : p1 = 0 := hw
      obtain rfl : p1 = 0 := (fq_27 p1 hq_3)
      refine lv_aload_n hx hb dX9_request_26 rfl (lv_at hl 0 rfl) ?_
      refine lv_iload_n hx hb dX9_request_27 rfl (lv_at hl 2 rfl) ?_
      refine fz_xVv (As := [.int 0]) (rest := []) S0 (c_reqUnit l hl0 A D k q f pa v g_f_7_0) (fz_cwV (C := RX9) 1 hts fm_149 fm_150 fm_151 fm_152 fm_6 rfl rfl ⟨by decide, by decide, by decide +kernel⟩ ⟨Nat.le_of_ble_eq_true rfl, Nat.le_of_ble_eq_true rfl⟩) (va_recv hK hP (ci := 13) (q0 := 31) rfl rfl) (fun _ h9 => h9) (fun a9 h9 => hA a9 (Nat.le_trans hS.1 h9)) hG hS hP hK hD rfl hl.1 rfl (Nat.le_of_ble_eq_true rfl) dX9_request_28 ⟨Nat.le_of_ble_eq_true rfl, Nat.le_of_ble_eq_true rfl⟩ ht hlocks (fun E hE => by obtain ⟨rfl, h9⟩ := hE; exact (Or.inr ⟨rfl, (fq_62 p0 c_1 c_2)⟩)) ⟨Nat.le_of_ble_eq_true rfl, Nat.le_of_ble_eq_true rfl⟩ (fun u_4 H locs hw hz1 hk1 hP hS => ?_)
      have hP : va_P D vwCl (fz_WC k q f pa v) H := hP
      exact (show False from hw).elim
    · skip
      exact fz_throwW (cls := "java/lang/IndexOutOfBoundsException") (text := "no such reader") (names := fz_EN) (ik := 161) (is := 328) (ic := 165) hx hb hl0 hown hts hG (fz_fit_165) ⟨fm_16, fm_17⟩ (by decide) fz_at_165 fz_ok_165 hS (hl.1.trans hml.symm) dX9_request_10 dX9_request_13 dX9_request_14 dX9_request_17 dX9_request_20 ht hlocks ⟨Nat.le_of_ble_eq_true rfl, Nat.le_of_ble_eq_true rfl, Nat.le_of_ble_eq_true rfl, Nat.le_of_ble_eq_true rfl⟩ (Or.inl ⟨rfl, (fq_63 p0 p1 c_2)⟩) ⟨Nat.le_of_ble_eq_true rfl, Nat.le_of_ble_eq_true rfl⟩

set_option maxHeartbeats 4000000 in
set_option maxRecDepth 100000 in
theorem c_requestPart (l : Launch) (hl0 : l.stackTraces = false) (A : Nat → Prop) (D : va_G) (k : Nat → ClassId) (q : Nat → Nat) (f : Nat → Nat → Int32) (pa : Nat → Option Nat) (v : Nat → Int32) (p0 p1 : Int32) (g_v_8 : v 8 = 0)  :
    vx_Met l yX9_requestPart (fz_ws yX9_requestPart cX9_requestPart 3 (some .int)) { frames := 24, cells := 1, slots := 6, locals := 320 } (va_Pc [.ref (q 31), .int p0, .int p1] (fz_PC A D (fz_tys k) (fz_WC k q f pa v))) (fz_QI D A (fun (_ : Unit) => ([] : va_W)) (fun (r : Int32) (_ : Unit) => r = 0)) (fz_XC (fun E => (E = "java/lang/IndexOutOfBoundsException" ∧ True)) A) 1 6 A := by
  refine fz_ofX (by decide +kernel) (Nat.le_of_ble_eq_true rfl) ?_
  intro p e s m below meth c hx hb hr hml hown hlocks hts ht hA hP hK hD hG hS ls hl
  have hown : s.vm.findClass RX9 = some m.cls := hown
  have S0 : CallFix p m c cX9_requestPart 3 s [.ref (q 31), .int p0, .int p1].toArray (fz_ws yX9_requestPart cX9_requestPart 3 (some .int)) RX9 := ⟨hx, hb, hml, hown, hts⟩
  have hl : lv_has ls 3 [(0, .ref (q 31)), (1, .int p0), (2, .int p1)] := hl
  refine lv_aload_n hx hb dX9_requestPart_0 rfl (lv_at hl 0 rfl) ?_
  refine lv_iload_n hx hb dX9_requestPart_1 rfl (lv_at hl 1 rfl) ?_
  refine fz_xVv (As := [.int p0]) (rest := []) S0 (c_reqRequest l hl0 A D k q f pa v p0 g_v_8) (fz_cwV (C := RX9) 1 hts fm_153 fm_154 fm_155 fm_156 fm_6 rfl rfl ⟨by decide, by decide, by decide +kernel⟩ ⟨Nat.le_of_ble_eq_true rfl, Nat.le_of_ble_eq_true rfl⟩) (va_recv hK hP (ci := 13) (q0 := 31) rfl rfl) (fun _ h9 => h9) (fun a9 h9 => hA a9 (Nat.le_trans hS.1 h9)) hG hS hP hK hD rfl hl.1 rfl (Nat.le_of_ble_eq_true rfl) dX9_requestPart_2 ⟨Nat.le_of_ble_eq_true rfl, Nat.le_of_ble_eq_true rfl⟩ ht hlocks (fun E hE => by obtain ⟨rfl, h9⟩ := hE; exact ⟨rfl, trivial⟩) ⟨Nat.le_of_ble_eq_true rfl, Nat.le_of_ble_eq_true rfl⟩ (fun u_1 H locs hw hz1 hk1 hP hS => ?_)
  have hP : va_P D vwCl (fz_WC k q f pa v) H := hP
  exact (show False from hw).elim

set_option maxHeartbeats 4000000 in
set_option maxRecDepth 100000 in
theorem c_cancel (l : Launch) (hl0 : l.stackTraces = false) (A : Nat → Prop) (D : va_G) (k : Nat → ClassId) (q : Nat → Nat) (f : Nat → Nat → Int32) (pa : Nat → Option Nat) (v : Nat → Int32) (p0 : Int32) (g_v_8 : v 8 = 0)  :
    vx_Met l yX9_cancel (fz_ws yX9_cancel cX9_cancel 2 (some .int)) { frames := 24, cells := 1, slots := 6, locals := 320 } (va_Pc [.ref (q 31), .int p0] (fz_PC A D (fz_tys k) (fz_WC k q f pa v))) (fz_QI D A (fun (_ : Unit) => ([] : va_W)) (fun (r : Int32) (_ : Unit) => r = 0)) (fz_XC (fun E => (E = "java/lang/IndexOutOfBoundsException" ∧ True)) A) 1 6 A := by
  refine fz_ofX (by decide +kernel) (Nat.le_of_ble_eq_true rfl) ?_
  intro p e s m below meth c hx hb hr hml hown hlocks hts ht hA hP hK hD hG hS ls hl
  have hown : s.vm.findClass RX9 = some m.cls := hown
  have S0 : CallFix p m c cX9_cancel 2 s [.ref (q 31), .int p0].toArray (fz_ws yX9_cancel cX9_cancel 2 (some .int)) RX9 := ⟨hx, hb, hml, hown, hts⟩
  have hl : lv_has ls 2 [(0, .ref (q 31)), (1, .int p0)] := hl
  refine lv_aload_n hx hb dX9_cancel_0 rfl (lv_at hl 0 rfl) ?_
  refine lv_iload_n hx hb dX9_cancel_1 rfl (lv_at hl 1 rfl) ?_
  refine fz_xVv (As := [.int p0]) (rest := []) S0 (c_reqRequest l hl0 A D k q f pa v p0 g_v_8) (fz_cwV (C := RX9) 1 hts fm_153 fm_154 fm_155 fm_156 fm_6 rfl rfl ⟨by decide, by decide, by decide +kernel⟩ ⟨Nat.le_of_ble_eq_true rfl, Nat.le_of_ble_eq_true rfl⟩) (va_recv hK hP (ci := 13) (q0 := 31) rfl rfl) (fun _ h9 => h9) (fun a9 h9 => hA a9 (Nat.le_trans hS.1 h9)) hG hS hP hK hD rfl hl.1 rfl (Nat.le_of_ble_eq_true rfl) dX9_cancel_2 ⟨Nat.le_of_ble_eq_true rfl, Nat.le_of_ble_eq_true rfl⟩ ht hlocks (fun E hE => by obtain ⟨rfl, h9⟩ := hE; exact ⟨rfl, trivial⟩) ⟨Nat.le_of_ble_eq_true rfl, Nat.le_of_ble_eq_true rfl⟩ (fun u_1 H locs hw hz1 hk1 hP hS => ?_)
  have hP : va_P D vwCl (fz_WC k q f pa v) H := hP
  exact (show False from hw).elim

set_option maxHeartbeats 4000000 in
set_option maxRecDepth 100000 in
theorem c_account (l : Launch) (hl0 : l.stackTraces = false) (A : Nat → Prop) (D : va_G) (k : Nat → ClassId) (q : Nat → Nat) (f : Nat → Nat → Int32) (pa : Nat → Option Nat) (v : Nat → Int32) (p0 : Int32) (g_v_2 : v 2 = 1) (g_f_2_0 : f 2 0 = 0) (g_f_7_0 : f 7 0 = 0) (g_f_6_0 : f 6 0 = 0) (g_v_4 : v 4 = 0) (g_v_5 : v 5 = 0) (g_v_7 : v 7 = 0) (g_v_8 : v 8 = 0) (g_v_6 : v 6 = 0)  :
    vx_Met l yX9_account (fz_ws yX9_account cX9_account 2 (some .int)) { frames := 24, cells := 1, slots := 6, locals := 320 } (va_Pc [.ref (q 31), .int p0] (fz_PC A D (fz_tys k) (fz_WC k q f pa v))) (fz_QI D A (fun (_ : Unit) => ([] : va_W)) (fun (r : Int32) (_ : Unit) => (r = 1 ∧ p0 = 0) ∨ (r = 0 ∧ (1 ≤ p0 ∧ p0 ≤ 9)))) (fz_XC (fun E => (E = "java/lang/IllegalArgumentException" ∧ ¬ ((0 ≤ p0 ∧ p0 ≤ 9)))) A) 1 6 A := by
  refine fz_ofX (by decide +kernel) (Nat.le_of_ble_eq_true rfl) ?_
  intro p e s m below meth c hx hb hr hml hown hlocks hts ht hA hP hK hD hG hS ls hl
  have hown : s.vm.findClass RX9 = some m.cls := hown
  have S0 : CallFix p m c cX9_account 2 s [.ref (q 31), .int p0].toArray (fz_ws yX9_account cX9_account 2 (some .int)) RX9 := ⟨hx, hb, hml, hown, hts⟩
  have hl : lv_has ls 2 [(0, .ref (q 31)), (1, .int p0)] := hl
  refine lv_iload_n hx hb dX9_account_0 rfl (lv_at hl 1 rfl) ?_
  refine lv_bipush (v := 9) hx hb dX9_account_1 (by decide) ?_
  refine fz_xSv (As := [.int p0, .int 9]) (rest := []) S0 (c_reqPart l hl0 A D k q f pa v p0 9) (fz_cwS 2 hts fm_105 fm_106 fm_107 fm_6 rfl rfl ⟨by decide, by decide, by decide +kernel⟩ ⟨Nat.le_of_ble_eq_true rfl, Nat.le_of_ble_eq_true rfl⟩) (fun _ h9 => h9) (fun a9 h9 => hA a9 (Nat.le_trans hS.1 h9)) hG hS hP hK hD rfl hl.1 rfl (Nat.le_of_ble_eq_true rfl) dX9_account_3 ⟨Nat.le_of_ble_eq_true rfl, Nat.le_of_ble_eq_true rfl⟩ ht hlocks (fun E hE => by obtain ⟨rfl, h9⟩ := hE; exact ⟨rfl, (fq_64 p0 h9)⟩) ⟨Nat.le_of_ble_eq_true rfl, Nat.le_of_ble_eq_true rfl⟩ (fun u_1 H locs hw hz1 hk1 hP hS => ?_)
  have hP : va_P D vwCl (fz_WC k q f pa v) H := hP
  have hq_1 : (0 ≤ p0 ∧ p0 ≤ 9) := hw
  refine lv_iload_n hx hb dX9_account_6 rfl (lv_at hl 1 rfl) ?_
  by_cases c_2_0 : p0 = 0
  · subst c_2_0
    refine lv_tableIn (off := 49) (tgt := 56) hx hb dX9_account_7 (by decide) (by decide) rfl (by decide) ?_
    refine lv_aload_n hx hb dX9_account_56 rfl (lv_at hl 0 rfl) ?_
    refine va_get (D := D) (ci := 13) (v := .ref (q 0)) (C := RX9) (T := TX9) (N := 8) hx hb hts (fun w9 h9 => fz_m (fin_X9 w9 h9)) hown hK hP 31 rfl rfl 0 (by decide) (hts _ (fz_m fm_9)) (fun _ h9 => h9) rfl dX9_account_57 ?_
    refine va_get (D := D) (ci := 11) (v := .ref (q 1)) (C := RX7) (T := TX7) (N := 6) hx hb hts (fun w9 h9 => fz_m (fin_X7 w9 h9)) hown hK hP 0 rfl rfl 0 (by decide) (hts _ (fz_m fm_10)) (fun _ h9 => h9) rfl dX9_account_60 ?_
    refine va_get (D := D) (ci := 12) (v := .int (v 2)) (C := RX8) (T := TX8) (N := 10) hx hb hts (fun w9 h9 => fz_m (fin_X8 w9 h9)) hown hK hP 1 rfl rfl 1 (by decide) (hts _ (fz_m fm_157)) (fun _ h9 => h9) rfl dX9_account_63 ?_
    refine fz_I (y := 1) g_v_2 ?_
    have hP : va_P D vwCl [] H := fz_nil
    exact vx_ret (fz_iret hx hb hr rfl hlocks hS dX9_account_66 () (Or.inl ⟨rfl, (fq_3 )⟩) hP (Nat.le_of_ble_eq_true rfl) (Nat.le_of_ble_eq_true rfl))
  by_cases c_2_1 : p0 = 1
  · subst c_2_1
    refine lv_tableIn (off := 60) (tgt := 67) hx hb dX9_account_7 (by decide) (by decide) rfl (by decide) ?_
    refine lv_aload_n hx hb dX9_account_67 rfl (lv_at hl 0 rfl) ?_
    refine va_get (D := D) (ci := 13) (v := .ref (q 0)) (C := RX9) (T := TX9) (N := 8) hx hb hts (fun w9 h9 => fz_m (fin_X9 w9 h9)) hown hK hP 31 rfl rfl 0 (by decide) (hts _ (fz_m fm_9)) (fun _ h9 => h9) rfl dX9_account_68 ?_
    refine va_get (D := D) (ci := 11) (v := .ref (q 1)) (C := RX7) (T := TX7) (N := 6) hx hb hts (fun w9 h9 => fz_m (fin_X7 w9 h9)) hown hK hP 0 rfl rfl 0 (by decide) (hts _ (fz_m fm_10)) (fun _ h9 => h9) rfl dX9_account_71 ?_
    refine fz_cVi (As := []) (rest := []) S0 (c_countUnits l A D k q f pa v g_v_2 g_f_2_0 g_f_7_0) (fz_cwV (C := RX8) 0 hts fm_158 fm_159 fm_160 fm_161 fm_15 rfl rfl ⟨by decide, by decide, by decide +kernel⟩ ⟨Nat.le_of_ble_eq_true rfl, Nat.le_of_ble_eq_true rfl⟩) (va_recv hK hP (ci := 12) (q0 := 1) rfl rfl) (fun _ h9 => h9) (fun a9 h9 => hA a9 (Nat.le_trans hS.1 h9)) hG hS hP hK hD rfl hl.1 rfl (Nat.le_of_ble_eq_true rfl) dX9_account_74 ⟨Nat.le_of_ble_eq_true rfl, Nat.le_of_ble_eq_true rfl⟩ (fun r_3 u_3 H locs hw hz1 hk1 hP hS => ?_)
    have hP : va_P D vwCl (fz_WC k q f pa v) H := hP
    obtain rfl : r_3 = 0 := hw
    have hP : va_P D vwCl [] H := fz_nil
    exact vx_ret (fz_iret hx hb hr rfl hlocks hS dX9_account_77 () (Or.inr ⟨rfl, (fq_65 )⟩) hP (Nat.le_of_ble_eq_true rfl) (Nat.le_of_ble_eq_true rfl))
  by_cases c_2_2 : p0 = 2
  · subst c_2_2
    refine lv_tableIn (off := 71) (tgt := 78) hx hb dX9_account_7 (by decide) (by decide) rfl (by decide) ?_
    refine lv_aload_n hx hb dX9_account_78 rfl (lv_at hl 0 rfl) ?_
    refine va_get (D := D) (ci := 13) (v := .ref (q 0)) (C := RX9) (T := TX9) (N := 8) hx hb hts (fun w9 h9 => fz_m (fin_X9 w9 h9)) hown hK hP 31 rfl rfl 0 (by decide) (hts _ (fz_m fm_9)) (fun _ h9 => h9) rfl dX9_account_79 ?_
    refine va_get (D := D) (ci := 11) (v := .ref (q 1)) (C := RX7) (T := TX7) (N := 6) hx hb hts (fun w9 h9 => fz_m (fin_X7 w9 h9)) hown hK hP 0 rfl rfl 0 (by decide) (hts _ (fz_m fm_10)) (fun _ h9 => h9) rfl dX9_account_82 ?_
    refine lv_iconst (v := 0) hx hb dX9_account_85 (by decide) ?_
    refine fz_cVi (As := [.int 0]) (rest := []) S0 (c_countPages l A D k q f pa v g_v_2 g_f_6_0 g_f_2_0 g_f_7_0) (fz_cwV (C := RX8) 1 hts fm_117 fm_118 fm_119 fm_120 fm_15 rfl rfl ⟨by decide, by decide, by decide +kernel⟩ ⟨Nat.le_of_ble_eq_true rfl, Nat.le_of_ble_eq_true rfl⟩) (va_recv hK hP (ci := 12) (q0 := 1) rfl rfl) (fun _ h9 => h9) (fun a9 h9 => hA a9 (Nat.le_trans hS.1 h9)) hG hS hP hK hD rfl hl.1 rfl (Nat.le_of_ble_eq_true rfl) dX9_account_86 ⟨Nat.le_of_ble_eq_true rfl, Nat.le_of_ble_eq_true rfl⟩ (fun r_4 u_4 H locs hw hz1 hk1 hP hS => ?_)
    have hP : va_P D vwCl (fz_WC k q f pa v) H := hP
    obtain rfl : r_4 = 0 := hw
    have hP : va_P D vwCl [] H := fz_nil
    exact vx_ret (fz_iret hx hb hr rfl hlocks hS dX9_account_89 () (Or.inr ⟨rfl, (fq_66 )⟩) hP (Nat.le_of_ble_eq_true rfl) (Nat.le_of_ble_eq_true rfl))
  by_cases c_2_3 : p0 = 3
  · subst c_2_3
    refine lv_tableIn (off := 83) (tgt := 90) hx hb dX9_account_7 (by decide) (by decide) rfl (by decide) ?_
    refine lv_aload_n hx hb dX9_account_90 rfl (lv_at hl 0 rfl) ?_
    refine va_get (D := D) (ci := 13) (v := .ref (q 0)) (C := RX9) (T := TX9) (N := 8) hx hb hts (fun w9 h9 => fz_m (fin_X9 w9 h9)) hown hK hP 31 rfl rfl 0 (by decide) (hts _ (fz_m fm_9)) (fun _ h9 => h9) rfl dX9_account_91 ?_
    refine va_get (D := D) (ci := 11) (v := .ref (q 14)) (C := RX7) (T := TX7) (N := 6) hx hb hts (fun w9 h9 => fz_m (fin_X7 w9 h9)) hown hK hP 0 rfl rfl 2 (by decide) (hts _ (fz_m fm_21)) (fun _ h9 => h9) rfl dX9_account_94 ?_
    refine va_get (D := D) (ci := 4) (v := .int (v 4)) (C := RX0) (T := TX0) (N := 9) hx hb hts (fun w9 h9 => fz_m (fin_X0 w9 h9)) hown hK hP 14 rfl rfl 1 (by decide) (hts _ (fz_m fm_162)) (fun _ h9 => h9) rfl dX9_account_97 ?_
    refine fz_I (y := 0) g_v_4 ?_
    have hP : va_P D vwCl [] H := fz_nil
    exact vx_ret (fz_iret hx hb hr rfl hlocks hS dX9_account_100 () (Or.inr ⟨rfl, (fq_67 )⟩) hP (Nat.le_of_ble_eq_true rfl) (Nat.le_of_ble_eq_true rfl))
  by_cases c_2_4 : p0 = 4
  · subst c_2_4
    refine lv_tableIn (off := 94) (tgt := 101) hx hb dX9_account_7 (by decide) (by decide) rfl (by decide) ?_
    refine lv_aload_n hx hb dX9_account_101 rfl (lv_at hl 0 rfl) ?_
    refine va_get (D := D) (ci := 13) (v := .ref (q 0)) (C := RX9) (T := TX9) (N := 8) hx hb hts (fun w9 h9 => fz_m (fin_X9 w9 h9)) hown hK hP 31 rfl rfl 0 (by decide) (hts _ (fz_m fm_9)) (fun _ h9 => h9) rfl dX9_account_102 ?_
    refine va_get (D := D) (ci := 11) (v := .ref (q 14)) (C := RX7) (T := TX7) (N := 6) hx hb hts (fun w9 h9 => fz_m (fin_X7 w9 h9)) hown hK hP 0 rfl rfl 2 (by decide) (hts _ (fz_m fm_21)) (fun _ h9 => h9) rfl dX9_account_105 ?_
    refine va_get (D := D) (ci := 4) (v := .int (v 5)) (C := RX0) (T := TX0) (N := 9) hx hb hts (fun w9 h9 => fz_m (fin_X0 w9 h9)) hown hK hP 14 rfl rfl 2 (by decide) (hts _ (fz_m fm_163)) (fun _ h9 => h9) rfl dX9_account_108 ?_
    refine fz_I (y := 0) g_v_5 ?_
    have hP : va_P D vwCl [] H := fz_nil
    exact vx_ret (fz_iret hx hb hr rfl hlocks hS dX9_account_111 () (Or.inr ⟨rfl, (fq_68 )⟩) hP (Nat.le_of_ble_eq_true rfl) (Nat.le_of_ble_eq_true rfl))
  by_cases c_2_5 : p0 = 5
  · subst c_2_5
    refine lv_tableIn (off := 105) (tgt := 112) hx hb dX9_account_7 (by decide) (by decide) rfl (by decide) ?_
    refine lv_aload_n hx hb dX9_account_112 rfl (lv_at hl 0 rfl) ?_
    refine va_get (D := D) (ci := 13) (v := .ref (q 0)) (C := RX9) (T := TX9) (N := 8) hx hb hts (fun w9 h9 => fz_m (fin_X9 w9 h9)) hown hK hP 31 rfl rfl 0 (by decide) (hts _ (fz_m fm_9)) (fun _ h9 => h9) rfl dX9_account_113 ?_
    refine va_get (D := D) (ci := 11) (v := .ref (q 23)) (C := RX7) (T := TX7) (N := 6) hx hb hts (fun w9 h9 => fz_m (fin_X7 w9 h9)) hown hK hP 0 rfl rfl 3 (by decide) (hts _ (fz_m fm_27)) (fun _ h9 => h9) rfl dX9_account_116 ?_
    refine fz_cVi (As := []) (rest := []) S0 (c_countPresent l A D k q f pa v g_v_7) (fz_cwV (C := RX1) 0 hts fm_164 fm_165 fm_166 fm_167 fm_32 rfl rfl ⟨by decide, by decide, by decide +kernel⟩ ⟨Nat.le_of_ble_eq_true rfl, Nat.le_of_ble_eq_true rfl⟩) (va_recv hK hP (ci := 5) (q0 := 23) rfl rfl) (fun _ h9 => h9) (fun a9 h9 => hA a9 (Nat.le_trans hS.1 h9)) hG hS hP hK hD rfl hl.1 rfl (Nat.le_of_ble_eq_true rfl) dX9_account_119 ⟨Nat.le_of_ble_eq_true rfl, Nat.le_of_ble_eq_true rfl⟩ (fun r_5 u_5 H locs hw hz1 hk1 hP hS => ?_)
    have hP : va_P D vwCl (fz_WC k q f pa v) H := hP
    obtain rfl : r_5 = 0 := hw
    have hP : va_P D vwCl [] H := fz_nil
    exact vx_ret (fz_iret hx hb hr rfl hlocks hS dX9_account_122 () (Or.inr ⟨rfl, (fq_69 )⟩) hP (Nat.le_of_ble_eq_true rfl) (Nat.le_of_ble_eq_true rfl))
  by_cases c_2_6 : p0 = 6
  · subst c_2_6
    refine lv_tableIn (off := 116) (tgt := 123) hx hb dX9_account_7 (by decide) (by decide) rfl (by decide) ?_
    refine lv_aload_n hx hb dX9_account_123 rfl (lv_at hl 0 rfl) ?_
    refine va_get (D := D) (ci := 13) (v := .ref (q 0)) (C := RX9) (T := TX9) (N := 8) hx hb hts (fun w9 h9 => fz_m (fin_X9 w9 h9)) hown hK hP 31 rfl rfl 0 (by decide) (hts _ (fz_m fm_9)) (fun _ h9 => h9) rfl dX9_account_124 ?_
    refine va_get (D := D) (ci := 11) (v := .ref (q 26)) (C := RX7) (T := TX7) (N := 6) hx hb hts (fun w9 h9 => fz_m (fin_X7 w9 h9)) hown hK hP 0 rfl rfl 4 (by decide) (hts _ (fz_m fm_33)) (fun _ h9 => h9) rfl dX9_account_127 ?_
    refine va_get (D := D) (ci := 9) (v := .int (v 8)) (C := RX5) (T := TX5) (N := 5) hx hb hts (fun w9 h9 => fz_m (fin_X5 w9 h9)) hown hK hP 26 rfl rfl 0 (by decide) (hts _ (fz_m fm_34)) (fun _ h9 => h9) rfl dX9_account_130 ?_
    refine fz_I (y := 0) g_v_8 ?_
    have hP : va_P D vwCl [] H := fz_nil
    exact vx_ret (fz_iret hx hb hr rfl hlocks hS dX9_account_133 () (Or.inr ⟨rfl, (fq_70 )⟩) hP (Nat.le_of_ble_eq_true rfl) (Nat.le_of_ble_eq_true rfl))
  by_cases c_2_7 : p0 = 7
  · subst c_2_7
    refine lv_tableIn (off := 127) (tgt := 134) hx hb dX9_account_7 (by decide) (by decide) rfl (by decide) ?_
    refine lv_aload_n hx hb dX9_account_134 rfl (lv_at hl 0 rfl) ?_
    refine va_get (D := D) (ci := 13) (v := .ref (q 0)) (C := RX9) (T := TX9) (N := 8) hx hb hts (fun w9 h9 => fz_m (fin_X9 w9 h9)) hown hK hP 31 rfl rfl 0 (by decide) (hts _ (fz_m fm_9)) (fun _ h9 => h9) rfl dX9_account_135 ?_
    refine fz_cVi (As := []) (rest := []) S0 (c_countAllShown l A D k q f pa v g_v_8) (fz_cwV (C := RX7) 0 hts fm_168 fm_169 fm_170 fm_171 fm_172 rfl rfl ⟨by decide, by decide, by decide +kernel⟩ ⟨Nat.le_of_ble_eq_true rfl, Nat.le_of_ble_eq_true rfl⟩) (va_recv hK hP (ci := 11) (q0 := 0) rfl rfl) (fun _ h9 => h9) (fun a9 h9 => hA a9 (Nat.le_trans hS.1 h9)) hG hS hP hK hD rfl hl.1 rfl (Nat.le_of_ble_eq_true rfl) dX9_account_138 ⟨Nat.le_of_ble_eq_true rfl, Nat.le_of_ble_eq_true rfl⟩ (fun r_6 u_6 H locs hw hz1 hk1 hP hS => ?_)
    have hP : va_P D vwCl (fz_WC k q f pa v) H := hP
    obtain rfl : r_6 = 0 := hw
    have hP : va_P D vwCl [] H := fz_nil
    exact vx_ret (fz_iret hx hb hr rfl hlocks hS dX9_account_141 () (Or.inr ⟨rfl, (fq_71 )⟩) hP (Nat.le_of_ble_eq_true rfl) (Nat.le_of_ble_eq_true rfl))
  by_cases c_2_8 : p0 = 8
  · subst c_2_8
    refine lv_tableIn (off := 135) (tgt := 142) hx hb dX9_account_7 (by decide) (by decide) rfl (by decide) ?_
    refine lv_aload_n hx hb dX9_account_142 rfl (lv_at hl 0 rfl) ?_
    refine va_get (D := D) (ci := 13) (v := .ref (q 0)) (C := RX9) (T := TX9) (N := 8) hx hb hts (fun w9 h9 => fz_m (fin_X9 w9 h9)) hown hK hP 31 rfl rfl 0 (by decide) (hts _ (fz_m fm_9)) (fun _ h9 => h9) rfl dX9_account_143 ?_
    refine va_get (D := D) (ci := 11) (v := .ref (q 26)) (C := RX7) (T := TX7) (N := 6) hx hb hts (fun w9 h9 => fz_m (fin_X7 w9 h9)) hown hK hP 0 rfl rfl 4 (by decide) (hts _ (fz_m fm_33)) (fun _ h9 => h9) rfl dX9_account_146 ?_
    refine lv_iconst (v := (-1)) hx hb dX9_account_149 (by decide) ?_
    refine fz_cVi (As := [.int (-1)]) (rest := []) S0 (c_countShowing l A D k q f pa v (-1) g_v_8) (fz_cwV (C := RX5) 1 hts fm_173 fm_174 fm_175 fm_176 fm_177 rfl rfl ⟨by decide, by decide, by decide +kernel⟩ ⟨Nat.le_of_ble_eq_true rfl, Nat.le_of_ble_eq_true rfl⟩) (va_recv hK hP (ci := 9) (q0 := 26) rfl rfl) (fun _ h9 => h9) (fun a9 h9 => hA a9 (Nat.le_trans hS.1 h9)) hG hS hP hK hD rfl hl.1 rfl (Nat.le_of_ble_eq_true rfl) dX9_account_150 ⟨Nat.le_of_ble_eq_true rfl, Nat.le_of_ble_eq_true rfl⟩ (fun r_7 u_7 H locs hw hz1 hk1 hP hS => ?_)
    have hP : va_P D vwCl (fz_WC k q f pa v) H := hP
    obtain rfl : r_7 = 0 := hw
    have hP : va_P D vwCl [] H := fz_nil
    exact vx_ret (fz_iret hx hb hr rfl hlocks hS dX9_account_153 () (Or.inr ⟨rfl, (fq_72 )⟩) hP (Nat.le_of_ble_eq_true rfl) (Nat.le_of_ble_eq_true rfl))
  obtain rfl : p0 = 9 := (fq_73 p0 hq_1 c_2_0 c_2_1 c_2_2 c_2_3 c_2_4 c_2_5 c_2_6 c_2_7 c_2_8)
  refine lv_tableOut (tgt := 154) hx hb dX9_account_7 (by decide) (by decide) ?_
  refine lv_aload_n hx hb dX9_account_154 rfl (lv_at hl 0 rfl) ?_
  refine va_get (D := D) (ci := 13) (v := .ref (q 0)) (C := RX9) (T := TX9) (N := 8) hx hb hts (fun w9 h9 => fz_m (fin_X9 w9 h9)) hown hK hP 31 rfl rfl 0 (by decide) (hts _ (fz_m fm_9)) (fun _ h9 => h9) rfl dX9_account_155 ?_
  refine va_get (D := D) (ci := 11) (v := .ref (q 14)) (C := RX7) (T := TX7) (N := 6) hx hb hts (fun w9 h9 => fz_m (fin_X7 w9 h9)) hown hK hP 0 rfl rfl 2 (by decide) (hts _ (fz_m fm_21)) (fun _ h9 => h9) rfl dX9_account_158 ?_
  refine va_get (D := D) (ci := 4) (v := .ref (q 20)) (C := RX0) (T := TX0) (N := 9) hx hb hts (fun w9 h9 => fz_m (fin_X0 w9 h9)) hown hK hP 14 rfl rfl 8 (by decide) (hts _ (fz_m fm_178)) (fun _ h9 => h9) rfl dX9_account_161 ?_
  refine lv_aload_n hx hb dX9_account_164 rfl (lv_at hl 0 rfl) ?_
  refine va_get (D := D) (ci := 13) (v := .ref (q 0)) (C := RX9) (T := TX9) (N := 8) hx hb hts (fun w9 h9 => fz_m (fin_X9 w9 h9)) hown hK hP 31 rfl rfl 0 (by decide) (hts _ (fz_m fm_9)) (fun _ h9 => h9) rfl dX9_account_165 ?_
  refine va_get (D := D) (ci := 11) (v := .ref (q 1)) (C := RX7) (T := TX7) (N := 6) hx hb hts (fun w9 h9 => fz_m (fin_X7 w9 h9)) hown hK hP 0 rfl rfl 0 (by decide) (hts _ (fz_m fm_10)) (fun _ h9 => h9) rfl dX9_account_168 ?_
  refine fz_cVi (As := [.ref (q 1)]) (rest := []) S0 (c_countReferring l A D k q f pa v g_v_6) (fz_cwV (C := RX3) 1 hts fm_179 fm_180 fm_181 fm_182 fm_183 rfl rfl ⟨by decide, by decide, by decide +kernel⟩ ⟨Nat.le_of_ble_eq_true rfl, Nat.le_of_ble_eq_true rfl⟩) (va_recv hK hP (ci := 7) (q0 := 20) rfl rfl) (fun _ h9 => h9) (fun a9 h9 => hA a9 (Nat.le_trans hS.1 h9)) hG hS hP hK hD rfl hl.1 rfl (Nat.le_of_ble_eq_true rfl) dX9_account_171 ⟨Nat.le_of_ble_eq_true rfl, Nat.le_of_ble_eq_true rfl⟩ (fun r_8 u_8 H locs hw hz1 hk1 hP hS => ?_)
  have hP : va_P D vwCl (fz_WC k q f pa v) H := hP
  obtain rfl : r_8 = 0 := hw
  have hP : va_P D vwCl [] H := fz_nil
  exact vx_ret (fz_iret hx hb hr rfl hlocks hS dX9_account_174 () (Or.inr ⟨rfl, (fq_74 )⟩) hP (Nat.le_of_ble_eq_true rfl) (Nat.le_of_ble_eq_true rfl))

set_option maxHeartbeats 4000000 in
set_option maxRecDepth 100000 in
theorem c_dayCount (l : Launch) (hl0 : l.stackTraces = false) (A : Nat → Prop) (D : va_G) (k : Nat → ClassId) (q : Nat → Nat) (f : Nat → Nat → Int32) (pa : Nat → Option Nat) (v : Nat → Int32) (p0 p1 : Int32) (g_v_8 : v 8 = 0) (g_v_2 : v 2 = 1) (g_f_2_0 : f 2 0 = 0) (g_f_7_0 : f 7 0 = 0)  :
    vx_Met l yX9_dayCount (fz_ws yX9_dayCount cX9_dayCount 3 (some .int)) { frames := 24, cells := 2, slots := 12, locals := 320 } (va_Pc [.ref (q 31), .int p0, .int p1] (fz_PC A D (fz_tys k) (fz_WC k q f pa v))) (fz_QI D A (fun (_ : Unit) => ([] : va_W)) (fun (r : Int32) (_ : Unit) => r = 0 ∧ ((0 ≤ p0 ∧ p0 ≤ 9999) ∧ (0 ≤ p1 ∧ p1 ≤ 3)))) (fz_XC (fun E => (E = "java/lang/IllegalArgumentException" ∧ (¬ ((0 ≤ p0 ∧ p0 ≤ 9999)) ∨ ¬ ((0 ≤ p1 ∧ p1 ≤ 3))))) A) 2 12 A := by
  refine fz_ofX (by decide +kernel) (Nat.le_of_ble_eq_true rfl) ?_
  intro p e s m below meth c hx hb hr hml hown hlocks hts ht hA hP hK hD hG hS ls hl
  have hown : s.vm.findClass RX9 = some m.cls := hown
  have S0 : CallFix p m c cX9_dayCount 3 s [.ref (q 31), .int p0, .int p1].toArray (fz_ws yX9_dayCount cX9_dayCount 3 (some .int)) RX9 := ⟨hx, hb, hml, hown, hts⟩
  have hl : lv_has ls 3 [(0, .ref (q 31)), (1, .int p0), (2, .int p1)] := hl
  refine lv_iload_n hx hb dX9_dayCount_0 rfl (lv_at hl 1 rfl) ?_
  refine fz_xSv (As := [.int p0]) (rest := []) S0 (c_reqDay l hl0 A D k q f pa v p0) (fz_cwS 1 hts fm_135 fm_136 fm_137 fm_6 rfl rfl ⟨by decide, by decide, by decide +kernel⟩ ⟨Nat.le_of_ble_eq_true rfl, Nat.le_of_ble_eq_true rfl⟩) (fun _ h9 => h9) (fun a9 h9 => hA a9 (Nat.le_trans hS.1 h9)) hG hS hP hK hD rfl hl.1 rfl (Nat.le_of_ble_eq_true rfl) dX9_dayCount_1 ⟨Nat.le_of_ble_eq_true rfl, Nat.le_of_ble_eq_true rfl⟩ ht hlocks (fun E hE => by obtain ⟨rfl, h9⟩ := hE; exact ⟨rfl, (fq_75 p0 p1 h9)⟩) ⟨Nat.le_of_ble_eq_true rfl, Nat.le_of_ble_eq_true rfl⟩ (fun u_1 H locs hw hz1 hk1 hP hS => ?_)
  have hP : va_P D vwCl (fz_WC k q f pa v) H := hP
  have hq_1 : (0 ≤ p0 ∧ p0 ≤ 9999) := hw
  refine lv_iload_n hx hb dX9_dayCount_4 rfl (lv_at hl 2 rfl) ?_
  refine lv_iconst (v := 3) hx hb dX9_dayCount_5 (by decide) ?_
  refine fz_xSv (As := [.int p1, .int 3]) (rest := []) S0 (c_reqPart l hl0 A D k q f pa v p1 3) (fz_cwS 2 hts fm_105 fm_106 fm_107 fm_6 rfl rfl ⟨by decide, by decide, by decide +kernel⟩ ⟨Nat.le_of_ble_eq_true rfl, Nat.le_of_ble_eq_true rfl⟩) (fun _ h9 => h9) (fun a9 h9 => hA a9 (Nat.le_trans hS.1 h9)) hG hS hP hK hD rfl hl.1 rfl (Nat.le_of_ble_eq_true rfl) dX9_dayCount_6 ⟨Nat.le_of_ble_eq_true rfl, Nat.le_of_ble_eq_true rfl⟩ ht hlocks (fun E hE => by obtain ⟨rfl, h9⟩ := hE; exact ⟨rfl, (fq_76 p0 p1 h9)⟩) ⟨Nat.le_of_ble_eq_true rfl, Nat.le_of_ble_eq_true rfl⟩ (fun u_2 H locs hw hz1 hk1 hP hS => ?_)
  have hP : va_P D vwCl (fz_WC k q f pa v) H := hP
  have hq_2 : (0 ≤ p1 ∧ p1 ≤ 3) := hw
  refine lv_iload_n hx hb dX9_dayCount_9 rfl (lv_at hl 2 rfl) ?_
  by_cases c_3_0 : p1 = 0
  · subst c_3_0
    refine lv_tableIn (off := 26) (tgt := 36) hx hb dX9_dayCount_10 (by decide) (by decide) rfl (by decide) ?_
    refine lv_aload_n hx hb dX9_dayCount_36 rfl (lv_at hl 0 rfl) ?_
    refine va_get (D := D) (ci := 13) (v := .ref (q 0)) (C := RX9) (T := TX9) (N := 8) hx hb hts (fun w9 h9 => fz_m (fin_X9 w9 h9)) hown hK hP 31 rfl rfl 0 (by decide) (hts _ (fz_m fm_9)) (fun _ h9 => h9) rfl dX9_dayCount_37 ?_
    refine va_get (D := D) (ci := 11) (v := .ref (q 26)) (C := RX7) (T := TX7) (N := 6) hx hb hts (fun w9 h9 => fz_m (fin_X7 w9 h9)) hown hK hP 0 rfl rfl 4 (by decide) (hts _ (fz_m fm_33)) (fun _ h9 => h9) rfl dX9_dayCount_40 ?_
    refine lv_iload_n hx hb dX9_dayCount_43 rfl (lv_at hl 1 rfl) ?_
    refine fz_cVi (As := [.int p0]) (rest := []) S0 (c_countOn l A D k q f pa v p0 g_v_8) (fz_cwV (C := RX5) 1 hts fm_184 fm_185 fm_186 fm_187 fm_177 rfl rfl ⟨by decide, by decide, by decide +kernel⟩ ⟨Nat.le_of_ble_eq_true rfl, Nat.le_of_ble_eq_true rfl⟩) (va_recv hK hP (ci := 9) (q0 := 26) rfl rfl) (fun _ h9 => h9) (fun a9 h9 => hA a9 (Nat.le_trans hS.1 h9)) hG hS hP hK hD rfl hl.1 rfl (Nat.le_of_ble_eq_true rfl) dX9_dayCount_44 ⟨Nat.le_of_ble_eq_true rfl, Nat.le_of_ble_eq_true rfl⟩ (fun r_4 u_4 H locs hw hz1 hk1 hP hS => ?_)
    have hP : va_P D vwCl (fz_WC k q f pa v) H := hP
    obtain rfl : r_4 = 0 := hw
    have hP : va_P D vwCl [] H := fz_nil
    exact vx_ret (fz_iret hx hb hr rfl hlocks hS dX9_dayCount_47 () ⟨rfl, (fq_77 p0 hq_1)⟩ hP (Nat.le_of_ble_eq_true rfl) (Nat.le_of_ble_eq_true rfl))
  by_cases c_3_1 : p1 = 1
  · subst c_3_1
    refine lv_tableIn (off := 38) (tgt := 48) hx hb dX9_dayCount_10 (by decide) (by decide) rfl (by decide) ?_
    refine lv_aload_n hx hb dX9_dayCount_48 rfl (lv_at hl 0 rfl) ?_
    refine va_get (D := D) (ci := 13) (v := .ref (q 0)) (C := RX9) (T := TX9) (N := 8) hx hb hts (fun w9 h9 => fz_m (fin_X9 w9 h9)) hown hK hP 31 rfl rfl 0 (by decide) (hts _ (fz_m fm_9)) (fun _ h9 => h9) rfl dX9_dayCount_49 ?_
    refine va_get (D := D) (ci := 11) (v := .ref (q 26)) (C := RX7) (T := TX7) (N := 6) hx hb hts (fun w9 h9 => fz_m (fin_X7 w9 h9)) hown hK hP 0 rfl rfl 4 (by decide) (hts _ (fz_m fm_33)) (fun _ h9 => h9) rfl dX9_dayCount_52 ?_
    refine lv_iload_n hx hb dX9_dayCount_55 rfl (lv_at hl 1 rfl) ?_
    refine fz_cVi (As := [.int p0]) (rest := []) S0 (c_countReaders l A D k q f pa v p0 g_v_8) (fz_cwV (C := RX5) 1 hts fm_188 fm_189 fm_190 fm_191 fm_177 rfl rfl ⟨by decide, by decide, by decide +kernel⟩ ⟨Nat.le_of_ble_eq_true rfl, Nat.le_of_ble_eq_true rfl⟩) (va_recv hK hP (ci := 9) (q0 := 26) rfl rfl) (fun _ h9 => h9) (fun a9 h9 => hA a9 (Nat.le_trans hS.1 h9)) hG hS hP hK hD rfl hl.1 rfl (Nat.le_of_ble_eq_true rfl) dX9_dayCount_56 ⟨Nat.le_of_ble_eq_true rfl, Nat.le_of_ble_eq_true rfl⟩ (fun r_5 u_5 H locs hw hz1 hk1 hP hS => ?_)
    have hP : va_P D vwCl (fz_WC k q f pa v) H := hP
    obtain rfl : r_5 = 0 := hw
    have hP : va_P D vwCl [] H := fz_nil
    exact vx_ret (fz_iret hx hb hr rfl hlocks hS dX9_dayCount_59 () ⟨rfl, (fq_78 p0 hq_1)⟩ hP (Nat.le_of_ble_eq_true rfl) (Nat.le_of_ble_eq_true rfl))
  by_cases c_3_2 : p1 = 2
  · subst c_3_2
    refine lv_tableIn (off := 50) (tgt := 60) hx hb dX9_dayCount_10 (by decide) (by decide) rfl (by decide) ?_
    refine lv_aload_n hx hb dX9_dayCount_60 rfl (lv_at hl 0 rfl) ?_
    refine va_get (D := D) (ci := 13) (v := .ref (q 0)) (C := RX9) (T := TX9) (N := 8) hx hb hts (fun w9 h9 => fz_m (fin_X9 w9 h9)) hown hK hP 31 rfl rfl 0 (by decide) (hts _ (fz_m fm_9)) (fun _ h9 => h9) rfl dX9_dayCount_61 ?_
    refine lv_iload_n hx hb dX9_dayCount_64 rfl (lv_at hl 1 rfl) ?_
    refine fz_cVi (As := [.int p0]) (rest := []) S0 (c_countOpenUnits l A D k q f pa v p0 g_v_2 g_f_2_0 g_f_7_0) (fz_cwV (C := RX7) 1 hts fm_192 fm_193 fm_194 fm_195 fm_172 rfl rfl ⟨by decide, by decide, by decide +kernel⟩ ⟨Nat.le_of_ble_eq_true rfl, Nat.le_of_ble_eq_true rfl⟩) (va_recv hK hP (ci := 11) (q0 := 0) rfl rfl) (fun _ h9 => h9) (fun a9 h9 => hA a9 (Nat.le_trans hS.1 h9)) hG hS hP hK hD rfl hl.1 rfl (Nat.le_of_ble_eq_true rfl) dX9_dayCount_65 ⟨Nat.le_of_ble_eq_true rfl, Nat.le_of_ble_eq_true rfl⟩ (fun r_6 u_6 H locs hw hz1 hk1 hP hS => ?_)
    have hP : va_P D vwCl (fz_WC k q f pa v) H := hP
    obtain rfl : r_6 = 0 := hw
    have hP : va_P D vwCl [] H := fz_nil
    exact vx_ret (fz_iret hx hb hr rfl hlocks hS dX9_dayCount_68 () ⟨rfl, (fq_79 p0 hq_1)⟩ hP (Nat.le_of_ble_eq_true rfl) (Nat.le_of_ble_eq_true rfl))
  obtain rfl : p1 = 3 := (fq_80 p1 hq_2 c_3_0 c_3_1 c_3_2)
  refine lv_tableOut (tgt := 69) hx hb dX9_dayCount_10 (by decide) (by decide) ?_
  refine lv_aload_n hx hb dX9_dayCount_69 rfl (lv_at hl 0 rfl) ?_
  refine va_get (D := D) (ci := 13) (v := .ref (q 0)) (C := RX9) (T := TX9) (N := 8) hx hb hts (fun w9 h9 => fz_m (fin_X9 w9 h9)) hown hK hP 31 rfl rfl 0 (by decide) (hts _ (fz_m fm_9)) (fun _ h9 => h9) rfl dX9_dayCount_70 ?_
  refine lv_iload_n hx hb dX9_dayCount_73 rfl (lv_at hl 1 rfl) ?_
  refine fz_cVi (As := [.int p0]) (rest := []) S0 (c_countOpenPages l A D k q f pa v p0 g_v_2 g_f_2_0 g_f_7_0) (fz_cwV (C := RX7) 1 hts fm_196 fm_197 fm_198 fm_199 fm_172 rfl rfl ⟨by decide, by decide, by decide +kernel⟩ ⟨Nat.le_of_ble_eq_true rfl, Nat.le_of_ble_eq_true rfl⟩) (va_recv hK hP (ci := 11) (q0 := 0) rfl rfl) (fun _ h9 => h9) (fun a9 h9 => hA a9 (Nat.le_trans hS.1 h9)) hG hS hP hK hD rfl hl.1 rfl (Nat.le_of_ble_eq_true rfl) dX9_dayCount_74 ⟨Nat.le_of_ble_eq_true rfl, Nat.le_of_ble_eq_true rfl⟩ (fun r_7 u_7 H locs hw hz1 hk1 hP hS => ?_)
  have hP : va_P D vwCl (fz_WC k q f pa v) H := hP
  obtain rfl : r_7 = 0 := hw
  have hP : va_P D vwCl [] H := fz_nil
  exact vx_ret (fz_iret hx hb hr rfl hlocks hS dX9_dayCount_77 () ⟨rfl, (fq_81 p0 hq_1)⟩ hP (Nat.le_of_ble_eq_true rfl) (Nat.le_of_ble_eq_true rfl))

set_option maxHeartbeats 4000000 in
set_option maxRecDepth 100000 in
theorem c_openShare (l : Launch) (hl0 : l.stackTraces = false) (A : Nat → Prop) (D : va_G) (k : Nat → ClassId) (q : Nat → Nat) (f : Nat → Nat → Int32) (pa : Nat → Option Nat) (v : Nat → Int32) (p0 : Int32) (g_v_2 : v 2 = 1) (g_f_6_0 : f 6 0 = 0) (g_f_2_0 : f 2 0 = 0) (g_f_7_0 : f 7 0 = 0)  :
    vx_Met l yX9_openShare (fz_ws yX9_openShare cX9_openShare 3 (some .double)) { frames := 24, cells := 2, slots := 12, locals := 320 } (va_Pc [.ref (q 31), .int p0] (fz_PC A D (fz_tys k) (fz_WC k q f pa v))) (va_Qd (fun (_ : UInt64) (_ : Unit) => False) (fun _ _ => True) A) (fz_XC (fun E => (E = "java/lang/IllegalArgumentException" ∧ ¬ ((0 ≤ p0 ∧ p0 ≤ 9999))) ∨ (E = "java/lang/ArithmeticException" ∧ (0 ≤ p0 ∧ p0 ≤ 9999))) A) 2 12 A := by
  refine fz_ofX (by decide +kernel) (Nat.le_of_ble_eq_true rfl) ?_
  intro p e s m below meth c hx hb hr hml hown hlocks hts ht hA hP hK hD hG hS ls hl
  have hown : s.vm.findClass RX9 = some m.cls := hown
  have S0 : CallFix p m c cX9_openShare 3 s [.ref (q 31), .int p0].toArray (fz_ws yX9_openShare cX9_openShare 3 (some .double)) RX9 := ⟨hx, hb, hml, hown, hts⟩
  have hl : lv_has ls 3 [(0, .ref (q 31)), (1, .int p0)] := hl
  refine lv_iload_n hx hb dX9_openShare_0 rfl (lv_at hl 1 rfl) ?_
  refine fz_xSv (As := [.int p0]) (rest := []) S0 (c_reqDay l hl0 A D k q f pa v p0) (fz_cwS 1 hts fm_135 fm_136 fm_137 fm_6 rfl rfl ⟨by decide, by decide, by decide +kernel⟩ ⟨Nat.le_of_ble_eq_true rfl, Nat.le_of_ble_eq_true rfl⟩) (fun _ h9 => h9) (fun a9 h9 => hA a9 (Nat.le_trans hS.1 h9)) hG hS hP hK hD rfl hl.1 rfl (Nat.le_of_ble_eq_true rfl) dX9_openShare_1 ⟨Nat.le_of_ble_eq_true rfl, Nat.le_of_ble_eq_true rfl⟩ ht hlocks (fun E hE => by obtain ⟨rfl, h9⟩ := hE; exact (Or.inl ⟨rfl, (fq_34 p0 h9)⟩)) ⟨Nat.le_of_ble_eq_true rfl, Nat.le_of_ble_eq_true rfl⟩ (fun u_1 H locs hw hz1 hk1 hP hS => ?_)
  have hP : va_P D vwCl (fz_WC k q f pa v) H := hP
  have hq_1 : (0 ≤ p0 ∧ p0 ≤ 9999) := hw
  refine lv_aload_n hx hb dX9_openShare_4 rfl (lv_at hl 0 rfl) ?_
  refine va_get (D := D) (ci := 13) (v := .ref (q 0)) (C := RX9) (T := TX9) (N := 8) hx hb hts (fun w9 h9 => fz_m (fin_X9 w9 h9)) hown hK hP 31 rfl rfl 0 (by decide) (hts _ (fz_m fm_9)) (fun _ h9 => h9) rfl dX9_openShare_5 ?_
  refine va_get (D := D) (ci := 11) (v := .ref (q 1)) (C := RX7) (T := TX7) (N := 6) hx hb hts (fun w9 h9 => fz_m (fin_X7 w9 h9)) hown hK hP 0 rfl rfl 0 (by decide) (hts _ (fz_m fm_10)) (fun _ h9 => h9) rfl dX9_openShare_8 ?_
  refine lv_iconst (v := 0) hx hb dX9_openShare_11 (by decide) ?_
  refine fz_cVi (As := [.int 0]) (rest := []) S0 (c_countPages l A D k q f pa v g_v_2 g_f_6_0 g_f_2_0 g_f_7_0) (fz_cwV (C := RX8) 1 hts fm_117 fm_118 fm_119 fm_120 fm_15 rfl rfl ⟨by decide, by decide, by decide +kernel⟩ ⟨Nat.le_of_ble_eq_true rfl, Nat.le_of_ble_eq_true rfl⟩) (va_recv hK hP (ci := 12) (q0 := 1) rfl rfl) (fun _ h9 => h9) (fun a9 h9 => hA a9 (Nat.le_trans hS.1 h9)) hG hS hP hK hD rfl hl.1 rfl (Nat.le_of_ble_eq_true rfl) dX9_openShare_12 ⟨Nat.le_of_ble_eq_true rfl, Nat.le_of_ble_eq_true rfl⟩ (fun r_2 u_2 H locs hw hz1 hk1 hP hS => ?_)
  have hP : va_P D vwCl (fz_WC k q f pa v) H := hP
  obtain rfl : r_2 = 0 := hw
  refine lv_istore_n (lv' := [(2, .int 0), (0, .ref (q 31)), (1, .int p0)]) hx hb dX9_openShare_15 rfl hl (by decide) rfl (fun ls hl => ?_)
  refine lv_iload_n hx hb dX9_openShare_16 rfl (lv_at hl 0 rfl) ?_
  refine lv_if_ne (tgt := 31) hx hb dX9_openShare_17 (by decide) (fun c_3 => absurd (by decide) c_3) (fun c_3 => ?_)
  exact fz_throwW (cls := "java/lang/ArithmeticException") (text := "there are no units") (names := fz_EN) (ik := 416) (is := 418) (ic := 420) hx hb hl0 hown hts hG (fz_fit_420) ⟨fm_200, fm_201⟩ (by decide) fz_at_420 fz_ok_420 hS (hl.1.trans hml.symm) dX9_openShare_20 dX9_openShare_23 dX9_openShare_24 dX9_openShare_27 dX9_openShare_30 ht hlocks ⟨Nat.le_of_ble_eq_true rfl, Nat.le_of_ble_eq_true rfl, Nat.le_of_ble_eq_true rfl, Nat.le_of_ble_eq_true rfl⟩ (Or.inr ⟨rfl, (fq_33 p0 hq_1)⟩) ⟨Nat.le_of_ble_eq_true rfl, Nat.le_of_ble_eq_true rfl⟩

set_option maxHeartbeats 4000000 in
set_option maxRecDepth 100000 in
theorem c_text (l : Launch) (hl0 : l.stackTraces = false) (A : Nat → Prop) (D : va_G) (k : Nat → ClassId) (q : Nat → Nat) (f : Nat → Nat → Int32) (pa : Nat → Option Nat) (v : Nat → Int32) (p0 : Int32) (g_v_17 : v 17 = 0)  :
    vx_Met l yX9_text (fz_ws yX9_text cX9_text 2 (some .char)) { frames := 24, cells := 1, slots := 6, locals := 320 } (va_Pc [.ref (q 31), .int p0] (fz_PC A D (fz_tys k) (fz_WC k q f pa v))) (fz_QI D A (fun (_ : Unit) => ([] : va_W)) (fun (r : Int32) (_ : Unit) => r = 0)) (fz_XC (fun E => (E = "java/lang/IndexOutOfBoundsException" ∧ True)) A) 1 6 A := by
  refine fz_ofX (by decide +kernel) (Nat.le_of_ble_eq_true rfl) ?_
  intro p e s m below meth c hx hb hr hml hown hlocks hts ht hA hP hK hD hG hS ls hl
  have hown : s.vm.findClass RX9 = some m.cls := hown
  have S0 : CallFix p m c cX9_text 2 s [.ref (q 31), .int p0].toArray (fz_ws yX9_text cX9_text 2 (some .char)) RX9 := ⟨hx, hb, hml, hown, hts⟩
  have hl : lv_has ls 2 [(0, .ref (q 31)), (1, .int p0)] := hl
  refine lv_iload_n hx hb dX9_text_0 rfl (lv_at hl 1 rfl) ?_
  refine lv_if_lt (tgt := 15) hx hb dX9_text_1 (by decide) (fun c_1 => ?_) (fun c_1 => ?_)
  · skip
    exact fz_throwW (cls := "java/lang/IndexOutOfBoundsException") (text := "no such index") (names := fz_EN) (ik := 161) (is := 474) (ic := 165) hx hb hl0 hown hts hG (fz_fit_165) ⟨fm_16, fm_17⟩ (by decide) fz_at_165 fz_ok_165 hS (hl.1.trans hml.symm) dX9_text_15 dX9_text_18 dX9_text_19 dX9_text_22 dX9_text_25 ht hlocks ⟨Nat.le_of_ble_eq_true rfl, Nat.le_of_ble_eq_true rfl, Nat.le_of_ble_eq_true rfl, Nat.le_of_ble_eq_true rfl⟩ ⟨rfl, trivial⟩ ⟨Nat.le_of_ble_eq_true rfl, Nat.le_of_ble_eq_true rfl⟩
  · skip
    refine lv_iload_n hx hb dX9_text_4 rfl (lv_at hl 1 rfl) ?_
    refine lv_aload_n hx hb dX9_text_5 rfl (lv_at hl 0 rfl) ?_
    refine va_get (D := D) (ci := 13) (v := .ref (q 35)) (C := RX9) (T := TX9) (N := 8) hx hb hts (fun w9 h9 => fz_m (fin_X9 w9 h9)) hown hK hP 31 rfl rfl 7 (by decide) (hts _ (fz_m fm_202)) (fun _ h9 => h9) rfl dX9_text_6 ?_
    refine fz_cVi (As := []) (rest := [.int p0]) S0 (c_len l A D k q f pa v g_v_17) (fz_cwV (C := RJ4) 0 hts fm_203 fm_204 fm_205 fm_206 fm_207 rfl rfl ⟨by decide, by decide, by decide +kernel⟩ ⟨Nat.le_of_ble_eq_true rfl, Nat.le_of_ble_eq_true rfl⟩) (va_recv hK hP (ci := 1) (q0 := 35) rfl rfl) (fun _ h9 => h9) (fun a9 h9 => hA a9 (Nat.le_trans hS.1 h9)) hG hS hP hK hD rfl hl.1 rfl (Nat.le_of_ble_eq_true rfl) dX9_text_9 ⟨Nat.le_of_ble_eq_true rfl, Nat.le_of_ble_eq_true rfl⟩ (fun r_2 u_2 H locs hw hz1 hk1 hP hS => ?_)
    have hP : va_P D vwCl (fz_WC k q f pa v) H := hP
    obtain rfl : r_2 = 0 := hw
    refine lv_icmp_lt (tgt := 26) hx hb dX9_text_12 (by decide) (fun c_3 => (fq_29 p0 c_1 c_3).elim) (fun c_3 => ?_)
    exact fz_throwW (cls := "java/lang/IndexOutOfBoundsException") (text := "no such index") (names := fz_EN) (ik := 161) (is := 474) (ic := 165) hx hb hl0 hown hts hG (fz_fit_165) ⟨fm_16, fm_17⟩ (by decide) fz_at_165 fz_ok_165 hS (hl.1.trans hml.symm) dX9_text_15 dX9_text_18 dX9_text_19 dX9_text_22 dX9_text_25 ht hlocks ⟨Nat.le_of_ble_eq_true rfl, Nat.le_of_ble_eq_true rfl, Nat.le_of_ble_eq_true rfl, Nat.le_of_ble_eq_true rfl⟩ ⟨rfl, trivial⟩ ⟨Nat.le_of_ble_eq_true rfl, Nat.le_of_ble_eq_true rfl⟩

set_option maxHeartbeats 4000000 in
set_option maxRecDepth 100000 in
theorem c_undo (l : Launch) (hl0 : l.stackTraces = false) (A : Nat → Prop) (D : va_G) (k : Nat → ClassId) (q : Nat → Nat) (f : Nat → Nat → Int32) (pa : Nat → Option Nat) (v : Nat → Int32) (g_v_9 : v 9 = 0) (g_pa_0 : pa 0 = none) (g_v_10 : v 10 = 0)  :
    vx_Met l yX9_undo (fz_ws yX9_undo cX9_undo 2 (some .int)) { frames := 12, cells := 1, slots := 6, locals := 160 } (va_Pc [.ref (q 31)] (fz_PC A D (fz_tys k) (fz_WC k q f pa v))) (fz_QI D A (fun (_ : Unit) => ([] : va_W)) (fun (r : Int32) (_ : Unit) => r = 0)) (fz_XC (fun E => (E = "java/lang/IllegalStateException" ∧ True)) A) 1 6 A := by
  refine fz_ofX (by decide +kernel) (Nat.le_of_ble_eq_true rfl) ?_
  intro p e s m below meth c hx hb hr hml hown hlocks hts ht hA hP hK hD hG hS ls hl
  have hown : s.vm.findClass RX9 = some m.cls := hown
  have S0 : CallFix p m c cX9_undo 2 s [.ref (q 31)].toArray (fz_ws yX9_undo cX9_undo 2 (some .int)) RX9 := ⟨hx, hb, hml, hown, hts⟩
  have hl : lv_has ls 2 [(0, .ref (q 31))] := hl
  refine lv_aload_n hx hb dX9_undo_0 rfl (lv_at hl 0 rfl) ?_
  refine va_get (D := D) (ci := 13) (v := .ref (q 32)) (C := RX9) (T := TX9) (N := 8) hx hb hts (fun w9 h9 => fz_m (fin_X9 w9 h9)) hown hK hP 31 rfl rfl 1 (by decide) (hts _ (fz_m fm_208)) (fun _ h9 => h9) rfl dX9_undo_1 ?_
  refine lv_aload_n hx hb dX9_undo_4 rfl (lv_at hl 0 rfl) ?_
  refine va_get (D := D) (ci := 13) (v := .int (v 9)) (C := RX9) (T := TX9) (N := 8) hx hb hts (fun w9 h9 => fz_m (fin_X9 w9 h9)) hown hK hP 31 rfl rfl 2 (by decide) (hts _ (fz_m fm_209)) (fun _ h9 => h9) rfl dX9_undo_5 ?_
  refine fz_I (y := 0) g_v_9 ?_
  refine va_aldq hx hb hK hP 32 3 rfl rfl (fz_vin (by decide)) dX9_undo_8 ?_
  refine fz_V (y := .null) (by show va_rf (pa 0) = _; rw [g_pa_0]; rfl) ?_
  refine lv_astore_nN (lv' := [(1, .null), (0, .ref (q 31))]) hx hb dX9_undo_9 rfl hl (by decide) rfl (fun ls hl => ?_)
  refine lv_aload_n hx hb dX9_undo_10 rfl (lv_at hl 1 rfl) ?_
  refine va_get (D := D) (ci := 13) (v := .int (v 10)) (C := RX9) (T := TX9) (N := 8) hx hb hts (fun w9 h9 => fz_m (fin_X9 w9 h9)) hown hK hP 31 rfl rfl 3 (by decide) (hts _ (fz_m fm_210)) (fun _ h9 => h9) rfl dX9_undo_11 ?_
  refine fz_I (y := 0) g_v_10 ?_
  refine lv_if_eq (tgt := 21) hx hb dX9_undo_14 (by decide) (fun c_1 => ?_) (fun c_1 => absurd (by decide) c_1)
  exact fz_throwW (cls := "java/lang/IllegalStateException") (text := "no change can be taken back") (names := fz_EN) (ik := 79) (is := 480) (ic := 83) hx hb hl0 hown hts hG (fz_fit_83) ⟨fm_147, fm_148⟩ (by decide) fz_at_83 fz_ok_83 hS (hl.1.trans hml.symm) dX9_undo_21 dX9_undo_24 dX9_undo_25 dX9_undo_28 dX9_undo_31 ht hlocks ⟨Nat.le_of_ble_eq_true rfl, Nat.le_of_ble_eq_true rfl, Nat.le_of_ble_eq_true rfl, Nat.le_of_ble_eq_true rfl⟩ ⟨rfl, trivial⟩ ⟨Nat.le_of_ble_eq_true rfl, Nat.le_of_ble_eq_true rfl⟩

set_option maxHeartbeats 4000000 in
set_option maxRecDepth 100000 in
theorem c_restore (l : Launch) (hl0 : l.stackTraces = false) (A : Nat → Prop) (D : va_G) (k : Nat → ClassId) (q : Nat → Nat) (f : Nat → Nat → Int32) (pa : Nat → Option Nat) (v : Nat → Int32) (g_pa_8 : pa 8 = none)  :
    vx_Met l yX9_restore (fz_ws yX9_restore cX9_restore 1 (some .int)) { frames := 12, cells := 1, slots := 6, locals := 160 } (va_Pc [.ref (q 31)] (fz_PC A D (fz_tys k) (fz_WC k q f pa v))) (fz_QI D A (fun (_ : Unit) => ([] : va_W)) (fun (r : Int32) (_ : Unit) => r = 0)) (fz_XC (fun E => (E = "java/lang/IllegalStateException" ∧ True)) A) 1 6 A := by
  refine fz_ofX (by decide +kernel) (Nat.le_of_ble_eq_true rfl) ?_
  intro p e s m below meth c hx hb hr hml hown hlocks hts ht hA hP hK hD hG hS ls hl
  have hown : s.vm.findClass RX9 = some m.cls := hown
  have S0 : CallFix p m c cX9_restore 1 s [.ref (q 31)].toArray (fz_ws yX9_restore cX9_restore 1 (some .int)) RX9 := ⟨hx, hb, hml, hown, hts⟩
  have hl : lv_has ls 1 [(0, .ref (q 31))] := hl
  refine lv_aload_n hx hb dX9_restore_0 rfl (lv_at hl 0 rfl) ?_
  refine va_get (D := D) (ci := 13) (v := va_rf (pa 8)) (C := RX9) (T := TX9) (N := 8) hx hb hts (fun w9 h9 => fz_m (fin_X9 w9 h9)) hown hK hP 31 rfl rfl 4 (by decide) (hts _ (fz_m fm_211)) (fun _ h9 => h9) rfl dX9_restore_1 ?_
  refine fz_V (y := .null) (by rw [g_pa_8]; rfl) ?_
  refine lv_ifnonnullN hx hb dX9_restore_4 ?_
  exact fz_throwW (cls := "java/lang/IllegalStateException") (text := "nothing was saved") (names := fz_EN) (ik := 79) (is := 486) (ic := 83) hx hb hl0 hown hts hG (fz_fit_83) ⟨fm_147, fm_148⟩ (by decide) fz_at_83 fz_ok_83 hS (hl.1.trans hml.symm) dX9_restore_7 dX9_restore_10 dX9_restore_11 dX9_restore_14 dX9_restore_17 ht hlocks ⟨Nat.le_of_ble_eq_true rfl, Nat.le_of_ble_eq_true rfl, Nat.le_of_ble_eq_true rfl, Nat.le_of_ble_eq_true rfl⟩ ⟨rfl, trivial⟩ ⟨Nat.le_of_ble_eq_true rfl, Nat.le_of_ble_eq_true rfl⟩
end
section
theorem fm_212 : Cond.fieldLink RX0 21 "FindingAid$Containers" "capacity" "[I" ∈ fz_WA := fz_in (fz_tin 153 (by decide +kernel)) (by decide +kernel)
theorem fm_213 : Cond.fieldLink RX2 34 "FindingAid$Input" "letters" "[C" ∈ fz_WA := fz_in (fz_tin 303 (by decide +kernel)) (by decide +kernel)
theorem fm_214 : Cond.fieldLink RX2 9 "FindingAid$Input" "length" "I" ∈ fz_WA := fz_in (fz_tin 289 (by decide +kernel)) (by decide +kernel)
theorem fm_215 : Cond.fieldLink RX2 38 "FindingAid$Input" "at" "I" ∈ fz_WA := fz_in (fz_tin 304 (by decide +kernel)) (by decide +kernel)
theorem fm_216 : Cond.code yX2_digit cX2_digit 1 (some .int) ∈ fz_WA := fz_in (fz_tin 1205 (by decide +kernel)) (by decide +kernel)
theorem fm_217 : Cond.methodLink RX2 53 yX2_digit ∈ fz_WA := fz_in (fz_tin 1202 (by decide +kernel)) (by decide +kernel)
theorem fm_218 : Cond.instanceMethod yX2_digit ∈ fz_WA := fz_in (fz_tin 1204 (by decide +kernel)) (by decide +kernel)
theorem fm_219 : Cond.selects RX2 yX2_digit yX2_digit ∈ fz_WA := fz_in (fz_sin 10 (by decide +kernel)) (by decide +kernel)
theorem fm_220 : Cond.initialized RX2 ∈ fz_WA := fz_in (fz_tin 11 (by decide +kernel)) (by decide +kernel)
theorem fm_221 : Cond.fieldLink RX2 15 "FindingAid$Input" "nodes" "I" ∈ fz_WA := fz_in (fz_tin 291 (by decide +kernel)) (by decide +kernel)
theorem fm_222 : Cond.code yX2_parseNode cX2_parseNode 7 (some .boolean) ∈ fz_WA := fz_in (fz_tin 1201 (by decide +kernel)) (by decide +kernel)
theorem fm_223 : Cond.methodLink RX2 41 yX2_parseNode ∈ fz_WA := fz_in (fz_tin 1198 (by decide +kernel)) (by decide +kernel)
theorem fm_224 : Cond.instanceMethod yX2_parseNode ∈ fz_WA := fz_in (fz_tin 1200 (by decide +kernel)) (by decide +kernel)
theorem fm_225 : Cond.selects RX2 yX2_parseNode yX2_parseNode ∈ fz_WA := fz_in (fz_sin 9 (by decide +kernel)) (by decide +kernel)
theorem fm_226 : Cond.fieldLink RJ5 18 "java/lang/String" "COMPACT_STRINGS" "Z" ∈ fz_WA := fz_in (fz_tin 334 (by decide +kernel)) (by decide +kernel)
theorem fm_227 : Cond.fieldLink RJ5 22 "java/lang/AbstractStringBuilder" "coder" "B" ∈ fz_WA := fz_in (fz_tin 344 (by decide +kernel)) (by decide +kernel)
theorem fm_228 : Cond.fieldLink RJ5 15 "java/lang/AbstractStringBuilder" "value" "[B" ∈ fz_WA := fz_in (fz_tin 343 (by decide +kernel)) (by decide +kernel)
theorem fm_229 : Cond.code yJ5_ensureCapacityInternal_d00df cJ5_ensureCapacityInternal_d00df 3 none ∈ fz_WA := fz_in (fz_tin 1263 (by decide +kernel)) (by decide +kernel)
theorem fm_230 : Cond.methodLink RJ5 100 yJ5_ensureCapacityInternal_d00df ∈ fz_WA := fz_in (fz_tin 1260 (by decide +kernel)) (by decide +kernel)
theorem fm_231 : Cond.selects RJ4 yJ5_isLatin1_aae02 yJ5_isLatin1_aae02 ∈ fz_WA := fz_in (fz_tin 1288 (by decide +kernel)) (by decide +kernel)
theorem fm_232 : Cond.privateMethod yJ5_ensureCapacityInternal_d00df ∈ lw_tbl := fz_tin 1261 (by decide +kernel)
theorem fm_233 : Cond.instanceMethod yJ5_ensureCapacityInternal_d00df ∈ fz_WA := fz_in (fz_tin 1262 (by decide +kernel)) (by decide +kernel)
theorem fm_234 : Cond.code yJ5_setLength_d00df cJ5_setLength_d00df 2 none ∈ fz_WA := fz_in (fz_tin 1240 (by decide +kernel)) (by decide +kernel)
theorem fm_235 : Cond.methodLink RJ4 333 yJ5_setLength_d00df ∈ fz_WA := fz_in (fz_tin 1238 (by decide +kernel)) (by decide +kernel)
theorem fm_236 : Cond.sameMethod RJ5 RJ5 "setLength" "(I)V" ∈ fz_WA := fz_in (fz_tin 2039 (by decide +kernel)) (by decide +kernel)
theorem fm_237 : Cond.instanceMethod yJ5_setLength_d00df ∈ fz_WA := fz_in (fz_tin 1239 (by decide +kernel)) (by decide +kernel)
theorem fm_238 : Cond.code yJ5_isLatin1_aae02 cJ5_isLatin1_aae02 1 (some .boolean) ∈ fz_WA := fz_in (fz_tin 1289 (by decide +kernel)) (by decide +kernel)
theorem fm_239 : Cond.methodLink RJ5 83 yJ5_isLatin1_aae02 ∈ fz_WA := fz_in (fz_tin 1285 (by decide +kernel)) (by decide +kernel)
theorem fm_240 : Cond.instanceMethod yJ5_isLatin1_aae02 ∈ fz_WA := fz_in (fz_tin 1286 (by decide +kernel)) (by decide +kernel)
theorem fm_241 : Cond.code yJ1_canEncode_fc78d cJ1_canEncode_fc78d 1 (some .boolean) ∈ fz_WA := fz_in (fz_tin 1499 (by decide +kernel)) (by decide +kernel)
theorem fm_242 : Cond.methodLink RJ5 191 yJ1_canEncode_fc78d ∈ fz_WA := fz_in (fz_tin 1497 (by decide +kernel)) (by decide +kernel)
theorem fm_243 : Cond.static yJ1_canEncode_fc78d ∈ fz_WA := fz_in (fz_tin 1498 (by decide +kernel)) (by decide +kernel)
theorem fm_244 : Cond.initialized RJ1 ∈ fz_WA := fz_in (fz_tin 34 (by decide +kernel)) (by decide +kernel)
theorem fm_245 : Cond.code yJ5_append_3fe6f cJ5_append_3fe6f 2 (some (.object "java/lang/AbstractStringBuilder")) ∈ fz_WA := fz_in (fz_tin 1496 (by decide +kernel)) (by decide +kernel)
theorem fm_246 : Cond.methodLink RJ4 50 yJ5_append_3fe6f ∈ fz_WA := fz_in (fz_tin 1494 (by decide +kernel)) (by decide +kernel)
theorem fm_247 : Cond.sameMethod RJ5 RJ5 "append" "(C)Ljava/lang/AbstractStringBuilder;" ∈ fz_WA := fz_in (fz_tin 2048 (by decide +kernel)) (by decide +kernel)
theorem fm_248 : Cond.instanceMethod yJ5_append_3fe6f ∈ fz_WA := fz_in (fz_tin 1495 (by decide +kernel)) (by decide +kernel)
theorem fm_249 : Cond.code yJ4_append_cf468 cJ4_append_cf468 2 (some (.object "java/lang/StringBuilder")) ∈ fz_WA := fz_in (fz_tin 1493 (by decide +kernel)) (by decide +kernel)
theorem fm_250 : Cond.methodLink RX9 521 yJ4_append_cf468 ∈ fz_WA := fz_in (fz_tin 1490 (by decide +kernel)) (by decide +kernel)
theorem fm_251 : Cond.instanceMethod yJ4_append_cf468 ∈ fz_WA := fz_in (fz_tin 1491 (by decide +kernel)) (by decide +kernel)
theorem fm_252 : Cond.selects RJ4 yJ4_append_cf468 yJ4_append_cf468 ∈ fz_WA := fz_in (fz_tin 1492 (by decide +kernel)) (by decide +kernel)
theorem fm_253 : Cond.methodLink RX8 49 arraycopyName ∈ fz_WA := fz_in (fz_tin 399 (by decide +kernel)) (by decide +kernel)
theorem fm_254 : Cond.native arraycopyName ∈ fz_WA := fz_in (fz_tin 401 (by decide +kernel)) (by decide +kernel)
theorem fm_255 : Cond.static arraycopyName ∈ fz_WA := fz_in (fz_tin 400 (by decide +kernel)) (by decide +kernel)
theorem fm_256 : Cond.initialized "java/lang/System" ∈ fz_WA := fz_in (fz_tin 24 (by decide +kernel)) (by decide +kernel)
theorem fm_257 : Cond.fieldLink RX8 22 "FindingAid$Tree" "stretch" "[I" ∈ fz_WA := fz_in (fz_tin 66 (by decide +kernel)) (by decide +kernel)
theorem fm_258 : Cond.code yX8_widen cX8_widen 5 none ∈ fz_WA := fz_in (fz_tin 648 (by decide +kernel)) (by decide +kernel)
theorem fm_259 : Cond.methodLink RX8 67 yX8_widen ∈ fz_WA := fz_in (fz_tin 645 (by decide +kernel)) (by decide +kernel)
theorem fm_260 : Cond.instanceMethod yX8_widen ∈ fz_WA := fz_in (fz_tin 647 (by decide +kernel)) (by decide +kernel)
theorem fm_261 : Cond.selects RX8 yX8_widen yX8_widen ∈ fz_WA := fz_in (fz_sin 3 (by decide +kernel)) (by decide +kernel)
theorem fm_262 : Cond.fieldLink RX8 37 "FindingAid$Tree" "from" "[I" ∈ fz_WA := fz_in (fz_tin 79 (by decide +kernel)) (by decide +kernel)
theorem fm_263 : Cond.code yX8_hang cX8_hang 5 none ∈ fz_WA := fz_in (fz_tin 644 (by decide +kernel)) (by decide +kernel)
theorem fm_264 : Cond.methodLink RX8 55 yX8_hang ∈ fz_WA := fz_in (fz_tin 641 (by decide +kernel)) (by decide +kernel)
theorem fm_265 : Cond.instanceMethod yX8_hang ∈ fz_WA := fz_in (fz_tin 642 (by decide +kernel)) (by decide +kernel)
theorem fm_266 : Cond.selects RX8 yX8_hang yX8_hang ∈ fz_WA := fz_in (fz_tin 643 (by decide +kernel)) (by decide +kernel)
theorem fm_267 : Cond.fieldLink RX9 40 "FindingAid" "input" "LFindingAid$Input;" ∈ fz_WA := fz_in (fz_tin 364 (by decide +kernel)) (by decide +kernel)
theorem fm_268 : Cond.fieldLink RX9 432 "FindingAid$Input" "length" "I" ∈ fz_WA := fz_in (fz_tin 290 (by decide +kernel)) (by decide +kernel)
theorem fm_269 : Cond.code yX2_append cX2_append 2 (some .int) ∈ fz_WA := fz_in (fz_tin 1186 (by decide +kernel)) (by decide +kernel)
theorem fm_270 : Cond.methodLink RX9 436 yX2_append ∈ fz_WA := fz_in (fz_tin 1183 (by decide +kernel)) (by decide +kernel)
theorem fm_271 : Cond.instanceMethod yX2_append ∈ fz_WA := fz_in (fz_tin 1184 (by decide +kernel)) (by decide +kernel)
theorem fm_272 : Cond.selects RX2 yX2_append yX2_append ∈ fz_WA := fz_in (fz_tin 1185 (by decide +kernel)) (by decide +kernel)
theorem fm_273 : Cond.code yX2_parse cX2_parse 3 (some .int) ∈ fz_WA := fz_in (fz_tin 1197 (by decide +kernel)) (by decide +kernel)
theorem fm_274 : Cond.methodLink RX9 439 yX2_parse ∈ fz_WA := fz_in (fz_tin 1194 (by decide +kernel)) (by decide +kernel)
theorem fm_275 : Cond.instanceMethod yX2_parse ∈ fz_WA := fz_in (fz_tin 1195 (by decide +kernel)) (by decide +kernel)
theorem fm_276 : Cond.selects RX2 yX2_parse yX2_parse ∈ fz_WA := fz_in (fz_tin 1196 (by decide +kernel)) (by decide +kernel)
theorem fm_277 : Cond.code yJ4_setLength_d00df cJ4_setLength_d00df 2 none ∈ fz_WA := fz_in (fz_tin 1237 (by decide +kernel)) (by decide +kernel)
theorem fm_278 : Cond.methodLink RX9 453 yJ4_setLength_d00df ∈ fz_WA := fz_in (fz_tin 1234 (by decide +kernel)) (by decide +kernel)
theorem fm_279 : Cond.instanceMethod yJ4_setLength_d00df ∈ fz_WA := fz_in (fz_tin 1235 (by decide +kernel)) (by decide +kernel)
theorem fm_280 : Cond.selects RJ4 yJ4_setLength_d00df yJ4_setLength_d00df ∈ fz_WA := fz_in (fz_tin 1236 (by decide +kernel)) (by decide +kernel)
theorem fm_281 : Cond.methodLink RX9 456 yX8_place ∈ fz_WA := fz_in (fz_tin 1481 (by decide +kernel)) (by decide +kernel)
theorem fm_282 : Cond.code yX8_depth cX8_depth 4 (some .int) ∈ fz_WA := fz_in (fz_tin 1485 (by decide +kernel)) (by decide +kernel)
theorem fm_283 : Cond.methodLink RX9 459 yX8_depth ∈ fz_WA := fz_in (fz_tin 1482 (by decide +kernel)) (by decide +kernel)
theorem fm_284 : Cond.instanceMethod yX8_depth ∈ fz_WA := fz_in (fz_tin 1483 (by decide +kernel)) (by decide +kernel)
theorem fm_285 : Cond.selects RX8 yX8_depth yX8_depth ∈ fz_WA := fz_in (fz_tin 1484 (by decide +kernel)) (by decide +kernel)
theorem fm_286 : Cond.fieldLink RX9 462 "FindingAid$Tree" "line" "[I" ∈ fz_WA := fz_in (fz_tin 65 (by decide +kernel)) (by decide +kernel)
theorem fm_287 : Cond.code yX9_appendNode cX9_appendNode 2 none ∈ fz_WA := fz_in (fz_tin 1489 (by decide +kernel)) (by decide +kernel)
theorem fm_288 : Cond.methodLink RX9 465 yX9_appendNode ∈ fz_WA := fz_in (fz_tin 1486 (by decide +kernel)) (by decide +kernel)
theorem fm_289 : Cond.instanceMethod yX9_appendNode ∈ fz_WA := fz_in (fz_tin 1488 (by decide +kernel)) (by decide +kernel)
theorem fm_290 : Cond.selects RX9 yX9_appendNode yX9_appendNode ∈ fz_WA := fz_in (fz_sin 16 (by decide +kernel)) (by decide +kernel)
theorem fm_291 : Cond.code yX9_appendLink cX9_appendLink 5 none ∈ fz_WA := fz_in (fz_tin 1516 (by decide +kernel)) (by decide +kernel)
theorem fm_292 : Cond.methodLink RX9 468 yX9_appendLink ∈ fz_WA := fz_in (fz_tin 1513 (by decide +kernel)) (by decide +kernel)
theorem fm_293 : Cond.instanceMethod yX9_appendLink ∈ fz_WA := fz_in (fz_tin 1515 (by decide +kernel)) (by decide +kernel)
theorem fm_294 : Cond.selects RX9 yX9_appendLink yX9_appendLink ∈ fz_WA := fz_in (fz_sin 17 (by decide +kernel)) (by decide +kernel)
theorem dX0_open_0 : decode cX0_open 0 = .ok (.aload_n 0, 1) := by decide +kernel
theorem dX0_open_1 : decode cX0_open 1 = .ok (.getfield 9, 3) := by decide +kernel
theorem dX0_open_4 : decode cX0_open 4 = .ok (.istore_n 2, 1) := by decide +kernel
theorem dX0_open_5 : decode cX0_open 5 = .ok (.aload_n 0, 1) := by decide +kernel
theorem dX0_open_6 : decode cX0_open 6 = .ok (.getfield 21, 3) := by decide +kernel
theorem dX0_open_9 : decode cX0_open 9 = .ok (.iload_n 2, 1) := by decide +kernel
theorem dX0_open_10 : decode cX0_open 10 = .ok (.iload_n 1, 1) := by decide +kernel
theorem dX0_open_11 : decode cX0_open 11 = .ok (.iastore, 1) := by decide +kernel
theorem dX0_open_12 : decode cX0_open 12 = .ok (.aload_n 0, 1) := by decide +kernel
theorem dX0_open_13 : decode cX0_open 13 = .ok (.dup, 1) := by decide +kernel
theorem dX0_open_14 : decode cX0_open 14 = .ok (.getfield 9, 3) := by decide +kernel
theorem dX0_open_17 : decode cX0_open 17 = .ok (.iconst 1, 1) := by decide +kernel
theorem dX0_open_18 : decode cX0_open 18 = .ok (.iadd, 1) := by decide +kernel
theorem dX0_open_19 : decode cX0_open 19 = .ok (.putfield 9, 3) := by decide +kernel
theorem dX0_open_22 : decode cX0_open 22 = .ok (.aload_n 0, 1) := by decide +kernel
theorem dX0_open_23 : decode cX0_open 23 = .ok (.dup, 1) := by decide +kernel
theorem dX0_open_24 : decode cX0_open 24 = .ok (.getfield 15, 3) := by decide +kernel
theorem dX0_open_27 : decode cX0_open 27 = .ok (.iconst 1, 1) := by decide +kernel
theorem dX0_open_28 : decode cX0_open 28 = .ok (.iadd, 1) := by decide +kernel
theorem dX0_open_29 : decode cX0_open 29 = .ok (.putfield 15, 3) := by decide +kernel
theorem dX0_open_32 : decode cX0_open 32 = .ok (.iload_n 2, 1) := by decide +kernel
theorem dX0_open_33 : decode cX0_open 33 = .ok (.ireturn, 1) := by decide +kernel
theorem dX2_append_0 : decode cX2_append 0 = .ok (.aload_n 0, 1) := by decide +kernel
theorem dX2_append_1 : decode cX2_append 1 = .ok (.getfield 34, 3) := by decide +kernel
theorem dX2_append_4 : decode cX2_append 4 = .ok (.aload_n 0, 1) := by decide +kernel
theorem dX2_append_5 : decode cX2_append 5 = .ok (.getfield 9, 3) := by decide +kernel
theorem dX2_append_8 : decode cX2_append 8 = .ok (.iload_n 1, 1) := by decide +kernel
theorem dX2_append_9 : decode cX2_append 9 = .ok (.castore, 1) := by decide +kernel
theorem dX2_append_10 : decode cX2_append 10 = .ok (.aload_n 0, 1) := by decide +kernel
theorem dX2_append_11 : decode cX2_append 11 = .ok (.dup, 1) := by decide +kernel
theorem dX2_append_12 : decode cX2_append 12 = .ok (.getfield 9, 3) := by decide +kernel
theorem dX2_append_15 : decode cX2_append 15 = .ok (.iconst 1, 1) := by decide +kernel
theorem dX2_append_16 : decode cX2_append 16 = .ok (.iadd, 1) := by decide +kernel
theorem dX2_append_17 : decode cX2_append 17 = .ok (.putfield 9, 3) := by decide +kernel
theorem dX2_append_20 : decode cX2_append 20 = .ok (.aload_n 0, 1) := by decide +kernel
theorem dX2_append_21 : decode cX2_append 21 = .ok (.getfield 9, 3) := by decide +kernel
theorem dX2_append_24 : decode cX2_append 24 = .ok (.ireturn, 1) := by decide +kernel
theorem dX2_digit_0 : decode cX2_digit 0 = .ok (.aload_n 0, 1) := by decide +kernel
theorem dX2_digit_1 : decode cX2_digit 1 = .ok (.getfield 38, 3) := by decide +kernel
theorem dX2_digit_4 : decode cX2_digit 4 = .ok (.aload_n 0, 1) := by decide +kernel
theorem dX2_digit_5 : decode cX2_digit 5 = .ok (.getfield 9, 3) := by decide +kernel
theorem dX2_digit_8 : decode cX2_digit 8 = .ok (.if_icmp .ge 46, 3) := by decide +kernel
theorem dX2_digit_54 : decode cX2_digit 54 = .ok (.iconst (-1), 1) := by decide +kernel
theorem dX2_digit_55 : decode cX2_digit 55 = .ok (.ireturn, 1) := by decide +kernel
theorem dX2_parseNode_0 : decode cX2_parseNode 0 = .ok (.aload_n 0, 1) := by decide +kernel
theorem dX2_parseNode_1 : decode cX2_parseNode 1 = .ok (.invokevirtual 53, 3) := by decide +kernel
theorem dX2_parseNode_4 : decode cX2_parseNode 4 = .ok (.istore_n 2, 1) := by decide +kernel
theorem dX2_parseNode_5 : decode cX2_parseNode 5 = .ok (.iload_n 2, 1) := by decide +kernel
theorem dX2_parseNode_6 : decode cX2_parseNode 6 = .ok (.iconst (-1), 1) := by decide +kernel
theorem dX2_parseNode_7 : decode cX2_parseNode 7 = .ok (.if_icmp .eq 8, 3) := by decide +kernel
theorem dX2_parseNode_15 : decode cX2_parseNode 15 = .ok (.iconst 0, 1) := by decide +kernel
theorem dX2_parseNode_16 : decode cX2_parseNode 16 = .ok (.ireturn, 1) := by decide +kernel
theorem dX2_parse_0 : decode cX2_parse 0 = .ok (.aload_n 0, 1) := by decide +kernel
theorem dX2_parse_1 : decode cX2_parse 1 = .ok (.iconst 0, 1) := by decide +kernel
theorem dX2_parse_2 : decode cX2_parse 2 = .ok (.putfield 38, 3) := by decide +kernel
theorem dX2_parse_5 : decode cX2_parse 5 = .ok (.aload_n 0, 1) := by decide +kernel
theorem dX2_parse_6 : decode cX2_parse 6 = .ok (.iconst 0, 1) := by decide +kernel
theorem dX2_parse_7 : decode cX2_parse 7 = .ok (.putfield 15, 3) := by decide +kernel
theorem dX2_parse_10 : decode cX2_parse 10 = .ok (.iconst (-1), 1) := by decide +kernel
theorem dX2_parse_11 : decode cX2_parse 11 = .ok (.istore_n 1, 1) := by decide +kernel
theorem dX2_parse_12 : decode cX2_parse 12 = .ok (.iconst 0, 1) := by decide +kernel
theorem dX2_parse_13 : decode cX2_parse 13 = .ok (.istore_n 2, 1) := by decide +kernel
theorem dX2_parse_14 : decode cX2_parse 14 = .ok (.iload_n 2, 1) := by decide +kernel
theorem dX2_parse_15 : decode cX2_parse 15 = .ok (.bipush 100, 2) := by decide +kernel
theorem dX2_parse_17 : decode cX2_parse 17 = .ok (.if_icmp .ge 86, 3) := by decide +kernel
theorem dX2_parse_20 : decode cX2_parse 20 = .ok (.aload_n 0, 1) := by decide +kernel
theorem dX2_parse_21 : decode cX2_parse 21 = .ok (.iload_n 1, 1) := by decide +kernel
theorem dX2_parse_22 : decode cX2_parse 22 = .ok (.invokevirtual 41, 3) := by decide +kernel
theorem dX2_parse_25 : decode cX2_parse 25 = .ok (.ifCond .ne 8, 3) := by decide +kernel
theorem dX2_parse_28 : decode cX2_parse 28 = .ok (.aload_n 0, 1) := by decide +kernel
theorem dX2_parse_29 : decode cX2_parse 29 = .ok (.getfield 38, 3) := by decide +kernel
theorem dX2_parse_32 : decode cX2_parse 32 = .ok (.ireturn, 1) := by decide +kernel
theorem dJ1_canEncode_fc78d_0 : decode cJ1_canEncode_fc78d 0 = .ok (.iload_n 0, 1) := by decide +kernel
theorem dJ1_canEncode_fc78d_1 : decode cJ1_canEncode_fc78d 1 = .ok (.sipush 255, 3) := by decide +kernel
theorem dJ1_canEncode_fc78d_4 : decode cJ1_canEncode_fc78d 4 = .ok (.if_icmp .gt 7, 3) := by decide +kernel
theorem dJ1_canEncode_fc78d_7 : decode cJ1_canEncode_fc78d 7 = .ok (.iconst 1, 1) := by decide +kernel
theorem dJ1_canEncode_fc78d_8 : decode cJ1_canEncode_fc78d 8 = .ok (.goto 4, 3) := by decide +kernel
theorem dJ1_canEncode_fc78d_12 : decode cJ1_canEncode_fc78d 12 = .ok (.ireturn, 1) := by decide +kernel
theorem dJ5_isLatin1_aae02_0 : decode cJ5_isLatin1_aae02 0 = .ok (.getstatic 18, 3) := by decide +kernel
theorem dJ5_isLatin1_aae02_3 : decode cJ5_isLatin1_aae02 3 = .ok (.ifCond .eq 14, 3) := by decide +kernel
theorem dJ5_isLatin1_aae02_6 : decode cJ5_isLatin1_aae02 6 = .ok (.aload_n 0, 1) := by decide +kernel
theorem dJ5_isLatin1_aae02_7 : decode cJ5_isLatin1_aae02 7 = .ok (.getfield 22, 3) := by decide +kernel
theorem dJ5_isLatin1_aae02_10 : decode cJ5_isLatin1_aae02 10 = .ok (.ifCond .ne 7, 3) := by decide +kernel
theorem dJ5_isLatin1_aae02_13 : decode cJ5_isLatin1_aae02 13 = .ok (.iconst 1, 1) := by decide +kernel
theorem dJ5_isLatin1_aae02_14 : decode cJ5_isLatin1_aae02 14 = .ok (.goto 4, 3) := by decide +kernel
theorem dJ5_isLatin1_aae02_18 : decode cJ5_isLatin1_aae02 18 = .ok (.ireturn, 1) := by decide +kernel
theorem dJ5_ensureCapacityInternal_d00df_0 : decode cJ5_ensureCapacityInternal_d00df 0 = .ok (.aload_n 0, 1) := by decide +kernel
theorem dJ5_ensureCapacityInternal_d00df_1 : decode cJ5_ensureCapacityInternal_d00df 1 = .ok (.getfield 15, 3) := by decide +kernel
theorem dJ5_ensureCapacityInternal_d00df_4 : decode cJ5_ensureCapacityInternal_d00df 4 = .ok (.arraylength, 1) := by decide +kernel
theorem dJ5_ensureCapacityInternal_d00df_5 : decode cJ5_ensureCapacityInternal_d00df 5 = .ok (.aload_n 0, 1) := by decide +kernel
theorem dJ5_ensureCapacityInternal_d00df_6 : decode cJ5_ensureCapacityInternal_d00df 6 = .ok (.getfield 22, 3) := by decide +kernel
theorem dJ5_ensureCapacityInternal_d00df_9 : decode cJ5_ensureCapacityInternal_d00df 9 = .ok (.ishr, 1) := by decide +kernel
theorem dJ5_ensureCapacityInternal_d00df_10 : decode cJ5_ensureCapacityInternal_d00df 10 = .ok (.istore_n 2, 1) := by decide +kernel
theorem dJ5_ensureCapacityInternal_d00df_11 : decode cJ5_ensureCapacityInternal_d00df 11 = .ok (.iload_n 1, 1) := by decide +kernel
theorem dJ5_ensureCapacityInternal_d00df_12 : decode cJ5_ensureCapacityInternal_d00df 12 = .ok (.iload_n 2, 1) := by decide +kernel
theorem dJ5_ensureCapacityInternal_d00df_13 : decode cJ5_ensureCapacityInternal_d00df 13 = .ok (.isub, 1) := by decide +kernel
theorem dJ5_ensureCapacityInternal_d00df_14 : decode cJ5_ensureCapacityInternal_d00df 14 = .ok (.ifCond .le 24, 3) := by decide +kernel
theorem dJ5_ensureCapacityInternal_d00df_38 : decode cJ5_ensureCapacityInternal_d00df 38 = .ok (.return_, 1) := by decide +kernel
theorem dJ5_setLength_d00df_0 : decode cJ5_setLength_d00df 0 = .ok (.iload_n 1, 1) := by decide +kernel
theorem dJ5_setLength_d00df_1 : decode cJ5_setLength_d00df 1 = .ok (.ifCond .ge 12, 3) := by decide +kernel
theorem dJ5_setLength_d00df_13 : decode cJ5_setLength_d00df 13 = .ok (.aload_n 0, 1) := by decide +kernel
theorem dJ5_setLength_d00df_14 : decode cJ5_setLength_d00df 14 = .ok (.iload_n 1, 1) := by decide +kernel
theorem dJ5_setLength_d00df_15 : decode cJ5_setLength_d00df 15 = .ok (.invokevirtual 100, 3) := by decide +kernel
theorem dJ5_setLength_d00df_18 : decode cJ5_setLength_d00df 18 = .ok (.aload_n 0, 1) := by decide +kernel
theorem dJ5_setLength_d00df_19 : decode cJ5_setLength_d00df 19 = .ok (.getfield 79, 3) := by decide +kernel
theorem dJ5_setLength_d00df_22 : decode cJ5_setLength_d00df 22 = .ok (.iload_n 1, 1) := by decide +kernel
theorem dJ5_setLength_d00df_23 : decode cJ5_setLength_d00df 23 = .ok (.if_icmp .ge 40, 3) := by decide +kernel
theorem dJ5_setLength_d00df_63 : decode cJ5_setLength_d00df 63 = .ok (.aload_n 0, 1) := by decide +kernel
theorem dJ5_setLength_d00df_64 : decode cJ5_setLength_d00df 64 = .ok (.getfield 79, 3) := by decide +kernel
theorem dJ5_setLength_d00df_67 : decode cJ5_setLength_d00df 67 = .ok (.iload_n 1, 1) := by decide +kernel
theorem dJ5_setLength_d00df_68 : decode cJ5_setLength_d00df 68 = .ok (.if_icmp .le 8, 3) := by decide +kernel
theorem dJ5_setLength_d00df_76 : decode cJ5_setLength_d00df 76 = .ok (.aload_n 0, 1) := by decide +kernel
theorem dJ5_setLength_d00df_77 : decode cJ5_setLength_d00df 77 = .ok (.iload_n 1, 1) := by decide +kernel
theorem dJ5_setLength_d00df_78 : decode cJ5_setLength_d00df 78 = .ok (.putfield 79, 3) := by decide +kernel
theorem dJ5_setLength_d00df_81 : decode cJ5_setLength_d00df 81 = .ok (.return_, 1) := by decide +kernel
theorem dJ4_setLength_d00df_0 : decode cJ4_setLength_d00df 0 = .ok (.aload_n 0, 1) := by decide +kernel
theorem dJ4_setLength_d00df_1 : decode cJ4_setLength_d00df 1 = .ok (.iload_n 1, 1) := by decide +kernel
theorem dJ4_setLength_d00df_2 : decode cJ4_setLength_d00df 2 = .ok (.invokespecial 333, 3) := by decide +kernel
theorem dJ4_setLength_d00df_5 : decode cJ4_setLength_d00df 5 = .ok (.return_, 1) := by decide +kernel
theorem dJ5_append_3fe6f_0 : decode cJ5_append_3fe6f 0 = .ok (.aload_n 0, 1) := by decide +kernel
theorem dJ5_append_3fe6f_1 : decode cJ5_append_3fe6f 1 = .ok (.aload_n 0, 1) := by decide +kernel
theorem dJ5_append_3fe6f_2 : decode cJ5_append_3fe6f 2 = .ok (.getfield 79, 3) := by decide +kernel
theorem dJ5_append_3fe6f_5 : decode cJ5_append_3fe6f 5 = .ok (.iconst 1, 1) := by decide +kernel
theorem dJ5_append_3fe6f_6 : decode cJ5_append_3fe6f 6 = .ok (.iadd, 1) := by decide +kernel
theorem dJ5_append_3fe6f_7 : decode cJ5_append_3fe6f 7 = .ok (.invokevirtual 100, 3) := by decide +kernel
theorem dJ5_append_3fe6f_10 : decode cJ5_append_3fe6f 10 = .ok (.aload_n 0, 1) := by decide +kernel
theorem dJ5_append_3fe6f_11 : decode cJ5_append_3fe6f 11 = .ok (.invokevirtual 83, 3) := by decide +kernel
theorem dJ5_append_3fe6f_14 : decode cJ5_append_3fe6f 14 = .ok (.ifCond .eq 31, 3) := by decide +kernel
theorem dJ5_append_3fe6f_17 : decode cJ5_append_3fe6f 17 = .ok (.iload_n 1, 1) := by decide +kernel
theorem dJ5_append_3fe6f_18 : decode cJ5_append_3fe6f 18 = .ok (.invokestatic 191, 3) := by decide +kernel
theorem dJ5_append_3fe6f_21 : decode cJ5_append_3fe6f 21 = .ok (.ifCond .eq 24, 3) := by decide +kernel
theorem dJ5_append_3fe6f_24 : decode cJ5_append_3fe6f 24 = .ok (.aload_n 0, 1) := by decide +kernel
theorem dJ5_append_3fe6f_25 : decode cJ5_append_3fe6f 25 = .ok (.getfield 15, 3) := by decide +kernel
theorem dJ5_append_3fe6f_28 : decode cJ5_append_3fe6f 28 = .ok (.aload_n 0, 1) := by decide +kernel
theorem dJ5_append_3fe6f_29 : decode cJ5_append_3fe6f 29 = .ok (.dup, 1) := by decide +kernel
theorem dJ5_append_3fe6f_30 : decode cJ5_append_3fe6f 30 = .ok (.getfield 79, 3) := by decide +kernel
theorem dJ5_append_3fe6f_33 : decode cJ5_append_3fe6f 33 = .ok (.dup_x1, 1) := by decide +kernel
theorem dJ5_append_3fe6f_34 : decode cJ5_append_3fe6f 34 = .ok (.iconst 1, 1) := by decide +kernel
theorem dJ5_append_3fe6f_35 : decode cJ5_append_3fe6f 35 = .ok (.iadd, 1) := by decide +kernel
theorem dJ5_append_3fe6f_36 : decode cJ5_append_3fe6f 36 = .ok (.putfield 79, 3) := by decide +kernel
theorem dJ5_append_3fe6f_39 : decode cJ5_append_3fe6f 39 = .ok (.iload_n 1, 1) := by decide +kernel
theorem dJ5_append_3fe6f_40 : decode cJ5_append_3fe6f 40 = .ok (.i2b, 1) := by decide +kernel
theorem dJ5_append_3fe6f_41 : decode cJ5_append_3fe6f 41 = .ok (.bastore, 1) := by decide +kernel
theorem dJ5_append_3fe6f_42 : decode cJ5_append_3fe6f 42 = .ok (.goto 33, 3) := by decide +kernel
theorem dJ5_append_3fe6f_75 : decode cJ5_append_3fe6f 75 = .ok (.aload_n 0, 1) := by decide +kernel
theorem dJ5_append_3fe6f_76 : decode cJ5_append_3fe6f 76 = .ok (.areturn, 1) := by decide +kernel
theorem dJ4_append_cf468_0 : decode cJ4_append_cf468 0 = .ok (.aload_n 0, 1) := by decide +kernel
theorem dJ4_append_cf468_1 : decode cJ4_append_cf468 1 = .ok (.iload_n 1, 1) := by decide +kernel
theorem dJ4_append_cf468_2 : decode cJ4_append_cf468 2 = .ok (.invokespecial 50, 3) := by decide +kernel
theorem dJ4_append_cf468_5 : decode cJ4_append_cf468 5 = .ok (.pop, 1) := by decide +kernel
theorem dJ4_append_cf468_6 : decode cJ4_append_cf468 6 = .ok (.aload_n 0, 1) := by decide +kernel
theorem dJ4_append_cf468_7 : decode cJ4_append_cf468 7 = .ok (.areturn, 1) := by decide +kernel
theorem dX9_appendNode_0 : decode cX9_appendNode 0 = .ok (.aload_n 0, 1) := by decide +kernel
theorem dX9_appendNode_1 : decode cX9_appendNode 1 = .ok (.getfield 47, 3) := by decide +kernel
theorem dX9_appendNode_4 : decode cX9_appendNode 4 = .ok (.bipush 48, 2) := by decide +kernel
theorem dX9_appendNode_6 : decode cX9_appendNode 6 = .ok (.aload_n 0, 1) := by decide +kernel
theorem dX9_appendNode_7 : decode cX9_appendNode 7 = .ok (.getfield 10, 3) := by decide +kernel
theorem dX9_appendNode_10 : decode cX9_appendNode 10 = .ok (.getfield 55, 3) := by decide +kernel
theorem dX9_appendNode_13 : decode cX9_appendNode 13 = .ok (.getfield 59, 3) := by decide +kernel
theorem dX9_appendNode_16 : decode cX9_appendNode 16 = .ok (.iload_n 1, 1) := by decide +kernel
theorem dX9_appendNode_17 : decode cX9_appendNode 17 = .ok (.iaload, 1) := by decide +kernel
theorem dX9_appendNode_18 : decode cX9_appendNode 18 = .ok (.iadd, 1) := by decide +kernel
theorem dX9_appendNode_19 : decode cX9_appendNode 19 = .ok (.i2c, 1) := by decide +kernel
theorem dX9_appendNode_20 : decode cX9_appendNode 20 = .ok (.invokevirtual 521, 3) := by decide +kernel
theorem dX9_appendNode_23 : decode cX9_appendNode 23 = .ok (.pop, 1) := by decide +kernel
theorem dX9_appendNode_24 : decode cX9_appendNode 24 = .ok (.aload_n 0, 1) := by decide +kernel
theorem dX9_appendNode_25 : decode cX9_appendNode 25 = .ok (.getfield 10, 3) := by decide +kernel
theorem dX9_appendNode_28 : decode cX9_appendNode 28 = .ok (.getfield 55, 3) := by decide +kernel
theorem dX9_appendNode_31 : decode cX9_appendNode 31 = .ok (.getfield 115, 3) := by decide +kernel
theorem dX9_appendNode_34 : decode cX9_appendNode 34 = .ok (.iload_n 1, 1) := by decide +kernel
theorem dX9_appendNode_35 : decode cX9_appendNode 35 = .ok (.iaload, 1) := by decide +kernel
theorem dX9_appendNode_36 : decode cX9_appendNode 36 = .ok (.ifCond .le 28, 3) := by decide +kernel
theorem dX9_appendNode_64 : decode cX9_appendNode 64 = .ok (.aload_n 0, 1) := by decide +kernel
theorem dX9_appendNode_65 : decode cX9_appendNode 65 = .ok (.getfield 10, 3) := by decide +kernel
theorem dX9_appendNode_68 : decode cX9_appendNode 68 = .ok (.getfield 55, 3) := by decide +kernel
theorem dX9_appendNode_71 : decode cX9_appendNode 71 = .ok (.getfield 118, 3) := by decide +kernel
theorem dX9_appendNode_74 : decode cX9_appendNode 74 = .ok (.iload_n 1, 1) := by decide +kernel
theorem dX9_appendNode_75 : decode cX9_appendNode 75 = .ok (.iaload, 1) := by decide +kernel
theorem dX9_appendNode_76 : decode cX9_appendNode 76 = .ok (.iconst (-1), 1) := by decide +kernel
theorem dX9_appendNode_77 : decode cX9_appendNode 77 = .ok (.if_icmp .eq 48, 3) := by decide +kernel
theorem dX9_appendNode_125 : decode cX9_appendNode 125 = .ok (.return_, 1) := by decide +kernel
theorem dX9_appendLink_0 : decode cX9_appendLink 0 = .ok (.iload_n 2, 1) := by decide +kernel
theorem dX9_appendLink_1 : decode cX9_appendLink 1 = .ok (.iload_n 1, 1) := by decide +kernel
theorem dX9_appendLink_2 : decode cX9_appendLink 2 = .ok (.if_icmp .le 14, 3) := by decide +kernel
theorem dX9_appendLink_16 : decode cX9_appendLink 16 = .ok (.iload_n 2, 1) := by decide +kernel
theorem dX9_appendLink_17 : decode cX9_appendLink 17 = .ok (.istore 4, 2) := by decide +kernel
theorem dX9_appendLink_19 : decode cX9_appendLink 19 = .ok (.iload 4, 2) := by decide +kernel
theorem dX9_appendLink_21 : decode cX9_appendLink 21 = .ok (.iload_n 1, 1) := by decide +kernel
theorem dX9_appendLink_22 : decode cX9_appendLink 22 = .ok (.if_icmp .ge 19, 3) := by decide +kernel
theorem dX9_appendLink_41 : decode cX9_appendLink 41 = .ok (.iload_n 3, 1) := by decide +kernel
theorem dX9_appendLink_42 : decode cX9_appendLink 42 = .ok (.ifCond .eq 13, 3) := by decide +kernel
theorem dX9_appendLink_55 : decode cX9_appendLink 55 = .ok (.return_, 1) := by decide +kernel
theorem dX8_widen_0 : decode cX8_widen 0 = .ok (.iload_n 1, 1) := by decide +kernel
theorem dX8_widen_1 : decode cX8_widen 1 = .ok (.istore_n 3, 1) := by decide +kernel
theorem dX8_widen_2 : decode cX8_widen 2 = .ok (.iconst 0, 1) := by decide +kernel
theorem dX8_widen_3 : decode cX8_widen 3 = .ok (.istore 4, 2) := by decide +kernel
theorem dX8_widen_5 : decode cX8_widen 5 = .ok (.iload 4, 2) := by decide +kernel
theorem dX8_widen_7 : decode cX8_widen 7 = .ok (.iconst 3, 1) := by decide +kernel
theorem dX8_widen_8 : decode cX8_widen 8 = .ok (.if_icmp .gt 31, 3) := by decide +kernel
theorem dX8_widen_11 : decode cX8_widen 11 = .ok (.iload_n 3, 1) := by decide +kernel
theorem dX8_widen_12 : decode cX8_widen 12 = .ok (.iconst (-1), 1) := by decide +kernel
theorem dX8_widen_13 : decode cX8_widen 13 = .ok (.if_icmp .eq 26, 3) := by decide +kernel
theorem dX8_widen_16 : decode cX8_widen 16 = .ok (.aload_n 0, 1) := by decide +kernel
theorem dX8_widen_17 : decode cX8_widen 17 = .ok (.getfield 31, 3) := by decide +kernel
theorem dX8_widen_20 : decode cX8_widen 20 = .ok (.iload_n 3, 1) := by decide +kernel
theorem dX8_widen_21 : decode cX8_widen 21 = .ok (.dup2, 1) := by decide +kernel
theorem dX8_widen_22 : decode cX8_widen 22 = .ok (.iaload, 1) := by decide +kernel
theorem dX8_widen_23 : decode cX8_widen 23 = .ok (.iload_n 2, 1) := by decide +kernel
theorem dX8_widen_24 : decode cX8_widen 24 = .ok (.iadd, 1) := by decide +kernel
theorem dX8_widen_25 : decode cX8_widen 25 = .ok (.iastore, 1) := by decide +kernel
theorem dX8_widen_26 : decode cX8_widen 26 = .ok (.aload_n 0, 1) := by decide +kernel
theorem dX8_widen_27 : decode cX8_widen 27 = .ok (.getfield 28, 3) := by decide +kernel
theorem dX8_widen_30 : decode cX8_widen 30 = .ok (.iload_n 3, 1) := by decide +kernel
theorem dX8_widen_31 : decode cX8_widen 31 = .ok (.iaload, 1) := by decide +kernel
theorem dX8_widen_32 : decode cX8_widen 32 = .ok (.istore_n 3, 1) := by decide +kernel
theorem dX8_widen_33 : decode cX8_widen 33 = .ok (.iinc 4 1, 3) := by decide +kernel
theorem dX8_widen_36 : decode cX8_widen 36 = .ok (.goto (-31), 3) := by decide +kernel
theorem dX8_widen_39 : decode cX8_widen 39 = .ok (.return_, 1) := by decide +kernel
theorem dX8_hang_0 : decode cX8_hang 0 = .ok (.aload_n 0, 1) := by decide +kernel
theorem dX8_hang_1 : decode cX8_hang 1 = .ok (.getfield 31, 3) := by decide +kernel
theorem dX8_hang_4 : decode cX8_hang 4 = .ok (.iload_n 1, 1) := by decide +kernel
theorem dX8_hang_5 : decode cX8_hang 5 = .ok (.iaload, 1) := by decide +kernel
theorem dX8_hang_6 : decode cX8_hang 6 = .ok (.iconst 1, 1) := by decide +kernel
theorem dX8_hang_7 : decode cX8_hang 7 = .ok (.iadd, 1) := by decide +kernel
theorem dX8_hang_8 : decode cX8_hang 8 = .ok (.istore_n 3, 1) := by decide +kernel
theorem dX8_hang_9 : decode cX8_hang 9 = .ok (.aload_n 0, 1) := by decide +kernel
theorem dX8_hang_10 : decode cX8_hang 10 = .ok (.iload_n 2, 1) := by decide +kernel
theorem dX8_hang_11 : decode cX8_hang 11 = .ok (.invokevirtual 63, 3) := by decide +kernel
theorem dX8_hang_14 : decode cX8_hang 14 = .ok (.aload_n 0, 1) := by decide +kernel
theorem dX8_hang_15 : decode cX8_hang 15 = .ok (.getfield 31, 3) := by decide +kernel
theorem dX8_hang_18 : decode cX8_hang 18 = .ok (.iload_n 2, 1) := by decide +kernel
theorem dX8_hang_19 : decode cX8_hang 19 = .ok (.iaload, 1) := by decide +kernel
theorem dX8_hang_20 : decode cX8_hang 20 = .ok (.iadd, 1) := by decide +kernel
theorem dX8_hang_21 : decode cX8_hang 21 = .ok (.iconst 1, 1) := by decide +kernel
theorem dX8_hang_22 : decode cX8_hang 22 = .ok (.iadd, 1) := by decide +kernel
theorem dX8_hang_23 : decode cX8_hang 23 = .ok (.istore 4, 2) := by decide +kernel
theorem dX8_hang_25 : decode cX8_hang 25 = .ok (.aload_n 0, 1) := by decide +kernel
theorem dX8_hang_26 : decode cX8_hang 26 = .ok (.getfield 18, 3) := by decide +kernel
theorem dX8_hang_29 : decode cX8_hang 29 = .ok (.iload 4, 2) := by decide +kernel
theorem dX8_hang_31 : decode cX8_hang 31 = .ok (.aload_n 0, 1) := by decide +kernel
theorem dX8_hang_32 : decode cX8_hang 32 = .ok (.getfield 18, 3) := by decide +kernel
theorem dX8_hang_35 : decode cX8_hang 35 = .ok (.iload 4, 2) := by decide +kernel
theorem dX8_hang_37 : decode cX8_hang 37 = .ok (.iload_n 3, 1) := by decide +kernel
theorem dX8_hang_38 : decode cX8_hang 38 = .ok (.iadd, 1) := by decide +kernel
theorem dX8_hang_39 : decode cX8_hang 39 = .ok (.aload_n 0, 1) := by decide +kernel
theorem dX8_hang_40 : decode cX8_hang 40 = .ok (.getfield 15, 3) := by decide +kernel
theorem dX8_hang_43 : decode cX8_hang 43 = .ok (.iload 4, 2) := by decide +kernel
theorem dX8_hang_45 : decode cX8_hang 45 = .ok (.isub, 1) := by decide +kernel
theorem dX8_hang_46 : decode cX8_hang 46 = .ok (.invokestatic 49, 3) := by decide +kernel
theorem dX8_hang_49 : decode cX8_hang 49 = .ok (.aload_n 0, 1) := by decide +kernel
theorem dX8_hang_50 : decode cX8_hang 50 = .ok (.getfield 22, 3) := by decide +kernel
theorem dX8_hang_53 : decode cX8_hang 53 = .ok (.iconst 0, 1) := by decide +kernel
theorem dX8_hang_54 : decode cX8_hang 54 = .ok (.aload_n 0, 1) := by decide +kernel
theorem dX8_hang_55 : decode cX8_hang 55 = .ok (.getfield 18, 3) := by decide +kernel
theorem dX8_hang_58 : decode cX8_hang 58 = .ok (.iload 4, 2) := by decide +kernel
theorem dX8_hang_60 : decode cX8_hang 60 = .ok (.iload_n 3, 1) := by decide +kernel
theorem dX8_hang_61 : decode cX8_hang 61 = .ok (.invokestatic 49, 3) := by decide +kernel
theorem dX8_hang_64 : decode cX8_hang 64 = .ok (.aload_n 0, 1) := by decide +kernel
theorem dX8_hang_65 : decode cX8_hang 65 = .ok (.dup, 1) := by decide +kernel
theorem dX8_hang_66 : decode cX8_hang 66 = .ok (.getfield 15, 3) := by decide +kernel
theorem dX8_hang_69 : decode cX8_hang 69 = .ok (.iload_n 3, 1) := by decide +kernel
theorem dX8_hang_70 : decode cX8_hang 70 = .ok (.iadd, 1) := by decide +kernel
theorem dX8_hang_71 : decode cX8_hang 71 = .ok (.putfield 15, 3) := by decide +kernel
theorem dX8_hang_74 : decode cX8_hang 74 = .ok (.aload_n 0, 1) := by decide +kernel
theorem dX8_hang_75 : decode cX8_hang 75 = .ok (.getfield 28, 3) := by decide +kernel
theorem dX8_hang_78 : decode cX8_hang 78 = .ok (.iload_n 1, 1) := by decide +kernel
theorem dX8_hang_79 : decode cX8_hang 79 = .ok (.iload_n 2, 1) := by decide +kernel
theorem dX8_hang_80 : decode cX8_hang 80 = .ok (.iastore, 1) := by decide +kernel
theorem dX8_hang_81 : decode cX8_hang 81 = .ok (.aload_n 0, 1) := by decide +kernel
theorem dX8_hang_82 : decode cX8_hang 82 = .ok (.iload_n 2, 1) := by decide +kernel
theorem dX8_hang_83 : decode cX8_hang 83 = .ok (.iload_n 3, 1) := by decide +kernel
theorem dX8_hang_84 : decode cX8_hang 84 = .ok (.invokevirtual 67, 3) := by decide +kernel
theorem dX8_hang_87 : decode cX8_hang 87 = .ok (.return_, 1) := by decide +kernel
theorem dX8_grow_0 : decode cX8_grow 0 = .ok (.aload_n 0, 1) := by decide +kernel
theorem dX8_grow_1 : decode cX8_grow 1 = .ok (.getfield 9, 3) := by decide +kernel
theorem dX8_grow_4 : decode cX8_grow 4 = .ok (.istore 6, 2) := by decide +kernel
theorem dX8_grow_6 : decode cX8_grow 6 = .ok (.aload_n 0, 1) := by decide +kernel
theorem dX8_grow_7 : decode cX8_grow 7 = .ok (.dup, 1) := by decide +kernel
theorem dX8_grow_8 : decode cX8_grow 8 = .ok (.getfield 9, 3) := by decide +kernel
theorem dX8_grow_11 : decode cX8_grow 11 = .ok (.iconst 1, 1) := by decide +kernel
theorem dX8_grow_12 : decode cX8_grow 12 = .ok (.iadd, 1) := by decide +kernel
theorem dX8_grow_13 : decode cX8_grow 13 = .ok (.putfield 9, 3) := by decide +kernel
theorem dX8_grow_16 : decode cX8_grow 16 = .ok (.aload_n 0, 1) := by decide +kernel
theorem dX8_grow_17 : decode cX8_grow 17 = .ok (.getfield 25, 3) := by decide +kernel
theorem dX8_grow_20 : decode cX8_grow 20 = .ok (.iload 6, 2) := by decide +kernel
theorem dX8_grow_22 : decode cX8_grow 22 = .ok (.iload_n 2, 1) := by decide +kernel
theorem dX8_grow_23 : decode cX8_grow 23 = .ok (.iastore, 1) := by decide +kernel
theorem dX8_grow_24 : decode cX8_grow 24 = .ok (.aload_n 0, 1) := by decide +kernel
theorem dX8_grow_25 : decode cX8_grow 25 = .ok (.getfield 31, 3) := by decide +kernel
theorem dX8_grow_28 : decode cX8_grow 28 = .ok (.iload 6, 2) := by decide +kernel
theorem dX8_grow_30 : decode cX8_grow 30 = .ok (.iconst 0, 1) := by decide +kernel
theorem dX8_grow_31 : decode cX8_grow 31 = .ok (.iastore, 1) := by decide +kernel
theorem dX8_grow_32 : decode cX8_grow 32 = .ok (.aload_n 0, 1) := by decide +kernel
theorem dX8_grow_33 : decode cX8_grow 33 = .ok (.getfield 34, 3) := by decide +kernel
theorem dX8_grow_36 : decode cX8_grow 36 = .ok (.iload 6, 2) := by decide +kernel
theorem dX8_grow_38 : decode cX8_grow 38 = .ok (.iload_n 3, 1) := by decide +kernel
theorem dX8_grow_39 : decode cX8_grow 39 = .ok (.iastore, 1) := by decide +kernel
theorem dX8_grow_40 : decode cX8_grow 40 = .ok (.aload_n 0, 1) := by decide +kernel
theorem dX8_grow_41 : decode cX8_grow 41 = .ok (.getfield 37, 3) := by decide +kernel
theorem dX8_grow_44 : decode cX8_grow 44 = .ok (.iload 6, 2) := by decide +kernel
theorem dX8_grow_46 : decode cX8_grow 46 = .ok (.iload 4, 2) := by decide +kernel
theorem dX8_grow_48 : decode cX8_grow 48 = .ok (.iastore, 1) := by decide +kernel
theorem dX8_grow_49 : decode cX8_grow 49 = .ok (.aload_n 0, 1) := by decide +kernel
theorem dX8_grow_50 : decode cX8_grow 50 = .ok (.getfield 40, 3) := by decide +kernel
theorem dX8_grow_53 : decode cX8_grow 53 = .ok (.iload 6, 2) := by decide +kernel
theorem dX8_grow_55 : decode cX8_grow 55 = .ok (.iload 4, 2) := by decide +kernel
theorem dX8_grow_57 : decode cX8_grow 57 = .ok (.iconst (-1), 1) := by decide +kernel
theorem dX8_grow_58 : decode cX8_grow 58 = .ok (.if_icmp .ne 7, 3) := by decide +kernel
theorem dX8_grow_65 : decode cX8_grow 65 = .ok (.iload 5, 2) := by decide +kernel
theorem dX8_grow_67 : decode cX8_grow 67 = .ok (.iastore, 1) := by decide +kernel
theorem dX8_grow_68 : decode cX8_grow 68 = .ok (.aload_n 0, 1) := by decide +kernel
theorem dX8_grow_69 : decode cX8_grow 69 = .ok (.getfield 22, 3) := by decide +kernel
theorem dX8_grow_72 : decode cX8_grow 72 = .ok (.iconst 0, 1) := by decide +kernel
theorem dX8_grow_73 : decode cX8_grow 73 = .ok (.iload 6, 2) := by decide +kernel
theorem dX8_grow_75 : decode cX8_grow 75 = .ok (.iastore, 1) := by decide +kernel
theorem dX8_grow_76 : decode cX8_grow 76 = .ok (.aload_n 0, 1) := by decide +kernel
theorem dX8_grow_77 : decode cX8_grow 77 = .ok (.iload 6, 2) := by decide +kernel
theorem dX8_grow_79 : decode cX8_grow 79 = .ok (.iload_n 1, 1) := by decide +kernel
theorem dX8_grow_80 : decode cX8_grow 80 = .ok (.invokevirtual 55, 3) := by decide +kernel
theorem dX8_grow_83 : decode cX8_grow 83 = .ok (.iload 6, 2) := by decide +kernel
theorem dX8_grow_85 : decode cX8_grow 85 = .ok (.ireturn, 1) := by decide +kernel
theorem dX8_grow_61 : decode cX8_grow 61 = .ok (.iconst (-1), 1) := by decide +kernel
theorem dX8_grow_62 : decode cX8_grow 62 = .ok (.goto 5, 3) := by decide +kernel
theorem dX9_feed_0 : decode cX9_feed 0 = .ok (.aload_n 0, 1) := by decide +kernel
theorem dX9_feed_1 : decode cX9_feed 1 = .ok (.getfield 40, 3) := by decide +kernel
theorem dX9_feed_4 : decode cX9_feed 4 = .ok (.getfield 432, 3) := by decide +kernel
theorem dX9_feed_7 : decode cX9_feed 7 = .ok (.bipush 100, 2) := by decide +kernel
theorem dX9_feed_9 : decode cX9_feed 9 = .ok (.if_icmp .lt 14, 3) := by decide +kernel
theorem dX9_feed_23 : decode cX9_feed 23 = .ok (.aload_n 0, 1) := by decide +kernel
theorem dX9_feed_24 : decode cX9_feed 24 = .ok (.getfield 40, 3) := by decide +kernel
theorem dX9_feed_27 : decode cX9_feed 27 = .ok (.iload_n 1, 1) := by decide +kernel
theorem dX9_feed_28 : decode cX9_feed 28 = .ok (.invokevirtual 436, 3) := by decide +kernel
theorem dX9_feed_31 : decode cX9_feed 31 = .ok (.ireturn, 1) := by decide +kernel
theorem dX9_read_0 : decode cX9_read 0 = .ok (.aload_n 0, 1) := by decide +kernel
theorem dX9_read_1 : decode cX9_read 1 = .ok (.iload_n 1, 1) := by decide +kernel
theorem dX9_read_2 : decode cX9_read 2 = .ok (.invokevirtual 51, 3) := by decide +kernel
theorem dX9_read_5 : decode cX9_read 5 = .ok (.aload_n 0, 1) := by decide +kernel
theorem dX9_read_6 : decode cX9_read 6 = .ok (.getfield 40, 3) := by decide +kernel
theorem dX9_read_9 : decode cX9_read 9 = .ok (.invokevirtual 439, 3) := by decide +kernel
theorem dX9_read_12 : decode cX9_read 12 = .ok (.istore_n 2, 1) := by decide +kernel
theorem dX9_read_13 : decode cX9_read 13 = .ok (.aload_n 0, 1) := by decide +kernel
theorem dX9_read_14 : decode cX9_read 14 = .ok (.getfield 40, 3) := by decide +kernel
theorem dX9_read_17 : decode cX9_read 17 = .ok (.iconst 0, 1) := by decide +kernel
theorem dX9_read_18 : decode cX9_read 18 = .ok (.putfield 432, 3) := by decide +kernel
theorem dX9_read_21 : decode cX9_read 21 = .ok (.iload_n 2, 1) := by decide +kernel
theorem dX9_read_22 : decode cX9_read 22 = .ok (.iconst (-1), 1) := by decide +kernel
theorem dX9_read_23 : decode cX9_read 23 = .ok (.if_icmp .eq 8, 3) := by decide +kernel
theorem dX9_read_26 : decode cX9_read 26 = .ok (.bipush (-100), 2) := by decide +kernel
theorem dX9_read_28 : decode cX9_read 28 = .ok (.iload_n 2, 1) := by decide +kernel
theorem dX9_read_29 : decode cX9_read 29 = .ok (.isub, 1) := by decide +kernel
theorem dX9_read_30 : decode cX9_read 30 = .ok (.ireturn, 1) := by decide +kernel
theorem dX9_write_0 : decode cX9_write 0 = .ok (.aload_n 0, 1) := by decide +kernel
theorem dX9_write_1 : decode cX9_write 1 = .ok (.iload_n 1, 1) := by decide +kernel
theorem dX9_write_2 : decode cX9_write 2 = .ok (.invokevirtual 51, 3) := by decide +kernel
theorem dX9_write_5 : decode cX9_write 5 = .ok (.aload_n 0, 1) := by decide +kernel
theorem dX9_write_6 : decode cX9_write 6 = .ok (.getfield 47, 3) := by decide +kernel
theorem dX9_write_9 : decode cX9_write 9 = .ok (.iconst 0, 1) := by decide +kernel
theorem dX9_write_10 : decode cX9_write 10 = .ok (.invokevirtual 453, 3) := by decide +kernel
theorem dX9_write_13 : decode cX9_write 13 = .ok (.aload_n 0, 1) := by decide +kernel
theorem dX9_write_14 : decode cX9_write 14 = .ok (.getfield 10, 3) := by decide +kernel
theorem dX9_write_17 : decode cX9_write 17 = .ok (.getfield 55, 3) := by decide +kernel
theorem dX9_write_20 : decode cX9_write 20 = .ok (.astore_n 2, 1) := by decide +kernel
theorem dX9_write_21 : decode cX9_write 21 = .ok (.aload_n 2, 1) := by decide +kernel
theorem dX9_write_22 : decode cX9_write 22 = .ok (.iload_n 1, 1) := by decide +kernel
theorem dX9_write_23 : decode cX9_write 23 = .ok (.invokevirtual 456, 3) := by decide +kernel
theorem dX9_write_26 : decode cX9_write 26 = .ok (.istore_n 3, 1) := by decide +kernel
theorem dX9_write_27 : decode cX9_write 27 = .ok (.iload_n 3, 1) := by decide +kernel
theorem dX9_write_28 : decode cX9_write 28 = .ok (.aload_n 2, 1) := by decide +kernel
theorem dX9_write_29 : decode cX9_write 29 = .ok (.getfield 130, 3) := by decide +kernel
theorem dX9_write_32 : decode cX9_write 32 = .ok (.iload_n 1, 1) := by decide +kernel
theorem dX9_write_33 : decode cX9_write 33 = .ok (.iaload, 1) := by decide +kernel
theorem dX9_write_34 : decode cX9_write 34 = .ok (.iadd, 1) := by decide +kernel
theorem dX9_write_35 : decode cX9_write 35 = .ok (.istore 4, 2) := by decide +kernel
theorem dX9_write_37 : decode cX9_write 37 = .ok (.aload_n 2, 1) := by decide +kernel
theorem dX9_write_38 : decode cX9_write 38 = .ok (.iload_n 1, 1) := by decide +kernel
theorem dX9_write_39 : decode cX9_write 39 = .ok (.invokevirtual 459, 3) := by decide +kernel
theorem dX9_write_42 : decode cX9_write 42 = .ok (.istore 5, 2) := by decide +kernel
theorem dX9_write_44 : decode cX9_write 44 = .ok (.iload_n 3, 1) := by decide +kernel
theorem dX9_write_45 : decode cX9_write 45 = .ok (.istore 6, 2) := by decide +kernel
theorem dX9_write_47 : decode cX9_write 47 = .ok (.iload 6, 2) := by decide +kernel
theorem dX9_write_49 : decode cX9_write 49 = .ok (.iload 4, 2) := by decide +kernel
theorem dX9_write_51 : decode cX9_write 51 = .ok (.if_icmp .gt 76, 3) := by decide +kernel
theorem dX9_write_54 : decode cX9_write 54 = .ok (.iload 6, 2) := by decide +kernel
theorem dX9_write_56 : decode cX9_write 56 = .ok (.iload 4, 2) := by decide +kernel
theorem dX9_write_58 : decode cX9_write 58 = .ok (.if_icmp .ge 19, 3) := by decide +kernel
theorem dX9_write_77 : decode cX9_write 77 = .ok (.iload 5, 2) := by decide +kernel
theorem dX9_write_79 : decode cX9_write 79 = .ok (.istore 7, 2) := by decide +kernel
theorem dX9_write_81 : decode cX9_write 81 = .ok (.aload_n 0, 1) := by decide +kernel
theorem dX9_write_82 : decode cX9_write 82 = .ok (.aload_n 2, 1) := by decide +kernel
theorem dX9_write_83 : decode cX9_write 83 = .ok (.getfield 462, 3) := by decide +kernel
theorem dX9_write_86 : decode cX9_write 86 = .ok (.iload 6, 2) := by decide +kernel
theorem dX9_write_88 : decode cX9_write 88 = .ok (.iaload, 1) := by decide +kernel
theorem dX9_write_89 : decode cX9_write 89 = .ok (.invokevirtual 465, 3) := by decide +kernel
theorem dX9_write_92 : decode cX9_write 92 = .ok (.aload_n 0, 1) := by decide +kernel
theorem dX9_write_93 : decode cX9_write 93 = .ok (.aload_n 2, 1) := by decide +kernel
theorem dX9_write_94 : decode cX9_write 94 = .ok (.aload_n 2, 1) := by decide +kernel
theorem dX9_write_95 : decode cX9_write 95 = .ok (.getfield 462, 3) := by decide +kernel
theorem dX9_write_98 : decode cX9_write 98 = .ok (.iload 6, 2) := by decide +kernel
theorem dX9_write_100 : decode cX9_write 100 = .ok (.iaload, 1) := by decide +kernel
theorem dX9_write_101 : decode cX9_write 101 = .ok (.invokevirtual 459, 3) := by decide +kernel
theorem dX9_write_104 : decode cX9_write 104 = .ok (.iload 7, 2) := by decide +kernel
theorem dX9_write_106 : decode cX9_write 106 = .ok (.iload 6, 2) := by decide +kernel
theorem dX9_write_108 : decode cX9_write 108 = .ok (.iload 4, 2) := by decide +kernel
theorem dX9_write_110 : decode cX9_write 110 = .ok (.if_icmp .ge 7, 3) := by decide +kernel
theorem dX9_write_117 : decode cX9_write 117 = .ok (.iconst 0, 1) := by decide +kernel
theorem dX9_write_118 : decode cX9_write 118 = .ok (.invokevirtual 468, 3) := by decide +kernel
theorem dX9_write_121 : decode cX9_write 121 = .ok (.iinc 6 1, 3) := by decide +kernel
theorem dX9_write_124 : decode cX9_write 124 = .ok (.goto (-77), 3) := by decide +kernel
theorem dX9_write_127 : decode cX9_write 127 = .ok (.aload_n 0, 1) := by decide +kernel
theorem dX9_write_128 : decode cX9_write 128 = .ok (.getfield 47, 3) := by decide +kernel
theorem dX9_write_131 : decode cX9_write 131 = .ok (.invokevirtual 472, 3) := by decide +kernel
theorem dX9_write_134 : decode cX9_write 134 = .ok (.ireturn, 1) := by decide +kernel
end
section
set_option maxHeartbeats 4000000 in
set_option maxRecDepth 100000 in
theorem c_openC (l : Launch) (A : Nat → Prop) (D : va_G) (k : Nat → ClassId) (q : Nat → Nat) (f : Nat → Nat → Int32) (pa : Nat → Option Nat) (v : Nat → Int32) (p0 : Int32) (g_v_3 : v 3 = 0) (g_v_4 : v 4 = 0)  :
    Met l yX0_open (fz_ws yX0_open cX0_open 3 (some .int)) { frames := 0, cells := 0, slots := 0, locals := 0 } (va_Pc [.ref (q 14), .int p0] (fz_PC A D (fz_tys k) (fz_WC k q f pa v))) (fz_QI D A (fun (_ : Unit) => ([] : va_W)) (fun (r : Int32) (_ : Unit) => r = 0)) 0 0 A := by
  refine fz_of (by decide +kernel) (Nat.le_of_ble_eq_true rfl) ?_
  intro p e s m below meth c hx hb hr hml hown hlocks hts hin hA hP hK hD hG hS ls hl
  have hown : s.vm.findClass RX0 = some m.cls := hown
  have S0 : CallFix p m c cX0_open 3 s [.ref (q 14), .int p0].toArray (fz_ws yX0_open cX0_open 3 (some .int)) RX0 := ⟨hx, hb, hml, hown, hts⟩
  have hl : lv_has ls 3 [(0, .ref (q 14)), (1, .int p0)] := hl
  refine lv_aload_n hx hb dX0_open_0 rfl (lv_at hl 0 rfl) ?_
  refine va_get (D := D) (ci := 4) (v := .int (v 3)) (C := RX0) (T := TX0) (N := 9) hx hb hts (fun w9 h9 => fz_m (fin_X0 w9 h9)) hown hK hP 14 rfl rfl 0 (by decide) (hts _ (fz_m fm_7)) (fun _ h9 => h9) rfl dX0_open_1 ?_
  refine fz_I (y := 0) g_v_3 ?_
  refine lv_istore_n (lv' := [(2, .int 0), (0, .ref (q 14)), (1, .int p0)]) hx hb dX0_open_4 rfl hl (by decide) rfl (fun ls hl => ?_)
  refine lv_aload_n hx hb dX0_open_5 rfl (lv_at hl 1 rfl) ?_
  refine va_get (D := D) (ci := 4) (v := .ref (q 15)) (C := RX0) (T := TX0) (N := 9) hx hb hts (fun w9 h9 => fz_m (fin_X0 w9 h9)) hown hK hP 14 rfl rfl 3 (by decide) (hts _ (fz_m fm_212)) (fun _ h9 => h9) rfl dX0_open_6 ?_
  refine lv_iload_n hx hb dX0_open_9 rfl (lv_at hl 0 rfl) ?_
  refine lv_iload_n hx hb dX0_open_10 rfl (lv_at hl 2 rfl) ?_
  refine va_iast hx hb hK hP hD hS 15 0 rfl rfl (fz_vin (by decide)) dX0_open_11 (fun H locs hP hD hS => ?_)
  have hP : va_P D vwCl (fz_WC k q (va_up f 15 (upd (f 15) 0 p0)) pa v) H := hP
  have hD : va_D A (fz_WC k q (va_up f 15 (upd (f 15) 0 p0)) pa v) := hD
  refine lv_aload_n hx hb dX0_open_12 rfl (lv_at hl 1 rfl) ?_
  refine lv_dup hx hb dX0_open_13 rfl ?_
  refine va_get (D := D) (ci := 4) (v := .int (v 3)) (C := RX0) (T := TX0) (N := 9) hx hb hts (fun w9 h9 => fz_m (fin_X0 w9 h9)) hown hK hP 14 rfl rfl 0 (by decide) (hts _ (fz_m fm_7)) (fun _ h9 => h9) rfl dX0_open_14 ?_
  refine fz_I (y := 0) g_v_3 ?_
  refine lv_iconst (v := 1) hx hb dX0_open_17 (by decide) ?_
  refine lv_iadd hx hb dX0_open_18 ?_
  refine fz_I (y := 1) (by decide) ?_
  refine va_put (D := D) (ci := 4) (v := .int 1) (ty := .int) (C := RX0) (T := TX0) (N := 9) hx hb hts (fun w9 h9 => fz_m (fin_X0 w9 h9)) tyX0 tyX0_ok nmX0 hown hK hP hD hS 14 rfl rfl 0 (by decide) (hts _ (fz_m fm_7)) (fun _ h9 => h9) rfl (by decide +kernel) rfl rfl (Nat.le_of_ble_eq_true rfl) dX0_open_19 (fun H locs hP hD hS => ?_)
  have hP : va_P D vwCl (fz_WC k q (va_up f 15 (upd (f 15) 0 p0)) pa (va_up v 3 1)) H := hP
  have hD : va_D A (fz_WC k q (va_up f 15 (upd (f 15) 0 p0)) pa (va_up v 3 1)) := hD
  refine lv_aload_n hx hb dX0_open_22 rfl (lv_at hl 1 rfl) ?_
  refine lv_dup hx hb dX0_open_23 rfl ?_
  refine va_get (D := D) (ci := 4) (v := .int ((va_up v 3 1) 4)) (C := RX0) (T := TX0) (N := 9) hx hb hts (fun w9 h9 => fz_m (fin_X0 w9 h9)) hown hK hP 14 rfl rfl 1 (by decide) (hts _ (fz_m fm_67)) (fun _ h9 => h9) rfl dX0_open_24 ?_
  refine fz_I (y := 0) g_v_4 ?_
  refine lv_iconst (v := 1) hx hb dX0_open_27 (by decide) ?_
  refine lv_iadd hx hb dX0_open_28 ?_
  refine fz_I (y := 1) (by decide) ?_
  refine va_put (D := D) (ci := 4) (v := .int 1) (ty := .int) (C := RX0) (T := TX0) (N := 9) hx hb hts (fun w9 h9 => fz_m (fin_X0 w9 h9)) tyX0 tyX0_ok nmX0 hown hK hP hD hS 14 rfl rfl 1 (by decide) (hts _ (fz_m fm_67)) (fun _ h9 => h9) rfl (by decide +kernel) rfl rfl (Nat.le_of_ble_eq_true rfl) dX0_open_29 (fun H locs hP hD hS => ?_)
  have hP : va_P D vwCl (fz_WC k q (va_up f 15 (upd (f 15) 0 p0)) pa (va_up (va_up v 3 1) 4 1)) H := hP
  have hD : va_D A (fz_WC k q (va_up f 15 (upd (f 15) 0 p0)) pa (va_up (va_up v 3 1) 4 1)) := hD
  refine lv_iload_n hx hb dX0_open_32 rfl (lv_at hl 0 rfl) ?_
  have hP : va_P D vwCl [] H := fz_nil
  exact fz_iret hx hb hr rfl hlocks hS dX0_open_33 () rfl hP (Nat.le_of_ble_eq_true rfl) (Nat.le_of_ble_eq_true rfl)

set_option maxHeartbeats 4000000 in
set_option maxRecDepth 100000 in
theorem c_appendI (l : Launch) (A : Nat → Prop) (D : va_G) (k : Nat → ClassId) (q : Nat → Nat) (f : Nat → Nat → Int32) (pa : Nat → Option Nat) (v : Nat → Int32) (p0 : Int32) (g_v_12 : v 12 = 0)  :
    Met l yX2_append (fz_ws yX2_append cX2_append 2 (some .int)) { frames := 0, cells := 0, slots := 0, locals := 0 } (va_Pc [.ref (q 34), .int p0] (fz_PC A D (fz_tys k) (fz_WC k q f pa v))) (fz_QI D A (fun (_ : Unit) => ([] : va_W)) (fun (r : Int32) (_ : Unit) => r = 1)) 0 0 A := by
  refine fz_of (by decide +kernel) (Nat.le_of_ble_eq_true rfl) ?_
  intro p e s m below meth c hx hb hr hml hown hlocks hts hin hA hP hK hD hG hS ls hl
  have hown : s.vm.findClass RX2 = some m.cls := hown
  have S0 : CallFix p m c cX2_append 2 s [.ref (q 34), .int p0].toArray (fz_ws yX2_append cX2_append 2 (some .int)) RX2 := ⟨hx, hb, hml, hown, hts⟩
  have hl : lv_has ls 2 [(0, .ref (q 34)), (1, .int p0)] := hl
  refine lv_aload_n hx hb dX2_append_0 rfl (lv_at hl 0 rfl) ?_
  refine va_get (D := D) (ci := 6) (v := .ref (q 36)) (C := RX2) (T := TX2) (N := 9) hx hb hts (fun w9 h9 => fz_m (fin_X2 w9 h9)) hown hK hP 34 rfl rfl 7 (by decide) (hts _ (fz_m fm_213)) (fun _ h9 => h9) rfl dX2_append_1 ?_
  refine lv_aload_n hx hb dX2_append_4 rfl (lv_at hl 0 rfl) ?_
  refine va_get (D := D) (ci := 6) (v := .int (v 12)) (C := RX2) (T := TX2) (N := 9) hx hb hts (fun w9 h9 => fz_m (fin_X2 w9 h9)) hown hK hP 34 rfl rfl 0 (by decide) (hts _ (fz_m fm_214)) (fun _ h9 => h9) rfl dX2_append_5 ?_
  refine fz_I (y := 0) g_v_12 ?_
  refine lv_iload_n hx hb dX2_append_8 rfl (lv_at hl 1 rfl) ?_
  refine va_cast hx hb hK hP hD hS 36 1 rfl rfl (fz_vin (by decide)) dX2_append_9 (fun H locs hP hD hS => ?_)
  have hP : va_P D vwCl (fz_WC k q (va_up f 36 (upd (f 36) 0 (vp_nar .char p0))) pa v) H := hP
  have hD : va_D A (fz_WC k q (va_up f 36 (upd (f 36) 0 (vp_nar .char p0))) pa v) := hD
  refine lv_aload_n hx hb dX2_append_10 rfl (lv_at hl 0 rfl) ?_
  refine lv_dup hx hb dX2_append_11 rfl ?_
  refine va_get (D := D) (ci := 6) (v := .int (v 12)) (C := RX2) (T := TX2) (N := 9) hx hb hts (fun w9 h9 => fz_m (fin_X2 w9 h9)) hown hK hP 34 rfl rfl 0 (by decide) (hts _ (fz_m fm_214)) (fun _ h9 => h9) rfl dX2_append_12 ?_
  refine fz_I (y := 0) g_v_12 ?_
  refine lv_iconst (v := 1) hx hb dX2_append_15 (by decide) ?_
  refine lv_iadd hx hb dX2_append_16 ?_
  refine fz_I (y := 1) (by decide) ?_
  refine va_put (D := D) (ci := 6) (v := .int 1) (ty := .int) (C := RX2) (T := TX2) (N := 9) hx hb hts (fun w9 h9 => fz_m (fin_X2 w9 h9)) tyX2 tyX2_ok nmX2 hown hK hP hD hS 34 rfl rfl 0 (by decide) (hts _ (fz_m fm_214)) (fun _ h9 => h9) rfl (by decide +kernel) rfl rfl (Nat.le_of_ble_eq_true rfl) dX2_append_17 (fun H locs hP hD hS => ?_)
  have hP : va_P D vwCl (fz_WC k q (va_up f 36 (upd (f 36) 0 (vp_nar .char p0))) pa (va_up v 12 1)) H := hP
  have hD : va_D A (fz_WC k q (va_up f 36 (upd (f 36) 0 (vp_nar .char p0))) pa (va_up v 12 1)) := hD
  refine lv_aload_n hx hb dX2_append_20 rfl (lv_at hl 0 rfl) ?_
  refine va_get (D := D) (ci := 6) (v := .int ((va_up v 12 1) 12)) (C := RX2) (T := TX2) (N := 9) hx hb hts (fun w9 h9 => fz_m (fin_X2 w9 h9)) hown hK hP 34 rfl rfl 0 (by decide) (hts _ (fz_m fm_214)) (fun _ h9 => h9) rfl dX2_append_21 ?_
  refine fz_I (y := 1) rfl ?_
  have hP : va_P D vwCl [] H := fz_nil
  exact fz_iret hx hb hr rfl hlocks hS dX2_append_24 () rfl hP (Nat.le_of_ble_eq_true rfl) (Nat.le_of_ble_eq_true rfl)

set_option maxHeartbeats 4000000 in
set_option maxRecDepth 100000 in
theorem c_digit (l : Launch) (A : Nat → Prop) (D : va_G) (k : Nat → ClassId) (q : Nat → Nat) (f : Nat → Nat → Int32) (pa : Nat → Option Nat) (v : Nat → Int32) (g_v_14 : v 14 = 0) (g_v_12 : v 12 = 0)  :
    Met l yX2_digit (fz_ws yX2_digit cX2_digit 1 (some .int)) { frames := 0, cells := 0, slots := 0, locals := 0 } (va_Pc [.ref (q 34)] (fz_PC A D (fz_tys k) (fz_WC k q f pa v))) (fz_QI D A (fun (_ : Unit) => fz_WC k q f pa v) (fun (r : Int32) (_ : Unit) => r = (-1))) 0 0 A := by
  refine fz_of (by decide +kernel) (Nat.le_of_ble_eq_true rfl) ?_
  intro p e s m below meth c hx hb hr hml hown hlocks hts hin hA hP hK hD hG hS ls hl
  have hown : s.vm.findClass RX2 = some m.cls := hown
  have S0 : CallFix p m c cX2_digit 1 s [.ref (q 34)].toArray (fz_ws yX2_digit cX2_digit 1 (some .int)) RX2 := ⟨hx, hb, hml, hown, hts⟩
  have hl : lv_has ls 1 [(0, .ref (q 34))] := hl
  refine lv_aload_n hx hb dX2_digit_0 rfl (lv_at hl 0 rfl) ?_
  refine va_get (D := D) (ci := 6) (v := .int (v 14)) (C := RX2) (T := TX2) (N := 9) hx hb hts (fun w9 h9 => fz_m (fin_X2 w9 h9)) hown hK hP 34 rfl rfl 8 (by decide) (hts _ (fz_m fm_215)) (fun _ h9 => h9) rfl dX2_digit_1 ?_
  refine fz_I (y := 0) g_v_14 ?_
  refine lv_aload_n hx hb dX2_digit_4 rfl (lv_at hl 0 rfl) ?_
  refine va_get (D := D) (ci := 6) (v := .int (v 12)) (C := RX2) (T := TX2) (N := 9) hx hb hts (fun w9 h9 => fz_m (fin_X2 w9 h9)) hown hK hP 34 rfl rfl 0 (by decide) (hts _ (fz_m fm_214)) (fun _ h9 => h9) rfl dX2_digit_5 ?_
  refine fz_I (y := 0) g_v_12 ?_
  refine lv_icmp_ge (tgt := 54) hx hb dX2_digit_8 (by decide) (fun c_1 => ?_) (fun c_1 => absurd (by decide) c_1)
  refine lv_iconst (v := (-1)) hx hb dX2_digit_54 (by decide) ?_
  exact fz_iret hx hb hr rfl hlocks hS dX2_digit_55 () rfl hP (Nat.le_of_ble_eq_true rfl) (Nat.le_of_ble_eq_true rfl)

set_option maxHeartbeats 4000000 in
set_option maxRecDepth 100000 in
theorem c_parseNode (l : Launch) (A : Nat → Prop) (D : va_G) (k : Nat → ClassId) (q : Nat → Nat) (f : Nat → Nat → Int32) (pa : Nat → Option Nat) (v : Nat → Int32) (g_v_14 : v 14 = 0) (g_v_12 : v 12 = 0)  :
    Met l yX2_parseNode (fz_ws yX2_parseNode cX2_parseNode 7 (some .boolean)) { frames := 12, cells := 0, slots := 0, locals := 160 } (va_Pc [.ref (q 34), .int (-1)] (fz_PC A D (fz_tys k) (fz_WC k q f pa v))) (fz_QI D A (fun (_ : Unit) => fz_WC k q f pa v) (fun (r : Int32) (_ : Unit) => r = 0)) 0 0 A := by
  refine fz_of (by decide +kernel) (Nat.le_of_ble_eq_true rfl) ?_
  intro p e s m below meth c hx hb hr hml hown hlocks hts hin hA hP hK hD hG hS ls hl
  have hown : s.vm.findClass RX2 = some m.cls := hown
  have S0 : CallFix p m c cX2_parseNode 7 s [.ref (q 34), .int (-1)].toArray (fz_ws yX2_parseNode cX2_parseNode 7 (some .boolean)) RX2 := ⟨hx, hb, hml, hown, hts⟩
  have hl : lv_has ls 7 [(0, .ref (q 34)), (1, .int (-1))] := hl
  refine lv_aload_n hx hb dX2_parseNode_0 rfl (lv_at hl 0 rfl) ?_
  refine fz_cVi (As := []) (rest := []) S0 (c_digit l A D k q f pa v g_v_14 g_v_12) (fz_cwV (C := RX2) 0 hts fm_216 fm_217 fm_218 fm_219 fm_220 rfl rfl ⟨by decide, by decide, by decide +kernel⟩ ⟨Nat.le_of_ble_eq_true rfl, Nat.le_of_ble_eq_true rfl⟩) (va_recv hK hP (ci := 6) (q0 := 34) rfl rfl) (fun _ h9 => h9) (fun a9 h9 => hA a9 (Nat.le_trans hS.1 h9)) hG hS hP hK hD rfl hl.1 rfl (Nat.le_of_ble_eq_true rfl) dX2_parseNode_1 ⟨Nat.le_of_ble_eq_true rfl, Nat.le_of_ble_eq_true rfl⟩ (fun r_1 u_1 H locs hw hz1 hk1 hP hS => ?_)
  have hP : va_P D vwCl (fz_WC k q f pa v) H := hP
  obtain rfl : r_1 = (-1) := hw
  refine lv_istore_n (lv' := [(2, .int (-1)), (0, .ref (q 34)), (1, .int (-1))]) hx hb dX2_parseNode_4 rfl hl (by decide) rfl (fun ls hl => ?_)
  refine lv_iload_n hx hb dX2_parseNode_5 rfl (lv_at hl 0 rfl) ?_
  refine lv_iconst (v := (-1)) hx hb dX2_parseNode_6 (by decide) ?_
  refine lv_icmp_eq (tgt := 15) hx hb dX2_parseNode_7 (by decide) (fun c_2 => ?_) (fun c_2 => absurd (by decide) c_2)
  refine lv_iconst (v := 0) hx hb dX2_parseNode_15 (by decide) ?_
  exact fz_iret hx hb hr rfl hlocks hS dX2_parseNode_16 () rfl hP (Nat.le_of_ble_eq_true rfl) (Nat.le_of_ble_eq_true rfl)

set_option maxHeartbeats 4000000 in
set_option maxRecDepth 100000 in
theorem c_parse (l : Launch) (A : Nat → Prop) (D : va_G) (k : Nat → ClassId) (q : Nat → Nat) (f : Nat → Nat → Int32) (pa : Nat → Option Nat) (v : Nat → Int32) (g_v_12 : v 12 = 0)  :
    Met l yX2_parse (fz_ws yX2_parse cX2_parse 3 (some .int)) { frames := 24, cells := 0, slots := 0, locals := 320 } (va_Pc [.ref (q 34)] (fz_PC A D (fz_tys k) (fz_WC k q f pa v))) (fz_QI D A (fun (_ : Unit) => fz_WC k q f pa (va_up (va_up v 13 0) 14 0)) (fun (r : Int32) (_ : Unit) => r = 0)) 0 0 A := by
  refine fz_of (by decide +kernel) (Nat.le_of_ble_eq_true rfl) ?_
  intro p e s m below meth c hx hb hr hml hown hlocks hts hin hA hP hK hD hG hS ls hl
  have hown : s.vm.findClass RX2 = some m.cls := hown
  have S0 : CallFix p m c cX2_parse 3 s [.ref (q 34)].toArray (fz_ws yX2_parse cX2_parse 3 (some .int)) RX2 := ⟨hx, hb, hml, hown, hts⟩
  have hl : lv_has ls 3 [(0, .ref (q 34))] := hl
  refine lv_aload_n hx hb dX2_parse_0 rfl (lv_at hl 0 rfl) ?_
  refine lv_iconst (v := 0) hx hb dX2_parse_1 (by decide) ?_
  refine va_put (D := D) (ci := 6) (v := .int 0) (ty := .int) (C := RX2) (T := TX2) (N := 9) hx hb hts (fun w9 h9 => fz_m (fin_X2 w9 h9)) tyX2 tyX2_ok nmX2 hown hK hP hD hS 34 rfl rfl 8 (by decide) (hts _ (fz_m fm_215)) (fun _ h9 => h9) rfl (by decide +kernel) rfl rfl (Nat.le_of_ble_eq_true rfl) dX2_parse_2 (fun H locs hP hD hS => ?_)
  have hP : va_P D vwCl (fz_WC k q f pa (va_up v 14 0)) H := hP
  have hD : va_D A (fz_WC k q f pa (va_up v 14 0)) := hD
  refine lv_aload_n hx hb dX2_parse_5 rfl (lv_at hl 0 rfl) ?_
  refine lv_iconst (v := 0) hx hb dX2_parse_6 (by decide) ?_
  refine va_put (D := D) (ci := 6) (v := .int 0) (ty := .int) (C := RX2) (T := TX2) (N := 9) hx hb hts (fun w9 h9 => fz_m (fin_X2 w9 h9)) tyX2 tyX2_ok nmX2 hown hK hP hD hS 34 rfl rfl 1 (by decide) (hts _ (fz_m fm_221)) (fun _ h9 => h9) rfl (by decide +kernel) rfl rfl (Nat.le_of_ble_eq_true rfl) dX2_parse_7 (fun H locs hP hD hS => ?_)
  have hP : va_P D vwCl (fz_WC k q f pa (va_up (va_up v 14 0) 13 0)) H := hP
  have hD : va_D A (fz_WC k q f pa (va_up (va_up v 14 0) 13 0)) := hD
  refine lv_iconst (v := (-1)) hx hb dX2_parse_10 (by decide) ?_
  refine lv_istore_n (lv' := [(1, .int (-1)), (0, .ref (q 34))]) hx hb dX2_parse_11 rfl hl (by decide) rfl (fun ls hl => ?_)
  refine lv_iconst (v := 0) hx hb dX2_parse_12 (by decide) ?_
  refine lv_istore_n (lv' := [(2, .int 0), (1, .int (-1)), (0, .ref (q 34))]) hx hb dX2_parse_13 rfl hl (by decide) rfl (fun ls hl => ?_)
  refine lv_iload_n hx hb dX2_parse_14 rfl (lv_at hl 0 rfl) ?_
  refine lv_bipush (v := 100) hx hb dX2_parse_15 (by decide) ?_
  refine lv_icmp_ge (tgt := 103) hx hb dX2_parse_17 (by decide) (fun c_1 => absurd c_1 (by decide)) (fun c_1 => ?_)
  refine lv_aload_n hx hb dX2_parse_20 rfl (lv_at hl 2 rfl) ?_
  refine lv_iload_n hx hb dX2_parse_21 rfl (lv_at hl 1 rfl) ?_
  refine fz_cVi (As := [.int (-1)]) (rest := []) S0 (c_parseNode l A D k q f pa (va_up (va_up v 14 0) 13 0) rfl g_v_12) (fz_cwV (C := RX2) 1 hts fm_222 fm_223 fm_224 fm_225 fm_220 rfl rfl ⟨by decide, by decide, by decide +kernel⟩ ⟨Nat.le_of_ble_eq_true rfl, Nat.le_of_ble_eq_true rfl⟩) (va_recv hK hP (ci := 6) (q0 := 34) rfl rfl) (fun _ h9 => h9) (fun a9 h9 => hA a9 (Nat.le_trans hS.1 h9)) hG hS hP hK hD rfl hl.1 rfl (Nat.le_of_ble_eq_true rfl) dX2_parse_22 ⟨Nat.le_of_ble_eq_true rfl, Nat.le_of_ble_eq_true rfl⟩ (fun r_2 u_2 H locs hw hz1 hk1 hP hS => ?_)
  have hP : va_P D vwCl (fz_WC k q f pa (va_up (va_up v 14 0) 13 0)) H := hP
  obtain rfl : r_2 = 0 := hw
  refine lv_if_ne (tgt := 33) hx hb dX2_parse_25 (by decide) (fun c_3 => absurd (by decide) c_3) (fun c_3 => ?_)
  refine lv_aload_n hx hb dX2_parse_28 rfl (lv_at hl 2 rfl) ?_
  refine va_get (D := D) (ci := 6) (v := .int ((va_up (va_up v 14 0) 13 0) 14)) (C := RX2) (T := TX2) (N := 9) hx hb hts (fun w9 h9 => fz_m (fin_X2 w9 h9)) hown hK hP 34 rfl rfl 8 (by decide) (hts _ (fz_m fm_215)) (fun _ h9 => h9) rfl dX2_parse_29 ?_
  refine fz_I (y := 0) rfl ?_
  exact fz_iret hx hb hr rfl hlocks hS dX2_parse_32 () rfl hP (Nat.le_of_ble_eq_true rfl) (Nat.le_of_ble_eq_true rfl)

set_option maxHeartbeats 4000000 in
set_option maxRecDepth 100000 in
theorem c_canEncode (l : Launch) (A : Nat → Prop) (D : va_G) (k : Nat → ClassId) (q : Nat → Nat) (f : Nat → Nat → Int32) (pa : Nat → Option Nat) (v : Nat → Int32)   :
    Met l yJ1_canEncode_fc78d (fz_ws yJ1_canEncode_fc78d cJ1_canEncode_fc78d 1 (some .boolean)) { frames := 0, cells := 0, slots := 0, locals := 0 } (va_Pc [.int 48] (fz_PC A D (fz_tys k) (fz_WC k q f pa v))) (fz_QI D A (fun (_ : Unit) => fz_WC k q f pa v) (fun (r : Int32) (_ : Unit) => r = 1)) 0 0 A := by
  refine fz_of (by decide +kernel) (Nat.le_of_ble_eq_true rfl) ?_
  intro p e s m below meth c hx hb hr hml hown hlocks hts hin hA hP hK hD hG hS ls hl
  have hown : s.vm.findClass RJ1 = some m.cls := hown
  have S0 : CallFix p m c cJ1_canEncode_fc78d 1 s [.int 48].toArray (fz_ws yJ1_canEncode_fc78d cJ1_canEncode_fc78d 1 (some .boolean)) RJ1 := ⟨hx, hb, hml, hown, hts⟩
  have hl : lv_has ls 1 [(0, .int 48)] := hl
  refine lv_iload_n hx hb dJ1_canEncode_fc78d_0 rfl (lv_at hl 0 rfl) ?_
  refine lv_sipush (v := 255) hx hb dJ1_canEncode_fc78d_1 (by decide) ?_
  refine lv_icmp_gt (tgt := 11) hx hb dJ1_canEncode_fc78d_4 (by decide) (fun c_1 => absurd c_1 (by decide)) (fun c_1 => ?_)
  refine lv_iconst (v := 1) hx hb dJ1_canEncode_fc78d_7 (by decide) ?_
  refine lv_goto (tgt := 12) hx hb dJ1_canEncode_fc78d_8 (by decide) ?_
  exact fz_iret hx hb hr rfl hlocks hS dJ1_canEncode_fc78d_12 () rfl hP (Nat.le_of_ble_eq_true rfl) (Nat.le_of_ble_eq_true rfl)

set_option maxHeartbeats 4000000 in
set_option maxRecDepth 100000 in
theorem c_isLatin1 (l : Launch) (A : Nat → Prop) (D : va_G) (k : Nat → ClassId) (q : Nat → Nat) (f : Nat → Nat → Int32) (pa : Nat → Option Nat) (v : Nat → Int32) (g_v_15 : v 15 = 0)  :
    Met l yJ5_isLatin1_aae02 (fz_ws yJ5_isLatin1_aae02 cJ5_isLatin1_aae02 1 (some .boolean)) { frames := 0, cells := 0, slots := 0, locals := 0 } (va_Pc [.ref (q 35)] (fz_PC A D (fz_tys k) (fz_WC k q f pa v))) (fz_QI D A (fun (_ : Unit) => fz_WC k q f pa v) (fun (r : Int32) (_ : Unit) => r = 1)) 0 0 A := by
  refine fz_of (by decide +kernel) (Nat.le_of_ble_eq_true rfl) ?_
  intro p e s m below meth c hx hb hr hml hown hlocks hts hin hA hP hK hD hG hS ls hl
  have hown : s.vm.findClass RJ5 = some m.cls := hown
  have S0 : CallFix p m c cJ5_isLatin1_aae02 1 s [.ref (q 35)].toArray (fz_ws yJ5_isLatin1_aae02 cJ5_isLatin1_aae02 1 (some .boolean)) RJ5 := ⟨hx, hb, hml, hown, hts⟩
  have hl : lv_has ls 1 [(0, .ref (q 35))] := hl
  refine va_gets (C := "java/lang/String") (n := "COMPACT_STRINGS") (d := "Z") (v := .int 1) hx hb hG.2.2.1 hS hown (hts _ (fz_m fm_226)) (fun _ h9 => h9) dJ5_isLatin1_aae02_0 ?_
  refine lv_if_eq (tgt := 17) hx hb dJ5_isLatin1_aae02_3 (by decide) (fun c_1 => absurd c_1 (by decide)) (fun c_1 => ?_)
  refine lv_aload_n hx hb dJ5_isLatin1_aae02_6 rfl (lv_at hl 0 rfl) ?_
  refine va_get (D := D) (ci := 1) (v := .int (v 15)) (C := RJ4) (T := TJ4) (N := 4) hx hb hts (fun w9 h9 => fz_m (fin_J4 w9 h9)) hown hK hP 35 rfl rfl 1 (by decide) (hts _ (fz_m fm_227)) (fun _ h9 => h9) rfl dJ5_isLatin1_aae02_7 ?_
  refine fz_I (y := 0) g_v_15 ?_
  refine lv_if_ne (tgt := 17) hx hb dJ5_isLatin1_aae02_10 (by decide) (fun c_2 => absurd (by decide) c_2) (fun c_2 => ?_)
  refine lv_iconst (v := 1) hx hb dJ5_isLatin1_aae02_13 (by decide) ?_
  refine lv_goto (tgt := 18) hx hb dJ5_isLatin1_aae02_14 (by decide) ?_
  exact fz_iret hx hb hr rfl hlocks hS dJ5_isLatin1_aae02_18 () rfl hP (Nat.le_of_ble_eq_true rfl) (Nat.le_of_ble_eq_true rfl)

set_option maxHeartbeats 4000000 in
set_option maxRecDepth 100000 in
theorem c_ensure0 (l : Launch) (A : Nat → Prop) (D : va_G) (k : Nat → ClassId) (q : Nat → Nat) (f : Nat → Nat → Int32) (pa : Nat → Option Nat) (v : Nat → Int32) (g_v_15 : v 15 = 0)  :
    Met l yJ5_ensureCapacityInternal_d00df (fz_ws yJ5_ensureCapacityInternal_d00df cJ5_ensureCapacityInternal_d00df 3 none) { frames := 0, cells := 0, slots := 0, locals := 0 } (va_Pc [.ref (q 35), .int 0] (fz_PC A D (fz_tys k) (fz_WC k q f pa v))) (fz_QV D A (fun (_ : Unit) => fz_WC k q f pa v) (fun (_ : Unit) => True)) 0 0 A := by
  refine fz_of (by decide +kernel) (Nat.le_of_ble_eq_true rfl) ?_
  intro p e s m below meth c hx hb hr hml hown hlocks hts hin hA hP hK hD hG hS ls hl
  have hown : s.vm.findClass RJ5 = some m.cls := hown
  have S0 : CallFix p m c cJ5_ensureCapacityInternal_d00df 3 s [.ref (q 35), .int 0].toArray (fz_ws yJ5_ensureCapacityInternal_d00df cJ5_ensureCapacityInternal_d00df 3 none) RJ5 := ⟨hx, hb, hml, hown, hts⟩
  have hl : lv_has ls 3 [(0, .ref (q 35)), (1, .int 0)] := hl
  refine lv_aload_n hx hb dJ5_ensureCapacityInternal_d00df_0 rfl (lv_at hl 0 rfl) ?_
  refine va_get (D := D) (ci := 1) (v := .ref (q 37)) (C := RJ4) (T := TJ4) (N := 4) hx hb hts (fun w9 h9 => fz_m (fin_J4 w9 h9)) hown hK hP 35 rfl rfl 0 (by decide) (hts _ (fz_m fm_228)) (fun _ h9 => h9) rfl dJ5_ensureCapacityInternal_d00df_1 ?_
  refine va_alen (v := 16) hx hb hK hP 37 2 rfl rfl rfl dJ5_ensureCapacityInternal_d00df_4 ?_
  refine lv_aload_n hx hb dJ5_ensureCapacityInternal_d00df_5 rfl (lv_at hl 0 rfl) ?_
  refine va_get (D := D) (ci := 1) (v := .int (v 15)) (C := RJ4) (T := TJ4) (N := 4) hx hb hts (fun w9 h9 => fz_m (fin_J4 w9 h9)) hown hK hP 35 rfl rfl 1 (by decide) (hts _ (fz_m fm_227)) (fun _ h9 => h9) rfl dJ5_ensureCapacityInternal_d00df_6 ?_
  refine fz_I (y := 0) g_v_15 ?_
  refine lv_ishr hx hb dJ5_ensureCapacityInternal_d00df_9 ?_
  refine fz_I (y := 16) (by decide) ?_
  refine lv_istore_n (lv' := [(2, .int 16), (0, .ref (q 35)), (1, .int 0)]) hx hb dJ5_ensureCapacityInternal_d00df_10 rfl hl (by decide) rfl (fun ls hl => ?_)
  refine lv_iload_n hx hb dJ5_ensureCapacityInternal_d00df_11 rfl (lv_at hl 2 rfl) ?_
  refine lv_iload_n hx hb dJ5_ensureCapacityInternal_d00df_12 rfl (lv_at hl 0 rfl) ?_
  refine lv_isub hx hb dJ5_ensureCapacityInternal_d00df_13 ?_
  refine fz_I (y := (-16)) (by decide) ?_
  refine lv_if_le (tgt := 38) hx hb dJ5_ensureCapacityInternal_d00df_14 (by decide) (fun c_1 => ?_) (fun c_1 => absurd (by decide) c_1)
  exact fz_vret hx hb hr hlocks hS dJ5_ensureCapacityInternal_d00df_38 () trivial hP (Nat.le_of_ble_eq_true rfl) (Nat.le_of_ble_eq_true rfl)

set_option maxHeartbeats 4000000 in
set_option maxRecDepth 100000 in
theorem c_ensure1 (l : Launch) (A : Nat → Prop) (D : va_G) (k : Nat → ClassId) (q : Nat → Nat) (f : Nat → Nat → Int32) (pa : Nat → Option Nat) (v : Nat → Int32) (g_v_15 : v 15 = 0)  :
    Met l yJ5_ensureCapacityInternal_d00df (fz_ws yJ5_ensureCapacityInternal_d00df cJ5_ensureCapacityInternal_d00df 3 none) { frames := 0, cells := 0, slots := 0, locals := 0 } (va_Pc [.ref (q 35), .int 1] (fz_PC A D (fz_tys k) (fz_WC k q f pa v))) (fz_QV D A (fun (_ : Unit) => fz_WC k q f pa v) (fun (_ : Unit) => True)) 0 0 A := by
  refine fz_of (by decide +kernel) (Nat.le_of_ble_eq_true rfl) ?_
  intro p e s m below meth c hx hb hr hml hown hlocks hts hin hA hP hK hD hG hS ls hl
  have hown : s.vm.findClass RJ5 = some m.cls := hown
  have S0 : CallFix p m c cJ5_ensureCapacityInternal_d00df 3 s [.ref (q 35), .int 1].toArray (fz_ws yJ5_ensureCapacityInternal_d00df cJ5_ensureCapacityInternal_d00df 3 none) RJ5 := ⟨hx, hb, hml, hown, hts⟩
  have hl : lv_has ls 3 [(0, .ref (q 35)), (1, .int 1)] := hl
  refine lv_aload_n hx hb dJ5_ensureCapacityInternal_d00df_0 rfl (lv_at hl 0 rfl) ?_
  refine va_get (D := D) (ci := 1) (v := .ref (q 37)) (C := RJ4) (T := TJ4) (N := 4) hx hb hts (fun w9 h9 => fz_m (fin_J4 w9 h9)) hown hK hP 35 rfl rfl 0 (by decide) (hts _ (fz_m fm_228)) (fun _ h9 => h9) rfl dJ5_ensureCapacityInternal_d00df_1 ?_
  refine va_alen (v := 16) hx hb hK hP 37 2 rfl rfl rfl dJ5_ensureCapacityInternal_d00df_4 ?_
  refine lv_aload_n hx hb dJ5_ensureCapacityInternal_d00df_5 rfl (lv_at hl 0 rfl) ?_
  refine va_get (D := D) (ci := 1) (v := .int (v 15)) (C := RJ4) (T := TJ4) (N := 4) hx hb hts (fun w9 h9 => fz_m (fin_J4 w9 h9)) hown hK hP 35 rfl rfl 1 (by decide) (hts _ (fz_m fm_227)) (fun _ h9 => h9) rfl dJ5_ensureCapacityInternal_d00df_6 ?_
  refine fz_I (y := 0) g_v_15 ?_
  refine lv_ishr hx hb dJ5_ensureCapacityInternal_d00df_9 ?_
  refine fz_I (y := 16) (by decide) ?_
  refine lv_istore_n (lv' := [(2, .int 16), (0, .ref (q 35)), (1, .int 1)]) hx hb dJ5_ensureCapacityInternal_d00df_10 rfl hl (by decide) rfl (fun ls hl => ?_)
  refine lv_iload_n hx hb dJ5_ensureCapacityInternal_d00df_11 rfl (lv_at hl 2 rfl) ?_
  refine lv_iload_n hx hb dJ5_ensureCapacityInternal_d00df_12 rfl (lv_at hl 0 rfl) ?_
  refine lv_isub hx hb dJ5_ensureCapacityInternal_d00df_13 ?_
  refine fz_I (y := (-15)) (by decide) ?_
  refine lv_if_le (tgt := 38) hx hb dJ5_ensureCapacityInternal_d00df_14 (by decide) (fun c_1 => ?_) (fun c_1 => absurd (by decide) c_1)
  exact fz_vret hx hb hr hlocks hS dJ5_ensureCapacityInternal_d00df_38 () trivial hP (Nat.le_of_ble_eq_true rfl) (Nat.le_of_ble_eq_true rfl)

set_option maxHeartbeats 4000000 in
set_option maxRecDepth 100000 in
theorem c_setLengthA (l : Launch) (A : Nat → Prop) (D : va_G) (k : Nat → ClassId) (q : Nat → Nat) (f : Nat → Nat → Int32) (pa : Nat → Option Nat) (v : Nat → Int32) (g_v_15 : v 15 = 0) (g_v_17 : v 17 = 0)  :
    Met l yJ5_setLength_d00df (fz_ws yJ5_setLength_d00df cJ5_setLength_d00df 2 none) { frames := 12, cells := 0, slots := 0, locals := 160 } (va_Pc [.ref (q 35), .int 0] (fz_PC A D (fz_tys k) (fz_WC k q f pa v))) (fz_QV D A (fun (_ : Unit) => fz_WC k q f pa (va_up v 17 0)) (fun (_ : Unit) => True)) 0 0 A := by
  refine fz_of (by decide +kernel) (Nat.le_of_ble_eq_true rfl) ?_
  intro p e s m below meth c hx hb hr hml hown hlocks hts hin hA hP hK hD hG hS ls hl
  have hown : s.vm.findClass RJ5 = some m.cls := hown
  have S0 : CallFix p m c cJ5_setLength_d00df 2 s [.ref (q 35), .int 0].toArray (fz_ws yJ5_setLength_d00df cJ5_setLength_d00df 2 none) RJ5 := ⟨hx, hb, hml, hown, hts⟩
  have hl : lv_has ls 2 [(0, .ref (q 35)), (1, .int 0)] := hl
  refine lv_iload_n hx hb dJ5_setLength_d00df_0 rfl (lv_at hl 1 rfl) ?_
  refine lv_if_ge (tgt := 13) hx hb dJ5_setLength_d00df_1 (by decide) (fun c_1 => ?_) (fun c_1 => absurd (by decide) c_1)
  refine lv_aload_n hx hb dJ5_setLength_d00df_13 rfl (lv_at hl 0 rfl) ?_
  refine lv_iload_n hx hb dJ5_setLength_d00df_14 rfl (lv_at hl 1 rfl) ?_
  refine fz_cVv (As := [.int 0]) (rest := []) S0 (c_ensure0 l A D k q f pa v g_v_15) (fz_cwVq (C := RJ4) 1 hts fm_229 fm_230 fm_233 (fz_selP ⟨by decide, by decide⟩ (hts _ (fz_m fm_231)) rfl (va_Nw.use rfl (hG.2.2.2.2.1 _ fm_232 rfl)) (hts _ (fz_m fm_233))) fm_79 rfl rfl ⟨by decide, by decide, by decide +kernel⟩ ⟨Nat.le_of_ble_eq_true rfl, Nat.le_of_ble_eq_true rfl⟩) (va_recv hK hP (ci := 1) (q0 := 35) rfl rfl) (fun _ h9 => h9) (fun a9 h9 => hA a9 (Nat.le_trans hS.1 h9)) hG hS hP hK hD rfl hl.1 rfl (Nat.le_of_ble_eq_true rfl) dJ5_setLength_d00df_15 ⟨Nat.le_of_ble_eq_true rfl, Nat.le_of_ble_eq_true rfl⟩ (fun u_2 H locs hw hz1 hk1 hP hS => ?_)
  have hP : va_P D vwCl (fz_WC k q f pa v) H := hP
  refine lv_aload_n hx hb dJ5_setLength_d00df_18 rfl (lv_at hl 0 rfl) ?_
  refine va_get (D := D) (ci := 1) (v := .int (v 17)) (C := RJ4) (T := TJ4) (N := 4) hx hb hts (fun w9 h9 => fz_m (fin_J4 w9 h9)) hown hK hP 35 rfl rfl 3 (by decide) (hts _ (fz_m fm_73)) (fun _ h9 => h9) rfl dJ5_setLength_d00df_19 ?_
  refine fz_I (y := 0) g_v_17 ?_
  refine lv_iload_n hx hb dJ5_setLength_d00df_22 rfl (lv_at hl 1 rfl) ?_
  refine lv_icmp_ge (tgt := 63) hx hb dJ5_setLength_d00df_23 (by decide) (fun c_3 => ?_) (fun c_3 => absurd (by decide) c_3)
  refine lv_aload_n hx hb dJ5_setLength_d00df_63 rfl (lv_at hl 0 rfl) ?_
  refine va_get (D := D) (ci := 1) (v := .int (v 17)) (C := RJ4) (T := TJ4) (N := 4) hx hb hts (fun w9 h9 => fz_m (fin_J4 w9 h9)) hown hK hP 35 rfl rfl 3 (by decide) (hts _ (fz_m fm_73)) (fun _ h9 => h9) rfl dJ5_setLength_d00df_64 ?_
  refine fz_I (y := 0) g_v_17 ?_
  refine lv_iload_n hx hb dJ5_setLength_d00df_67 rfl (lv_at hl 1 rfl) ?_
  refine lv_icmp_le (tgt := 76) hx hb dJ5_setLength_d00df_68 (by decide) (fun c_4 => ?_) (fun c_4 => absurd (by decide) c_4)
  refine lv_aload_n hx hb dJ5_setLength_d00df_76 rfl (lv_at hl 0 rfl) ?_
  refine lv_iload_n hx hb dJ5_setLength_d00df_77 rfl (lv_at hl 1 rfl) ?_
  refine va_put (D := D) (ci := 1) (v := .int 0) (ty := .int) (C := RJ4) (T := TJ4) (N := 4) hx hb hts (fun w9 h9 => fz_m (fin_J4 w9 h9)) tyJ4 tyJ4_ok nmJ4 hown hK hP hD hS 35 rfl rfl 3 (by decide) (hts _ (fz_m fm_73)) (fun _ h9 => h9) rfl (by decide +kernel) rfl rfl (Nat.le_of_ble_eq_true rfl) dJ5_setLength_d00df_78 (fun H locs hP hD hS => ?_)
  have hP : va_P D vwCl (fz_WC k q f pa (va_up v 17 0)) H := hP
  have hD : va_D A (fz_WC k q f pa (va_up v 17 0)) := hD
  exact fz_vret hx hb hr hlocks hS dJ5_setLength_d00df_81 () trivial hP (Nat.le_of_ble_eq_true rfl) (Nat.le_of_ble_eq_true rfl)

set_option maxHeartbeats 4000000 in
set_option maxRecDepth 100000 in
theorem c_setLength (l : Launch) (A : Nat → Prop) (D : va_G) (k : Nat → ClassId) (q : Nat → Nat) (f : Nat → Nat → Int32) (pa : Nat → Option Nat) (v : Nat → Int32) (g_v_15 : v 15 = 0) (g_v_17 : v 17 = 0)  :
    Met l yJ4_setLength_d00df (fz_ws yJ4_setLength_d00df cJ4_setLength_d00df 2 none) { frames := 24, cells := 0, slots := 0, locals := 320 } (va_Pc [.ref (q 35), .int 0] (fz_PC A D (fz_tys k) (fz_WC k q f pa v))) (fz_QV D A (fun (_ : Unit) => fz_WC k q f pa (va_up v 17 0)) (fun (_ : Unit) => True)) 0 0 A := by
  refine fz_of (by decide +kernel) (Nat.le_of_ble_eq_true rfl) ?_
  intro p e s m below meth c hx hb hr hml hown hlocks hts hin hA hP hK hD hG hS ls hl
  have hown : s.vm.findClass RJ4 = some m.cls := hown
  have S0 : CallFix p m c cJ4_setLength_d00df 2 s [.ref (q 35), .int 0].toArray (fz_ws yJ4_setLength_d00df cJ4_setLength_d00df 2 none) RJ4 := ⟨hx, hb, hml, hown, hts⟩
  have hl : lv_has ls 2 [(0, .ref (q 35)), (1, .int 0)] := hl
  refine lv_aload_n hx hb dJ4_setLength_d00df_0 rfl (lv_at hl 0 rfl) ?_
  refine lv_iload_n hx hb dJ4_setLength_d00df_1 rfl (lv_at hl 1 rfl) ?_
  refine fz_cUv (As := [.int 0]) (rest := []) S0 (c_setLengthA l A D k q f pa v g_v_15 g_v_17) (va_cwSU 1 hts (fz_gSU fm_234 fm_235 fm_236 fm_77 fm_237 fm_79) rfl rfl rfl ⟨by decide, by decide +kernel⟩ ⟨Nat.le_of_ble_eq_true rfl, Nat.le_of_ble_eq_true rfl⟩) (fz_at hK (ci := 1) rfl) (va_recv hK hP (ci := 1) (q0 := 35) rfl rfl) (fun _ h9 => h9) (fun a9 h9 => hA a9 (Nat.le_trans hS.1 h9)) hG hS hP hK hD rfl hl.1 rfl (Nat.le_of_ble_eq_true rfl) dJ4_setLength_d00df_2 ⟨Nat.le_of_ble_eq_true rfl, Nat.le_of_ble_eq_true rfl⟩ (fun u_1 H locs hw hz1 hk1 hP hS => ?_)
  have hP : va_P D vwCl (fz_WC k q f pa (va_up v 17 0)) H := hP
  have hD : va_D A (fz_WC k q f pa (va_up v 17 0)) := fz_Dsame hD rfl
  exact fz_vret hx hb hr hlocks hS dJ4_setLength_d00df_5 () trivial hP (Nat.le_of_ble_eq_true rfl) (Nat.le_of_ble_eq_true rfl)

set_option maxHeartbeats 4000000 in
set_option maxRecDepth 100000 in
theorem c_appendCA (l : Launch) (A : Nat → Prop) (D : va_G) (k : Nat → ClassId) (q : Nat → Nat) (f : Nat → Nat → Int32) (pa : Nat → Option Nat) (v : Nat → Int32) (g_v_17 : v 17 = 0) (g_v_15 : v 15 = 0)  :
    Met l yJ5_append_3fe6f (fz_ws yJ5_append_3fe6f cJ5_append_3fe6f 2 (some (.object "java/lang/AbstractStringBuilder"))) { frames := 12, cells := 0, slots := 0, locals := 160 } (va_Pc [.ref (q 35), .int 48] (fz_PC A D (fz_tys k) (fz_WC k q f pa v))) (fz_QR D A (fun (_ : Unit) => fz_WC k q (va_up f 37 (upd (f 37) 0 48)) pa (va_up v 17 1)) (q 35)) 0 0 A := by
  refine fz_of (by decide +kernel) (Nat.le_of_ble_eq_true rfl) ?_
  intro p e s m below meth c hx hb hr hml hown hlocks hts hin hA hP hK hD hG hS ls hl
  have hown : s.vm.findClass RJ5 = some m.cls := hown
  have S0 : CallFix p m c cJ5_append_3fe6f 2 s [.ref (q 35), .int 48].toArray (fz_ws yJ5_append_3fe6f cJ5_append_3fe6f 2 (some (.object "java/lang/AbstractStringBuilder"))) RJ5 := ⟨hx, hb, hml, hown, hts⟩
  have hl : lv_has ls 2 [(0, .ref (q 35)), (1, .int 48)] := hl
  refine lv_aload_n hx hb dJ5_append_3fe6f_0 rfl (lv_at hl 0 rfl) ?_
  refine lv_aload_n hx hb dJ5_append_3fe6f_1 rfl (lv_at hl 0 rfl) ?_
  refine va_get (D := D) (ci := 1) (v := .int (v 17)) (C := RJ4) (T := TJ4) (N := 4) hx hb hts (fun w9 h9 => fz_m (fin_J4 w9 h9)) hown hK hP 35 rfl rfl 3 (by decide) (hts _ (fz_m fm_73)) (fun _ h9 => h9) rfl dJ5_append_3fe6f_2 ?_
  refine fz_I (y := 0) g_v_17 ?_
  refine lv_iconst (v := 1) hx hb dJ5_append_3fe6f_5 (by decide) ?_
  refine lv_iadd hx hb dJ5_append_3fe6f_6 ?_
  refine fz_I (y := 1) (by decide) ?_
  refine fz_cVv (As := [.int 1]) (rest := []) S0 (c_ensure1 l A D k q f pa v g_v_15) (fz_cwVq (C := RJ4) 1 hts fm_229 fm_230 fm_233 (fz_selP ⟨by decide, by decide⟩ (hts _ (fz_m fm_231)) rfl (va_Nw.use rfl (hG.2.2.2.2.1 _ fm_232 rfl)) (hts _ (fz_m fm_233))) fm_79 rfl rfl ⟨by decide, by decide, by decide +kernel⟩ ⟨Nat.le_of_ble_eq_true rfl, Nat.le_of_ble_eq_true rfl⟩) (va_recv hK hP (ci := 1) (q0 := 35) rfl rfl) (fun _ h9 => h9) (fun a9 h9 => hA a9 (Nat.le_trans hS.1 h9)) hG hS hP hK hD rfl hl.1 rfl (Nat.le_of_ble_eq_true rfl) dJ5_append_3fe6f_7 ⟨Nat.le_of_ble_eq_true rfl, Nat.le_of_ble_eq_true rfl⟩ (fun u_1 H locs hw hz1 hk1 hP hS => ?_)
  have hP : va_P D vwCl (fz_WC k q f pa v) H := hP
  refine lv_aload_n hx hb dJ5_append_3fe6f_10 rfl (lv_at hl 0 rfl) ?_
  refine fz_cVi (As := []) (rest := []) S0 (c_isLatin1 l A D k q f pa v g_v_15) (fz_cwV (C := RJ4) 0 hts fm_238 fm_239 fm_240 fm_231 fm_79 rfl rfl ⟨by decide, by decide, by decide +kernel⟩ ⟨Nat.le_of_ble_eq_true rfl, Nat.le_of_ble_eq_true rfl⟩) (va_recv hK hP (ci := 1) (q0 := 35) rfl rfl) (fun _ h9 => h9) (fun a9 h9 => hA a9 (Nat.le_trans hS.1 h9)) hG hS hP hK hD rfl hl.1 rfl (Nat.le_of_ble_eq_true rfl) dJ5_append_3fe6f_11 ⟨Nat.le_of_ble_eq_true rfl, Nat.le_of_ble_eq_true rfl⟩ (fun r_2 u_2 H locs hw hz1 hk1 hP hS => ?_)
  have hP : va_P D vwCl (fz_WC k q f pa v) H := hP
  obtain rfl : r_2 = 1 := hw
  refine lv_if_eq (tgt := 45) hx hb dJ5_append_3fe6f_14 (by decide) (fun c_3 => absurd c_3 (by decide)) (fun c_3 => ?_)
  refine lv_iload_n hx hb dJ5_append_3fe6f_17 rfl (lv_at hl 1 rfl) ?_
  refine fz_cSi (As := [.int 48]) (rest := []) S0 (c_canEncode l A D k q f pa v ) (fz_cwS 1 hts fm_241 fm_242 fm_243 fm_244 rfl rfl ⟨by decide, by decide, by decide +kernel⟩ ⟨Nat.le_of_ble_eq_true rfl, Nat.le_of_ble_eq_true rfl⟩) (fun _ h9 => h9) (fun a9 h9 => hA a9 (Nat.le_trans hS.1 h9)) hG hS hP hK hD rfl hl.1 rfl (Nat.le_of_ble_eq_true rfl) dJ5_append_3fe6f_18 ⟨Nat.le_of_ble_eq_true rfl, Nat.le_of_ble_eq_true rfl⟩ (fun r_4 u_4 H locs hw hz1 hk1 hP hS => ?_)
  have hP : va_P D vwCl (fz_WC k q f pa v) H := hP
  obtain rfl : r_4 = 1 := hw
  refine lv_if_eq (tgt := 45) hx hb dJ5_append_3fe6f_21 (by decide) (fun c_5 => absurd c_5 (by decide)) (fun c_5 => ?_)
  refine lv_aload_n hx hb dJ5_append_3fe6f_24 rfl (lv_at hl 0 rfl) ?_
  refine va_get (D := D) (ci := 1) (v := .ref (q 37)) (C := RJ4) (T := TJ4) (N := 4) hx hb hts (fun w9 h9 => fz_m (fin_J4 w9 h9)) hown hK hP 35 rfl rfl 0 (by decide) (hts _ (fz_m fm_228)) (fun _ h9 => h9) rfl dJ5_append_3fe6f_25 ?_
  refine lv_aload_n hx hb dJ5_append_3fe6f_28 rfl (lv_at hl 0 rfl) ?_
  refine lv_dup hx hb dJ5_append_3fe6f_29 rfl ?_
  refine va_get (D := D) (ci := 1) (v := .int (v 17)) (C := RJ4) (T := TJ4) (N := 4) hx hb hts (fun w9 h9 => fz_m (fin_J4 w9 h9)) hown hK hP 35 rfl rfl 3 (by decide) (hts _ (fz_m fm_73)) (fun _ h9 => h9) rfl dJ5_append_3fe6f_30 ?_
  refine fz_I (y := 0) g_v_17 ?_
  refine lv_dup_x1 hx hb dJ5_append_3fe6f_33 rfl rfl ?_
  refine lv_iconst (v := 1) hx hb dJ5_append_3fe6f_34 (by decide) ?_
  refine lv_iadd hx hb dJ5_append_3fe6f_35 ?_
  refine fz_I (y := 1) (by decide) ?_
  refine va_put (D := D) (ci := 1) (v := .int 1) (ty := .int) (C := RJ4) (T := TJ4) (N := 4) hx hb hts (fun w9 h9 => fz_m (fin_J4 w9 h9)) tyJ4 tyJ4_ok nmJ4 hown hK hP hD hS 35 rfl rfl 3 (by decide) (hts _ (fz_m fm_73)) (fun _ h9 => h9) rfl (by decide +kernel) rfl rfl (Nat.le_of_ble_eq_true rfl) dJ5_append_3fe6f_36 (fun H locs hP hD hS => ?_)
  have hP : va_P D vwCl (fz_WC k q f pa (va_up v 17 1)) H := hP
  have hD : va_D A (fz_WC k q f pa (va_up v 17 1)) := hD
  refine lv_iload_n hx hb dJ5_append_3fe6f_39 rfl (lv_at hl 1 rfl) ?_
  refine lv_i2b (v := 48) hx hb dJ5_append_3fe6f_40 (by decide) ?_
  refine va_bast hx hb hK hP hD hS 37 2 rfl rfl (fz_vin (by decide)) dJ5_append_3fe6f_41 (fun H locs hP hD hS => ?_)
  have hP : va_P D vwCl (fz_WC k q (va_up f 37 (upd (f 37) 0 48)) pa (va_up v 17 1)) H := hP
  have hD : va_D A (fz_WC k q (va_up f 37 (upd (f 37) 0 48)) pa (va_up v 17 1)) := hD
  refine lv_goto (tgt := 75) hx hb dJ5_append_3fe6f_42 (by decide) ?_
  refine lv_aload_n hx hb dJ5_append_3fe6f_75 rfl (lv_at hl 0 rfl) ?_
  exact fz_rret hx hb hr (Or.inl ⟨_, rfl⟩) hlocks hS dJ5_append_3fe6f_76 () hP (Nat.le_of_ble_eq_true rfl) (Nat.le_of_ble_eq_true rfl)

set_option maxHeartbeats 4000000 in
set_option maxRecDepth 100000 in
theorem c_appendC (l : Launch) (A : Nat → Prop) (D : va_G) (k : Nat → ClassId) (q : Nat → Nat) (f : Nat → Nat → Int32) (pa : Nat → Option Nat) (v : Nat → Int32) (g_v_17 : v 17 = 0) (g_v_15 : v 15 = 0)  :
    Met l yJ4_append_cf468 (fz_ws yJ4_append_cf468 cJ4_append_cf468 2 (some (.object "java/lang/StringBuilder"))) { frames := 24, cells := 0, slots := 0, locals := 320 } (va_Pc [.ref (q 35), .int 48] (fz_PC A D (fz_tys k) (fz_WC k q f pa v))) (fz_QR D A (fun (_ : Unit) => fz_WC k q (va_up f 37 (upd (f 37) 0 48)) pa (va_up v 17 1)) (q 35)) 0 0 A := by
  refine fz_of (by decide +kernel) (Nat.le_of_ble_eq_true rfl) ?_
  intro p e s m below meth c hx hb hr hml hown hlocks hts hin hA hP hK hD hG hS ls hl
  have hown : s.vm.findClass RJ4 = some m.cls := hown
  have S0 : CallFix p m c cJ4_append_cf468 2 s [.ref (q 35), .int 48].toArray (fz_ws yJ4_append_cf468 cJ4_append_cf468 2 (some (.object "java/lang/StringBuilder"))) RJ4 := ⟨hx, hb, hml, hown, hts⟩
  have hl : lv_has ls 2 [(0, .ref (q 35)), (1, .int 48)] := hl
  refine lv_aload_n hx hb dJ4_append_cf468_0 rfl (lv_at hl 0 rfl) ?_
  refine lv_iload_n hx hb dJ4_append_cf468_1 rfl (lv_at hl 1 rfl) ?_
  refine fz_cUr (As := [.int 48]) (rest := []) S0 (c_appendCA l A D k q f pa v g_v_17 g_v_15) (va_cwSU 1 hts (fz_gSU fm_245 fm_246 fm_247 fm_77 fm_248 fm_79) rfl rfl rfl ⟨by decide, by decide +kernel⟩ ⟨Nat.le_of_ble_eq_true rfl, Nat.le_of_ble_eq_true rfl⟩) (fz_at hK (ci := 1) rfl) (va_recv hK hP (ci := 1) (q0 := 35) rfl rfl) (fun _ h9 => h9) (fun a9 h9 => hA a9 (Nat.le_trans hS.1 h9)) hG hS hP hK hD rfl hl.1 rfl (Nat.le_of_ble_eq_true rfl) dJ4_append_cf468_2 ⟨Nat.le_of_ble_eq_true rfl, Nat.le_of_ble_eq_true rfl⟩ (fun u_1 H locs hw hz1 hk1 hP hS => ?_)
  have hP : va_P D vwCl (fz_WC k q (va_up f 37 (upd (f 37) 0 48)) pa (va_up v 17 1)) H := hP
  have hD : va_D A (fz_WC k q (va_up f 37 (upd (f 37) 0 48)) pa (va_up v 17 1)) := fz_Dsame hD rfl
  refine lv_pop hx hb dJ4_append_cf468_5 rfl ?_
  refine lv_aload_n hx hb dJ4_append_cf468_6 rfl (lv_at hl 0 rfl) ?_
  exact fz_rret hx hb hr (Or.inl ⟨_, rfl⟩) hlocks hS dJ4_append_cf468_7 () hP (Nat.le_of_ble_eq_true rfl) (Nat.le_of_ble_eq_true rfl)

set_option maxHeartbeats 4000000 in
set_option maxRecDepth 100000 in
theorem c_lenA1 (l : Launch) (A : Nat → Prop) (D : va_G) (k : Nat → ClassId) (q : Nat → Nat) (f : Nat → Nat → Int32) (pa : Nat → Option Nat) (v : Nat → Int32) (g_v_17 : v 17 = 1)  :
    Met l yJ5_length_8abf5 (fz_ws yJ5_length_8abf5 cJ5_length_8abf5 1 (some .int)) { frames := 0, cells := 0, slots := 0, locals := 0 } (va_Pc [.ref (q 35)] (fz_PC A D (fz_tys k) (fz_WC k q f pa v))) (fz_QI D A (fun (_ : Unit) => fz_WC k q f pa v) (fun (r : Int32) (_ : Unit) => r = 1)) 0 0 A := by
  refine fz_of (by decide +kernel) (Nat.le_of_ble_eq_true rfl) ?_
  intro p e s m below meth c hx hb hr hml hown hlocks hts hin hA hP hK hD hG hS ls hl
  have hown : s.vm.findClass RJ5 = some m.cls := hown
  have S0 : CallFix p m c cJ5_length_8abf5 1 s [.ref (q 35)].toArray (fz_ws yJ5_length_8abf5 cJ5_length_8abf5 1 (some .int)) RJ5 := ⟨hx, hb, hml, hown, hts⟩
  have hl : lv_has ls 1 [(0, .ref (q 35))] := hl
  refine lv_aload_n hx hb dJ5_length_8abf5_0 rfl (lv_at hl 0 rfl) ?_
  refine va_get (D := D) (ci := 1) (v := .int (v 17)) (C := RJ4) (T := TJ4) (N := 4) hx hb hts (fun w9 h9 => fz_m (fin_J4 w9 h9)) hown hK hP 35 rfl rfl 3 (by decide) (hts _ (fz_m fm_73)) (fun _ h9 => h9) rfl dJ5_length_8abf5_1 ?_
  refine fz_I (y := 1) g_v_17 ?_
  exact fz_iret hx hb hr rfl hlocks hS dJ5_length_8abf5_4 () rfl hP (Nat.le_of_ble_eq_true rfl) (Nat.le_of_ble_eq_true rfl)

set_option maxHeartbeats 4000000 in
set_option maxRecDepth 100000 in
theorem c_len1 (l : Launch) (A : Nat → Prop) (D : va_G) (k : Nat → ClassId) (q : Nat → Nat) (f : Nat → Nat → Int32) (pa : Nat → Option Nat) (v : Nat → Int32) (g_v_17 : v 17 = 1)  :
    Met l yJ4_length_8abf5 (fz_ws yJ4_length_8abf5 cJ4_length_8abf5 1 (some .int)) { frames := 12, cells := 0, slots := 0, locals := 160 } (va_Pc [.ref (q 35)] (fz_PC A D (fz_tys k) (fz_WC k q f pa v))) (fz_QI D A (fun (_ : Unit) => fz_WC k q f pa v) (fun (r : Int32) (_ : Unit) => r = 1)) 0 0 A := by
  refine fz_of (by decide +kernel) (Nat.le_of_ble_eq_true rfl) ?_
  intro p e s m below meth c hx hb hr hml hown hlocks hts hin hA hP hK hD hG hS ls hl
  have hown : s.vm.findClass RJ4 = some m.cls := hown
  have S0 : CallFix p m c cJ4_length_8abf5 1 s [.ref (q 35)].toArray (fz_ws yJ4_length_8abf5 cJ4_length_8abf5 1 (some .int)) RJ4 := ⟨hx, hb, hml, hown, hts⟩
  have hl : lv_has ls 1 [(0, .ref (q 35))] := hl
  refine lv_aload_n hx hb dJ4_length_8abf5_0 rfl (lv_at hl 0 rfl) ?_
  refine fz_cUi (As := []) (rest := []) S0 (c_lenA1 l A D k q f pa v g_v_17) (va_cwSU 0 hts (fz_gSU fm_74 fm_75 fm_76 fm_77 fm_78 fm_79) rfl rfl rfl ⟨by decide, by decide +kernel⟩ ⟨Nat.le_of_ble_eq_true rfl, Nat.le_of_ble_eq_true rfl⟩) (fz_at hK (ci := 1) rfl) (va_recv hK hP (ci := 1) (q0 := 35) rfl rfl) (fun _ h9 => h9) (fun a9 h9 => hA a9 (Nat.le_trans hS.1 h9)) hG hS hP hK hD rfl hl.1 rfl (Nat.le_of_ble_eq_true rfl) dJ4_length_8abf5_1 ⟨Nat.le_of_ble_eq_true rfl, Nat.le_of_ble_eq_true rfl⟩ (fun r_1 u_1 H locs hw hz1 hk1 hP hS => ?_)
  have hP : va_P D vwCl (fz_WC k q f pa v) H := hP
  obtain rfl : r_1 = 1 := hw
  exact fz_iret hx hb hr rfl hlocks hS dJ4_length_8abf5_4 () rfl hP (Nat.le_of_ble_eq_true rfl) (Nat.le_of_ble_eq_true rfl)

set_option maxHeartbeats 4000000 in
set_option maxRecDepth 100000 in
theorem c_appendNode (l : Launch) (A : Nat → Prop) (D : va_G) (k : Nat → ClassId) (q : Nat → Nat) (f : Nat → Nat → Int32) (pa : Nat → Option Nat) (v : Nat → Int32) (g_f_4_0 : f 4 0 = 0) (g_v_17 : v 17 = 0) (g_v_15 : v 15 = 0) (g_f_7_0 : f 7 0 = 0) (g_f_8_0 : f 8 0 = (-1))  :
    Met l yX9_appendNode (fz_ws yX9_appendNode cX9_appendNode 2 none) { frames := 36, cells := 0, slots := 0, locals := 480 } (va_Pc [.ref (q 31), .int 0] (fz_PC A D (fz_tys k) (fz_WC k q f pa v))) (fz_QV D A (fun (_ : Unit) => fz_WC k q (va_up f 37 (upd (f 37) 0 48)) pa (va_up v 17 1)) (fun (_ : Unit) => True)) 0 0 A := by
  refine fz_of (by decide +kernel) (Nat.le_of_ble_eq_true rfl) ?_
  intro p e s m below meth c hx hb hr hml hown hlocks hts hin hA hP hK hD hG hS ls hl
  have hown : s.vm.findClass RX9 = some m.cls := hown
  have S0 : CallFix p m c cX9_appendNode 2 s [.ref (q 31), .int 0].toArray (fz_ws yX9_appendNode cX9_appendNode 2 none) RX9 := ⟨hx, hb, hml, hown, hts⟩
  have hl : lv_has ls 2 [(0, .ref (q 31)), (1, .int 0)] := hl
  refine lv_aload_n hx hb dX9_appendNode_0 rfl (lv_at hl 0 rfl) ?_
  refine va_get (D := D) (ci := 13) (v := .ref (q 35)) (C := RX9) (T := TX9) (N := 8) hx hb hts (fun w9 h9 => fz_m (fin_X9 w9 h9)) hown hK hP 31 rfl rfl 7 (by decide) (hts _ (fz_m fm_202)) (fun _ h9 => h9) rfl dX9_appendNode_1 ?_
  refine lv_bipush (v := 48) hx hb dX9_appendNode_4 (by decide) ?_
  refine lv_aload_n hx hb dX9_appendNode_6 rfl (lv_at hl 0 rfl) ?_
  refine va_get (D := D) (ci := 13) (v := .ref (q 0)) (C := RX9) (T := TX9) (N := 8) hx hb hts (fun w9 h9 => fz_m (fin_X9 w9 h9)) hown hK hP 31 rfl rfl 0 (by decide) (hts _ (fz_m fm_9)) (fun _ h9 => h9) rfl dX9_appendNode_7 ?_
  refine va_get (D := D) (ci := 11) (v := .ref (q 1)) (C := RX7) (T := TX7) (N := 6) hx hb hts (fun w9 h9 => fz_m (fin_X7 w9 h9)) hown hK hP 0 rfl rfl 0 (by decide) (hts _ (fz_m fm_10)) (fun _ h9 => h9) rfl dX9_appendNode_10 ?_
  refine va_get (D := D) (ci := 12) (v := .ref (q 4)) (C := RX8) (T := TX8) (N := 10) hx hb hts (fun w9 h9 => fz_m (fin_X8 w9 h9)) hown hK hP 1 rfl rfl 4 (by decide) (hts _ (fz_m fm_104)) (fun _ h9 => h9) rfl dX9_appendNode_13 ?_
  refine lv_iload_n hx hb dX9_appendNode_16 rfl (lv_at hl 1 rfl) ?_
  refine va_iald hx hb hK hP 4 0 rfl rfl (fz_vin (by decide)) dX9_appendNode_17 ?_
  refine fz_I (y := 0) g_f_4_0 ?_
  refine lv_iadd hx hb dX9_appendNode_18 ?_
  refine fz_I (y := 48) (by decide) ?_
  refine lv_i2c (v := 48) hx hb dX9_appendNode_19 (by decide) ?_
  refine fz_cVr (As := [.int 48]) (rest := []) S0 (c_appendC l A D k q f pa v g_v_17 g_v_15) (fz_cwV (C := RJ4) 1 hts fm_249 fm_250 fm_251 fm_252 fm_207 rfl rfl ⟨by decide, by decide, by decide +kernel⟩ ⟨Nat.le_of_ble_eq_true rfl, Nat.le_of_ble_eq_true rfl⟩) (va_recv hK hP (ci := 1) (q0 := 35) rfl rfl) (fun _ h9 => h9) (fun a9 h9 => hA a9 (Nat.le_trans hS.1 h9)) hG hS hP hK hD rfl hl.1 rfl (Nat.le_of_ble_eq_true rfl) dX9_appendNode_20 ⟨Nat.le_of_ble_eq_true rfl, Nat.le_of_ble_eq_true rfl⟩ (fun u_1 H locs hw hz1 hk1 hP hS => ?_)
  have hP : va_P D vwCl (fz_WC k q (va_up f 37 (upd (f 37) 0 48)) pa (va_up v 17 1)) H := hP
  have hD : va_D A (fz_WC k q (va_up f 37 (upd (f 37) 0 48)) pa (va_up v 17 1)) := fz_Dsame hD rfl
  refine lv_pop hx hb dX9_appendNode_23 rfl ?_
  refine lv_aload_n hx hb dX9_appendNode_24 rfl (lv_at hl 0 rfl) ?_
  refine va_get (D := D) (ci := 13) (v := .ref (q 0)) (C := RX9) (T := TX9) (N := 8) hx hb hts (fun w9 h9 => fz_m (fin_X9 w9 h9)) hown hK hP 31 rfl rfl 0 (by decide) (hts _ (fz_m fm_9)) (fun _ h9 => h9) rfl dX9_appendNode_25 ?_
  refine va_get (D := D) (ci := 11) (v := .ref (q 1)) (C := RX7) (T := TX7) (N := 6) hx hb hts (fun w9 h9 => fz_m (fin_X7 w9 h9)) hown hK hP 0 rfl rfl 0 (by decide) (hts _ (fz_m fm_10)) (fun _ h9 => h9) rfl dX9_appendNode_28 ?_
  refine va_get (D := D) (ci := 12) (v := .ref (q 7)) (C := RX8) (T := TX8) (N := 10) hx hb hts (fun w9 h9 => fz_m (fin_X8 w9 h9)) hown hK hP 1 rfl rfl 7 (by decide) (hts _ (fz_m fm_18)) (fun _ h9 => h9) rfl dX9_appendNode_31 ?_
  refine lv_iload_n hx hb dX9_appendNode_34 rfl (lv_at hl 1 rfl) ?_
  refine va_iald hx hb hK hP 7 0 rfl rfl (fz_vin (by decide)) dX9_appendNode_35 ?_
  refine fz_I (y := 0) g_f_7_0 ?_
  refine lv_if_le (tgt := 64) hx hb dX9_appendNode_36 (by decide) (fun c_2 => ?_) (fun c_2 => absurd (by decide) c_2)
  refine lv_aload_n hx hb dX9_appendNode_64 rfl (lv_at hl 0 rfl) ?_
  refine va_get (D := D) (ci := 13) (v := .ref (q 0)) (C := RX9) (T := TX9) (N := 8) hx hb hts (fun w9 h9 => fz_m (fin_X9 w9 h9)) hown hK hP 31 rfl rfl 0 (by decide) (hts _ (fz_m fm_9)) (fun _ h9 => h9) rfl dX9_appendNode_65 ?_
  refine va_get (D := D) (ci := 11) (v := .ref (q 1)) (C := RX7) (T := TX7) (N := 6) hx hb hts (fun w9 h9 => fz_m (fin_X7 w9 h9)) hown hK hP 0 rfl rfl 0 (by decide) (hts _ (fz_m fm_10)) (fun _ h9 => h9) rfl dX9_appendNode_68 ?_
  refine va_get (D := D) (ci := 12) (v := .ref (q 8)) (C := RX8) (T := TX8) (N := 10) hx hb hts (fun w9 h9 => fz_m (fin_X8 w9 h9)) hown hK hP 1 rfl rfl 8 (by decide) (hts _ (fz_m fm_109)) (fun _ h9 => h9) rfl dX9_appendNode_71 ?_
  refine lv_iload_n hx hb dX9_appendNode_74 rfl (lv_at hl 1 rfl) ?_
  refine va_iald hx hb hK hP 8 0 rfl rfl (fz_vin (by decide)) dX9_appendNode_75 ?_
  refine fz_I (y := (-1)) g_f_8_0 ?_
  refine lv_iconst (v := (-1)) hx hb dX9_appendNode_76 (by decide) ?_
  refine lv_icmp_eq (tgt := 125) hx hb dX9_appendNode_77 (by decide) (fun c_3 => ?_) (fun c_3 => absurd (by decide) c_3)
  exact fz_vret hx hb hr hlocks hS dX9_appendNode_125 () trivial hP (Nat.le_of_ble_eq_true rfl) (Nat.le_of_ble_eq_true rfl)

set_option maxHeartbeats 4000000 in
set_option maxRecDepth 100000 in
theorem c_appendLink (l : Launch) (A : Nat → Prop) (D : va_G) (k : Nat → ClassId) (q : Nat → Nat) (f : Nat → Nat → Int32) (pa : Nat → Option Nat) (v : Nat → Int32)   :
    Met l yX9_appendLink (fz_ws yX9_appendLink cX9_appendLink 5 none) { frames := 0, cells := 0, slots := 0, locals := 0 } (va_Pc [.ref (q 31), .int 0, .int 0, .int 0] (fz_PC A D (fz_tys k) (fz_WC k q f pa v))) (fz_QV D A (fun (_ : Unit) => fz_WC k q f pa v) (fun (_ : Unit) => True)) 0 0 A := by
  refine fz_of (by decide +kernel) (Nat.le_of_ble_eq_true rfl) ?_
  intro p e s m below meth c hx hb hr hml hown hlocks hts hin hA hP hK hD hG hS ls hl
  have hown : s.vm.findClass RX9 = some m.cls := hown
  have S0 : CallFix p m c cX9_appendLink 5 s [.ref (q 31), .int 0, .int 0, .int 0].toArray (fz_ws yX9_appendLink cX9_appendLink 5 none) RX9 := ⟨hx, hb, hml, hown, hts⟩
  have hl : lv_has ls 5 [(0, .ref (q 31)), (1, .int 0), (2, .int 0), (3, .int 0)] := hl
  refine lv_iload_n hx hb dX9_appendLink_0 rfl (lv_at hl 2 rfl) ?_
  refine lv_iload_n hx hb dX9_appendLink_1 rfl (lv_at hl 1 rfl) ?_
  refine lv_icmp_le (tgt := 16) hx hb dX9_appendLink_2 (by decide) (fun c_1 => ?_) (fun c_1 => absurd (by decide) c_1)
  refine lv_iload_n hx hb dX9_appendLink_16 rfl (lv_at hl 2 rfl) ?_
  refine lv_istore (lv' := [(4, .int 0), (0, .ref (q 31)), (1, .int 0), (2, .int 0), (3, .int 0)]) hx hb dX9_appendLink_17 hl (by decide) rfl (fun ls hl => ?_)
  refine lv_iload hx hb dX9_appendLink_19 (lv_at hl 0 rfl) ?_
  refine lv_iload_n hx hb dX9_appendLink_21 rfl (lv_at hl 2 rfl) ?_
  refine lv_icmp_ge (tgt := 41) hx hb dX9_appendLink_22 (by decide) (fun c_2 => ?_) (fun c_2 => absurd (by decide) c_2)
  refine lv_iload_n hx hb dX9_appendLink_41 rfl (lv_at hl 4 rfl) ?_
  refine lv_if_eq (tgt := 55) hx hb dX9_appendLink_42 (by decide) (fun c_3 => ?_) (fun c_3 => absurd (by decide) c_3)
  exact fz_vret hx hb hr hlocks hS dX9_appendLink_55 () trivial hP (Nat.le_of_ble_eq_true rfl) (Nat.le_of_ble_eq_true rfl)

set_option maxHeartbeats 4000000 in
set_option maxRecDepth 100000 in
theorem c_widen (l : Launch) (A : Nat → Prop) (D : va_G) (k : Nat → ClassId) (q : Nat → Nat) (f : Nat → Nat → Int32) (pa : Nat → Option Nat) (v : Nat → Int32) (g_f_6_0 : f 6 0 = 0) (g_f_5_0 : f 5 0 = (-1))  :
    Met l yX8_widen (fz_ws yX8_widen cX8_widen 5 none) { frames := 0, cells := 0, slots := 0, locals := 0 } (va_Pc [.ref (q 1), .int 0, .int 1] (fz_PC A D (fz_tys k) (fz_WC k q f pa v))) (fz_QV D A (fun (_ : Unit) => ([] : va_W)) (fun (_ : Unit) => True)) 0 0 A := by
  refine fz_of (by decide +kernel) (Nat.le_of_ble_eq_true rfl) ?_
  intro p e s m below meth c hx hb hr hml hown hlocks hts hin hA hP hK hD hG hS ls hl
  have hown : s.vm.findClass RX8 = some m.cls := hown
  have S0 : CallFix p m c cX8_widen 5 s [.ref (q 1), .int 0, .int 1].toArray (fz_ws yX8_widen cX8_widen 5 none) RX8 := ⟨hx, hb, hml, hown, hts⟩
  have hl : lv_has ls 5 [(0, .ref (q 1)), (1, .int 0), (2, .int 1)] := hl
  refine lv_iload_n hx hb dX8_widen_0 rfl (lv_at hl 1 rfl) ?_
  refine lv_istore_n (lv' := [(3, .int 0), (0, .ref (q 1)), (1, .int 0), (2, .int 1)]) hx hb dX8_widen_1 rfl hl (by decide) rfl (fun ls hl => ?_)
  refine lv_iconst (v := 0) hx hb dX8_widen_2 (by decide) ?_
  refine lv_istore (lv' := [(4, .int 0), (3, .int 0), (0, .ref (q 1)), (1, .int 0), (2, .int 1)]) hx hb dX8_widen_3 hl (by decide) rfl (fun ls hl => ?_)
  refine lv_iload hx hb dX8_widen_5 (lv_at hl 0 rfl) ?_
  refine lv_iconst (v := 3) hx hb dX8_widen_7 (by decide) ?_
  refine lv_icmp_gt (tgt := 39) hx hb dX8_widen_8 (by decide) (fun c_1 => absurd c_1 (by decide)) (fun c_1 => ?_)
  refine lv_iload_n hx hb dX8_widen_11 rfl (lv_at hl 1 rfl) ?_
  refine lv_iconst (v := (-1)) hx hb dX8_widen_12 (by decide) ?_
  refine lv_icmp_eq (tgt := 39) hx hb dX8_widen_13 (by decide) (fun c_2 => absurd c_2 (by decide)) (fun c_2 => ?_)
  refine lv_aload_n hx hb dX8_widen_16 rfl (lv_at hl 2 rfl) ?_
  refine va_get (D := D) (ci := 12) (v := .ref (q 6)) (C := RX8) (T := TX8) (N := 10) hx hb hts (fun w9 h9 => fz_m (fin_X8 w9 h9)) hown hK hP 1 rfl rfl 6 (by decide) (hts _ (fz_m fm_39)) (fun _ h9 => h9) rfl dX8_widen_17 ?_
  refine lv_iload_n hx hb dX8_widen_20 rfl (lv_at hl 1 rfl) ?_
  refine lv_dup2_11 hx hb dX8_widen_21 rfl rfl ?_
  refine va_iald hx hb hK hP 6 0 rfl rfl (fz_vin (by decide)) dX8_widen_22 ?_
  refine fz_I (y := 0) g_f_6_0 ?_
  refine lv_iload_n hx hb dX8_widen_23 rfl (lv_at hl 4 rfl) ?_
  refine lv_iadd hx hb dX8_widen_24 ?_
  refine fz_I (y := 1) (by decide) ?_
  refine va_iast hx hb hK hP hD hS 6 0 rfl rfl (fz_vin (by decide)) dX8_widen_25 (fun H locs hP hD hS => ?_)
  have hP : va_P D vwCl (fz_WC k q (va_up f 6 (upd (f 6) 0 1)) pa v) H := hP
  have hD : va_D A (fz_WC k q (va_up f 6 (upd (f 6) 0 1)) pa v) := hD
  refine lv_aload_n hx hb dX8_widen_26 rfl (lv_at hl 2 rfl) ?_
  refine va_get (D := D) (ci := 12) (v := .ref (q 5)) (C := RX8) (T := TX8) (N := 10) hx hb hts (fun w9 h9 => fz_m (fin_X8 w9 h9)) hown hK hP 1 rfl rfl 5 (by decide) (hts _ (fz_m fm_47)) (fun _ h9 => h9) rfl dX8_widen_27 ?_
  refine lv_iload_n hx hb dX8_widen_30 rfl (lv_at hl 1 rfl) ?_
  refine va_iald hx hb hK hP 5 0 rfl rfl (fz_vin (by decide)) dX8_widen_31 ?_
  refine fz_I (y := (-1)) g_f_5_0 ?_
  refine lv_istore_n (lv' := [(3, .int (-1)), (4, .int 0), (0, .ref (q 1)), (1, .int 0), (2, .int 1)]) hx hb dX8_widen_32 rfl hl (by decide) rfl (fun ls hl => ?_)
  refine lv_iinc (v := 1) (lv' := [(4, .int 1), (3, .int (-1)), (0, .ref (q 1)), (1, .int 0), (2, .int 1)]) hx hb dX8_widen_33 hl (k := 1) rfl (by decide) (by decide) rfl (fun ls hl => ?_)
  refine lv_goto (tgt := 5) hx hb dX8_widen_36 (by decide) ?_
  refine lv_iload hx hb dX8_widen_5 (lv_at hl 0 rfl) ?_
  refine lv_iconst (v := 3) hx hb dX8_widen_7 (by decide) ?_
  refine lv_icmp_gt (tgt := 39) hx hb dX8_widen_8 (by decide) (fun c_3 => absurd c_3 (by decide)) (fun c_3 => ?_)
  refine lv_iload_n hx hb dX8_widen_11 rfl (lv_at hl 1 rfl) ?_
  refine lv_iconst (v := (-1)) hx hb dX8_widen_12 (by decide) ?_
  refine lv_icmp_eq (tgt := 39) hx hb dX8_widen_13 (by decide) (fun c_4 => ?_) (fun c_4 => absurd (by decide) c_4)
  have hP : va_P D vwCl [] H := fz_nil
  exact fz_vret hx hb hr hlocks hS dX8_widen_39 () trivial hP (Nat.le_of_ble_eq_true rfl) (Nat.le_of_ble_eq_true rfl)

set_option maxHeartbeats 4000000 in
set_option maxRecDepth 100000 in
theorem c_hang (l : Launch) (A : Nat → Prop) (D : va_G) (k : Nat → ClassId) (q : Nat → Nat) (f : Nat → Nat → Int32) (pa : Nat → Option Nat) (v : Nat → Int32) (g_f_6_1 : f 6 1 = 0) (g_v_2 : v 2 = 1) (g_f_6_0 : f 6 0 = 0) (g_f_5_0 : f 5 0 = (-1))  :
    Met l yX8_hang (fz_ws yX8_hang cX8_hang 5 none) { frames := 12, cells := 0, slots := 0, locals := 160 } (va_Pc [.ref (q 1), .int 1, .int 0] (fz_PC A D (fz_tys k) (fz_WC k q f pa v))) (fz_QV D A (fun (_ : Unit) => ([] : va_W)) (fun (_ : Unit) => True)) 0 0 A := by
  refine fz_of (by decide +kernel) (Nat.le_of_ble_eq_true rfl) ?_
  intro p e s m below meth c hx hb hr hml hown hlocks hts hin hA hP hK hD hG hS ls hl
  have hown : s.vm.findClass RX8 = some m.cls := hown
  have S0 : CallFix p m c cX8_hang 5 s [.ref (q 1), .int 1, .int 0].toArray (fz_ws yX8_hang cX8_hang 5 none) RX8 := ⟨hx, hb, hml, hown, hts⟩
  have hl : lv_has ls 5 [(0, .ref (q 1)), (1, .int 1), (2, .int 0)] := hl
  refine lv_aload_n hx hb dX8_hang_0 rfl (lv_at hl 0 rfl) ?_
  refine va_get (D := D) (ci := 12) (v := .ref (q 6)) (C := RX8) (T := TX8) (N := 10) hx hb hts (fun w9 h9 => fz_m (fin_X8 w9 h9)) hown hK hP 1 rfl rfl 6 (by decide) (hts _ (fz_m fm_39)) (fun _ h9 => h9) rfl dX8_hang_1 ?_
  refine lv_iload_n hx hb dX8_hang_4 rfl (lv_at hl 1 rfl) ?_
  refine va_iald hx hb hK hP 6 0 rfl rfl (fz_vin (by decide)) dX8_hang_5 ?_
  refine fz_I (y := 0) g_f_6_1 ?_
  refine lv_iconst (v := 1) hx hb dX8_hang_6 (by decide) ?_
  refine lv_iadd hx hb dX8_hang_7 ?_
  refine fz_I (y := 1) (by decide) ?_
  refine lv_istore_n (lv' := [(3, .int 1), (0, .ref (q 1)), (1, .int 1), (2, .int 0)]) hx hb dX8_hang_8 rfl hl (by decide) rfl (fun ls hl => ?_)
  refine lv_aload_n hx hb dX8_hang_9 rfl (lv_at hl 1 rfl) ?_
  refine lv_iload_n hx hb dX8_hang_10 rfl (lv_at hl 3 rfl) ?_
  refine fz_cVi (As := [.int 0]) (rest := []) S0 (c_place l A D k q f pa v 0 g_v_2) (fz_cwV (C := RX8) 1 hts fm_35 fm_36 fm_37 fm_38 fm_15 rfl rfl ⟨by decide, by decide, by decide +kernel⟩ ⟨Nat.le_of_ble_eq_true rfl, Nat.le_of_ble_eq_true rfl⟩) (va_recv hK hP (ci := 12) (q0 := 1) rfl rfl) (fun _ h9 => h9) (fun a9 h9 => hA a9 (Nat.le_trans hS.1 h9)) hG hS hP hK hD rfl hl.1 rfl (Nat.le_of_ble_eq_true rfl) dX8_hang_11 ⟨Nat.le_of_ble_eq_true rfl, Nat.le_of_ble_eq_true rfl⟩ (fun r_1 u_1 H locs hw hz1 hk1 hP hS => ?_)
  have hP : va_P D vwCl (fz_WC k q f pa v) H := hP
  obtain rfl : r_1 = 0 := hw
  refine lv_aload_n hx hb dX8_hang_14 rfl (lv_at hl 1 rfl) ?_
  refine va_get (D := D) (ci := 12) (v := .ref (q 6)) (C := RX8) (T := TX8) (N := 10) hx hb hts (fun w9 h9 => fz_m (fin_X8 w9 h9)) hown hK hP 1 rfl rfl 6 (by decide) (hts _ (fz_m fm_39)) (fun _ h9 => h9) rfl dX8_hang_15 ?_
  refine lv_iload_n hx hb dX8_hang_18 rfl (lv_at hl 3 rfl) ?_
  refine va_iald hx hb hK hP 6 0 rfl rfl (fz_vin (by decide)) dX8_hang_19 ?_
  refine fz_I (y := 0) g_f_6_0 ?_
  refine lv_iadd hx hb dX8_hang_20 ?_
  refine fz_I (y := 0) (by decide) ?_
  refine lv_iconst (v := 1) hx hb dX8_hang_21 (by decide) ?_
  refine lv_iadd hx hb dX8_hang_22 ?_
  refine fz_I (y := 1) (by decide) ?_
  refine lv_istore (lv' := [(4, .int 1), (3, .int 1), (0, .ref (q 1)), (1, .int 1), (2, .int 0)]) hx hb dX8_hang_23 hl (by decide) rfl (fun ls hl => ?_)
  refine lv_aload_n hx hb dX8_hang_25 rfl (lv_at hl 2 rfl) ?_
  refine va_get (D := D) (ci := 12) (v := .ref (q 2)) (C := RX8) (T := TX8) (N := 10) hx hb hts (fun w9 h9 => fz_m (fin_X8 w9 h9)) hown hK hP 1 rfl rfl 2 (by decide) (hts _ (fz_m fm_41)) (fun _ h9 => h9) rfl dX8_hang_26 ?_
  refine lv_iload hx hb dX8_hang_29 (lv_at hl 0 rfl) ?_
  refine lv_aload_n hx hb dX8_hang_31 rfl (lv_at hl 2 rfl) ?_
  refine va_get (D := D) (ci := 12) (v := .ref (q 2)) (C := RX8) (T := TX8) (N := 10) hx hb hts (fun w9 h9 => fz_m (fin_X8 w9 h9)) hown hK hP 1 rfl rfl 2 (by decide) (hts _ (fz_m fm_41)) (fun _ h9 => h9) rfl dX8_hang_32 ?_
  refine lv_iload hx hb dX8_hang_35 (lv_at hl 0 rfl) ?_
  refine lv_iload_n hx hb dX8_hang_37 rfl (lv_at hl 1 rfl) ?_
  refine lv_iadd hx hb dX8_hang_38 ?_
  refine fz_I (y := 2) (by decide) ?_
  refine lv_aload_n hx hb dX8_hang_39 rfl (lv_at hl 2 rfl) ?_
  refine va_get (D := D) (ci := 12) (v := .int (v 2)) (C := RX8) (T := TX8) (N := 10) hx hb hts (fun w9 h9 => fz_m (fin_X8 w9 h9)) hown hK hP 1 rfl rfl 1 (by decide) (hts _ (fz_m fm_2)) (fun _ h9 => h9) rfl dX8_hang_40 ?_
  refine fz_I (y := 1) g_v_2 ?_
  refine lv_iload hx hb dX8_hang_43 (lv_at hl 0 rfl) ?_
  refine lv_isub hx hb dX8_hang_45 ?_
  refine fz_I (y := 0) (by decide) ?_
  refine va_copyi hx hb (hml.trans hl.1.symm) hown (hts _ (fz_m fm_253)) (hts _ (fz_m fm_254)) (hts _ (fz_m fm_255)) (hts _ (fz_m fm_256)) hK hP hD hS 2 2 0 0 rfl rfl rfl rfl rfl (by decide) (by decide) (by decide) (by decide) (by decide) (fun _ _ => rfl) (Nat.le_of_ble_eq_true rfl) (Nat.le_of_ble_eq_true rfl) dX8_hang_46 (fun H locs hP hD hS => ?_)
  have hP : va_P D vwCl (fz_WC k q (va_up f 2 (va_cpy (f 2) (f 2) (1 : Int32).toNatClampNeg (2 : Int32).toNatClampNeg (0 : Int32).toNatClampNeg)) pa v) H := hP
  have hD : va_D A (fz_WC k q (va_up f 2 (va_cpy (f 2) (f 2) (1 : Int32).toNatClampNeg (2 : Int32).toNatClampNeg (0 : Int32).toNatClampNeg)) pa v) := hD
  refine lv_aload_n hx hb dX8_hang_49 rfl (lv_at hl 2 rfl) ?_
  refine va_get (D := D) (ci := 12) (v := .ref (q 3)) (C := RX8) (T := TX8) (N := 10) hx hb hts (fun w9 h9 => fz_m (fin_X8 w9 h9)) hown hK hP 1 rfl rfl 3 (by decide) (hts _ (fz_m fm_257)) (fun _ h9 => h9) rfl dX8_hang_50 ?_
  refine lv_iconst (v := 0) hx hb dX8_hang_53 (by decide) ?_
  refine lv_aload_n hx hb dX8_hang_54 rfl (lv_at hl 2 rfl) ?_
  refine va_get (D := D) (ci := 12) (v := .ref (q 2)) (C := RX8) (T := TX8) (N := 10) hx hb hts (fun w9 h9 => fz_m (fin_X8 w9 h9)) hown hK hP 1 rfl rfl 2 (by decide) (hts _ (fz_m fm_41)) (fun _ h9 => h9) rfl dX8_hang_55 ?_
  refine lv_iload hx hb dX8_hang_58 (lv_at hl 0 rfl) ?_
  refine lv_iload_n hx hb dX8_hang_60 rfl (lv_at hl 1 rfl) ?_
  refine va_copyi hx hb (hml.trans hl.1.symm) hown (hts _ (fz_m fm_253)) (hts _ (fz_m fm_254)) (hts _ (fz_m fm_255)) (hts _ (fz_m fm_256)) hK hP hD hS 3 2 0 0 rfl rfl rfl rfl rfl (by decide) (by decide) (by decide) (by decide) (by decide) (fun _ _ => rfl) (Nat.le_of_ble_eq_true rfl) (Nat.le_of_ble_eq_true rfl) dX8_hang_61 (fun H locs hP hD hS => ?_)
  have hP : va_P D vwCl (fz_WC k q (va_up f 2 (va_cpy (f 3) (va_cpy (f 2) (f 2) (1 : Int32).toNatClampNeg (2 : Int32).toNatClampNeg (0 : Int32).toNatClampNeg) (0 : Int32).toNatClampNeg (1 : Int32).toNatClampNeg (1 : Int32).toNatClampNeg)) pa v) H := hP
  have hD : va_D A (fz_WC k q (va_up f 2 (va_cpy (f 3) (va_cpy (f 2) (f 2) (1 : Int32).toNatClampNeg (2 : Int32).toNatClampNeg (0 : Int32).toNatClampNeg) (0 : Int32).toNatClampNeg (1 : Int32).toNatClampNeg (1 : Int32).toNatClampNeg)) pa v) := hD
  refine lv_aload_n hx hb dX8_hang_64 rfl (lv_at hl 2 rfl) ?_
  refine lv_dup hx hb dX8_hang_65 rfl ?_
  refine va_get (D := D) (ci := 12) (v := .int (v 2)) (C := RX8) (T := TX8) (N := 10) hx hb hts (fun w9 h9 => fz_m (fin_X8 w9 h9)) hown hK hP 1 rfl rfl 1 (by decide) (hts _ (fz_m fm_2)) (fun _ h9 => h9) rfl dX8_hang_66 ?_
  refine fz_I (y := 1) g_v_2 ?_
  refine lv_iload_n hx hb dX8_hang_69 rfl (lv_at hl 1 rfl) ?_
  refine lv_iadd hx hb dX8_hang_70 ?_
  refine fz_I (y := 2) (by decide) ?_
  refine va_put (D := D) (ci := 12) (v := .int 2) (ty := .int) (C := RX8) (T := TX8) (N := 10) hx hb hts (fun w9 h9 => fz_m (fin_X8 w9 h9)) tyX8 tyX8_ok nmX8 hown hK hP hD hS 1 rfl rfl 1 (by decide) (hts _ (fz_m fm_2)) (fun _ h9 => h9) rfl (by decide +kernel) rfl rfl (Nat.le_of_ble_eq_true rfl) dX8_hang_71 (fun H locs hP hD hS => ?_)
  have hP : va_P D vwCl (fz_WC k q (va_up f 2 (va_cpy (f 3) (va_cpy (f 2) (f 2) (1 : Int32).toNatClampNeg (2 : Int32).toNatClampNeg (0 : Int32).toNatClampNeg) (0 : Int32).toNatClampNeg (1 : Int32).toNatClampNeg (1 : Int32).toNatClampNeg)) pa (va_up v 2 2)) H := hP
  have hD : va_D A (fz_WC k q (va_up f 2 (va_cpy (f 3) (va_cpy (f 2) (f 2) (1 : Int32).toNatClampNeg (2 : Int32).toNatClampNeg (0 : Int32).toNatClampNeg) (0 : Int32).toNatClampNeg (1 : Int32).toNatClampNeg (1 : Int32).toNatClampNeg)) pa (va_up v 2 2)) := hD
  refine lv_aload_n hx hb dX8_hang_74 rfl (lv_at hl 2 rfl) ?_
  refine va_get (D := D) (ci := 12) (v := .ref (q 5)) (C := RX8) (T := TX8) (N := 10) hx hb hts (fun w9 h9 => fz_m (fin_X8 w9 h9)) hown hK hP 1 rfl rfl 5 (by decide) (hts _ (fz_m fm_47)) (fun _ h9 => h9) rfl dX8_hang_75 ?_
  refine lv_iload_n hx hb dX8_hang_78 rfl (lv_at hl 3 rfl) ?_
  refine lv_iload_n hx hb dX8_hang_79 rfl (lv_at hl 4 rfl) ?_
  refine va_iast hx hb hK hP hD hS 5 0 rfl rfl (fz_vin (by decide)) dX8_hang_80 (fun H locs hP hD hS => ?_)
  have hP : va_P D vwCl (fz_WC k q (va_up (va_up f 2 (va_cpy (f 3) (va_cpy (f 2) (f 2) (1 : Int32).toNatClampNeg (2 : Int32).toNatClampNeg (0 : Int32).toNatClampNeg) (0 : Int32).toNatClampNeg (1 : Int32).toNatClampNeg (1 : Int32).toNatClampNeg)) 5 (upd (f 5) 1 0)) pa (va_up v 2 2)) H := hP
  have hD : va_D A (fz_WC k q (va_up (va_up f 2 (va_cpy (f 3) (va_cpy (f 2) (f 2) (1 : Int32).toNatClampNeg (2 : Int32).toNatClampNeg (0 : Int32).toNatClampNeg) (0 : Int32).toNatClampNeg (1 : Int32).toNatClampNeg (1 : Int32).toNatClampNeg)) 5 (upd (f 5) 1 0)) pa (va_up v 2 2)) := hD
  refine lv_aload_n hx hb dX8_hang_81 rfl (lv_at hl 2 rfl) ?_
  refine lv_iload_n hx hb dX8_hang_82 rfl (lv_at hl 4 rfl) ?_
  refine lv_iload_n hx hb dX8_hang_83 rfl (lv_at hl 1 rfl) ?_
  refine fz_cVv (As := [.int 0, .int 1]) (rest := []) S0 (c_widen l A D k q (va_up (va_up f 2 (va_cpy (f 3) (va_cpy (f 2) (f 2) (1 : Int32).toNatClampNeg (2 : Int32).toNatClampNeg (0 : Int32).toNatClampNeg) (0 : Int32).toNatClampNeg (1 : Int32).toNatClampNeg (1 : Int32).toNatClampNeg)) 5 (upd (f 5) 1 0)) pa (va_up v 2 2) g_f_6_0 g_f_5_0) (fz_cwV (C := RX8) 2 hts fm_258 fm_259 fm_260 fm_261 fm_15 rfl rfl ⟨by decide, by decide, by decide +kernel⟩ ⟨Nat.le_of_ble_eq_true rfl, Nat.le_of_ble_eq_true rfl⟩) (va_recv hK hP (ci := 12) (q0 := 1) rfl rfl) (fun _ h9 => h9) (fun a9 h9 => hA a9 (Nat.le_trans hS.1 h9)) hG hS hP hK hD rfl hl.1 rfl (Nat.le_of_ble_eq_true rfl) dX8_hang_84 ⟨Nat.le_of_ble_eq_true rfl, Nat.le_of_ble_eq_true rfl⟩ (fun u_2 H locs hw hz1 hk1 hP hS => ?_)
  have hP : va_P D vwCl [] H := hP
  exact fz_vret hx hb hr hlocks hS dX8_hang_87 () trivial hP (Nat.le_of_ble_eq_true rfl) (Nat.le_of_ble_eq_true rfl)

set_option maxHeartbeats 4000000 in
set_option maxRecDepth 100000 in
theorem c_grow (l : Launch) (A : Nat → Prop) (D : va_G) (k : Nat → ClassId) (q : Nat → Nat) (f : Nat → Nat → Int32) (pa : Nat → Option Nat) (v : Nat → Int32) (p1 p2 p3 p4 : Int32) (g_v_1 : v 1 = 1) (g_v_2 : v 2 = 1) (g_f_6_0 : f 6 0 = 0) (g_f_5_0 : f 5 0 = (-1))  :
    Met l yX8_grow (fz_ws yX8_grow cX8_grow 7 (some .int)) { frames := 24, cells := 0, slots := 0, locals := 320 } (va_Pc [.ref (q 1), .int 0, .int p1, .int p2, .int p3, .int p4] (fz_PC A D (fz_tys k) (fz_WC k q f pa v))) (fz_QI D A (fun (_ : Unit) => ([] : va_W)) (fun (r : Int32) (_ : Unit) => r = 1)) 0 0 A := by
  refine fz_of (by decide +kernel) (Nat.le_of_ble_eq_true rfl) ?_
  intro p e s m below meth c hx hb hr hml hown hlocks hts hin hA hP hK hD hG hS ls hl
  have hown : s.vm.findClass RX8 = some m.cls := hown
  have S0 : CallFix p m c cX8_grow 7 s [.ref (q 1), .int 0, .int p1, .int p2, .int p3, .int p4].toArray (fz_ws yX8_grow cX8_grow 7 (some .int)) RX8 := ⟨hx, hb, hml, hown, hts⟩
  have hl : lv_has ls 7 [(0, .ref (q 1)), (1, .int 0), (2, .int p1), (3, .int p2), (4, .int p3), (5, .int p4)] := hl
  refine lv_aload_n hx hb dX8_grow_0 rfl (lv_at hl 0 rfl) ?_
  refine va_get (D := D) (ci := 12) (v := .int (v 1)) (C := RX8) (T := TX8) (N := 10) hx hb hts (fun w9 h9 => fz_m (fin_X8 w9 h9)) hown hK hP 1 rfl rfl 0 (by decide) (hts _ (fz_m fm_0)) (fun _ h9 => h9) rfl dX8_grow_1 ?_
  refine fz_I (y := 1) g_v_1 ?_
  refine lv_istore (lv' := [(6, .int 1), (0, .ref (q 1)), (1, .int 0), (2, .int p1), (3, .int p2), (4, .int p3), (5, .int p4)]) hx hb dX8_grow_4 hl (by decide) rfl (fun ls hl => ?_)
  refine lv_aload_n hx hb dX8_grow_6 rfl (lv_at hl 1 rfl) ?_
  refine lv_dup hx hb dX8_grow_7 rfl ?_
  refine va_get (D := D) (ci := 12) (v := .int (v 1)) (C := RX8) (T := TX8) (N := 10) hx hb hts (fun w9 h9 => fz_m (fin_X8 w9 h9)) hown hK hP 1 rfl rfl 0 (by decide) (hts _ (fz_m fm_0)) (fun _ h9 => h9) rfl dX8_grow_8 ?_
  refine fz_I (y := 1) g_v_1 ?_
  refine lv_iconst (v := 1) hx hb dX8_grow_11 (by decide) ?_
  refine lv_iadd hx hb dX8_grow_12 ?_
  refine fz_I (y := 2) (by decide) ?_
  refine va_put (D := D) (ci := 12) (v := .int 2) (ty := .int) (C := RX8) (T := TX8) (N := 10) hx hb hts (fun w9 h9 => fz_m (fin_X8 w9 h9)) tyX8 tyX8_ok nmX8 hown hK hP hD hS 1 rfl rfl 0 (by decide) (hts _ (fz_m fm_0)) (fun _ h9 => h9) rfl (by decide +kernel) rfl rfl (Nat.le_of_ble_eq_true rfl) dX8_grow_13 (fun H locs hP hD hS => ?_)
  have hP : va_P D vwCl (fz_WC k q f pa (va_up v 1 2)) H := hP
  have hD : va_D A (fz_WC k q f pa (va_up v 1 2)) := hD
  refine lv_aload_n hx hb dX8_grow_16 rfl (lv_at hl 1 rfl) ?_
  refine va_get (D := D) (ci := 12) (v := .ref (q 4)) (C := RX8) (T := TX8) (N := 10) hx hb hts (fun w9 h9 => fz_m (fin_X8 w9 h9)) hown hK hP 1 rfl rfl 4 (by decide) (hts _ (fz_m fm_1)) (fun _ h9 => h9) rfl dX8_grow_17 ?_
  refine lv_iload hx hb dX8_grow_20 (lv_at hl 0 rfl) ?_
  refine lv_iload_n hx hb dX8_grow_22 rfl (lv_at hl 3 rfl) ?_
  refine va_iast hx hb hK hP hD hS 4 0 rfl rfl (fz_vin (by decide)) dX8_grow_23 (fun H locs hP hD hS => ?_)
  have hP : va_P D vwCl (fz_WC k q (va_up f 4 (upd (f 4) 1 p1)) pa (va_up v 1 2)) H := hP
  have hD : va_D A (fz_WC k q (va_up f 4 (upd (f 4) 1 p1)) pa (va_up v 1 2)) := hD
  refine lv_aload_n hx hb dX8_grow_24 rfl (lv_at hl 1 rfl) ?_
  refine va_get (D := D) (ci := 12) (v := .ref (q 6)) (C := RX8) (T := TX8) (N := 10) hx hb hts (fun w9 h9 => fz_m (fin_X8 w9 h9)) hown hK hP 1 rfl rfl 6 (by decide) (hts _ (fz_m fm_39)) (fun _ h9 => h9) rfl dX8_grow_25 ?_
  refine lv_iload hx hb dX8_grow_28 (lv_at hl 0 rfl) ?_
  refine lv_iconst (v := 0) hx hb dX8_grow_30 (by decide) ?_
  refine va_iast hx hb hK hP hD hS 6 0 rfl rfl (fz_vin (by decide)) dX8_grow_31 (fun H locs hP hD hS => ?_)
  have hP : va_P D vwCl (fz_WC k q (va_up (va_up f 4 (upd (f 4) 1 p1)) 6 (upd (f 6) 1 0)) pa (va_up v 1 2)) H := hP
  have hD : va_D A (fz_WC k q (va_up (va_up f 4 (upd (f 4) 1 p1)) 6 (upd (f 6) 1 0)) pa (va_up v 1 2)) := hD
  refine lv_aload_n hx hb dX8_grow_32 rfl (lv_at hl 1 rfl) ?_
  refine va_get (D := D) (ci := 12) (v := .ref (q 7)) (C := RX8) (T := TX8) (N := 10) hx hb hts (fun w9 h9 => fz_m (fin_X8 w9 h9)) hown hK hP 1 rfl rfl 7 (by decide) (hts _ (fz_m fm_46)) (fun _ h9 => h9) rfl dX8_grow_33 ?_
  refine lv_iload hx hb dX8_grow_36 (lv_at hl 0 rfl) ?_
  refine lv_iload_n hx hb dX8_grow_38 rfl (lv_at hl 4 rfl) ?_
  refine va_iast hx hb hK hP hD hS 7 0 rfl rfl (fz_vin (by decide)) dX8_grow_39 (fun H locs hP hD hS => ?_)
  have hP : va_P D vwCl (fz_WC k q (va_up (va_up (va_up f 4 (upd (f 4) 1 p1)) 6 (upd (f 6) 1 0)) 7 (upd (f 7) 1 p2)) pa (va_up v 1 2)) H := hP
  have hD : va_D A (fz_WC k q (va_up (va_up (va_up f 4 (upd (f 4) 1 p1)) 6 (upd (f 6) 1 0)) 7 (upd (f 7) 1 p2)) pa (va_up v 1 2)) := hD
  refine lv_aload_n hx hb dX8_grow_40 rfl (lv_at hl 1 rfl) ?_
  refine va_get (D := D) (ci := 12) (v := .ref (q 8)) (C := RX8) (T := TX8) (N := 10) hx hb hts (fun w9 h9 => fz_m (fin_X8 w9 h9)) hown hK hP 1 rfl rfl 8 (by decide) (hts _ (fz_m fm_262)) (fun _ h9 => h9) rfl dX8_grow_41 ?_
  refine lv_iload hx hb dX8_grow_44 (lv_at hl 0 rfl) ?_
  refine lv_iload hx hb dX8_grow_46 (lv_at hl 5 rfl) ?_
  refine va_iast hx hb hK hP hD hS 8 0 rfl rfl (fz_vin (by decide)) dX8_grow_48 (fun H locs hP hD hS => ?_)
  have hP : va_P D vwCl (fz_WC k q (va_up (va_up (va_up (va_up f 4 (upd (f 4) 1 p1)) 6 (upd (f 6) 1 0)) 7 (upd (f 7) 1 p2)) 8 (upd (f 8) 1 p3)) pa (va_up v 1 2)) H := hP
  have hD : va_D A (fz_WC k q (va_up (va_up (va_up (va_up f 4 (upd (f 4) 1 p1)) 6 (upd (f 6) 1 0)) 7 (upd (f 7) 1 p2)) 8 (upd (f 8) 1 p3)) pa (va_up v 1 2)) := hD
  refine lv_aload_n hx hb dX8_grow_49 rfl (lv_at hl 1 rfl) ?_
  refine va_get (D := D) (ci := 12) (v := .ref (q 9)) (C := RX8) (T := TX8) (N := 10) hx hb hts (fun w9 h9 => fz_m (fin_X8 w9 h9)) hown hK hP 1 rfl rfl 9 (by decide) (hts _ (fz_m fm_40)) (fun _ h9 => h9) rfl dX8_grow_50 ?_
  refine lv_iload hx hb dX8_grow_53 (lv_at hl 0 rfl) ?_
  refine lv_iload hx hb dX8_grow_55 (lv_at hl 5 rfl) ?_
  refine lv_iconst (v := (-1)) hx hb dX8_grow_57 (by decide) ?_
  refine lv_icmp_ne (tgt := 65) hx hb dX8_grow_58 (by decide) (fun c_1 => ?_) (fun c_1 => ?_)
  · skip
    refine lv_iload hx hb dX8_grow_65 (lv_at hl 6 rfl) ?_
    refine va_iast hx hb hK hP hD hS 9 0 rfl rfl (fz_vin (by decide)) dX8_grow_67 (fun H locs hP hD hS => ?_)
    have hP : va_P D vwCl (fz_WC k q (va_up (va_up (va_up (va_up (va_up f 4 (upd (f 4) 1 p1)) 6 (upd (f 6) 1 0)) 7 (upd (f 7) 1 p2)) 8 (upd (f 8) 1 p3)) 9 (upd (f 9) 1 p4)) pa (va_up v 1 2)) H := hP
    have hD : va_D A (fz_WC k q (va_up (va_up (va_up (va_up (va_up f 4 (upd (f 4) 1 p1)) 6 (upd (f 6) 1 0)) 7 (upd (f 7) 1 p2)) 8 (upd (f 8) 1 p3)) 9 (upd (f 9) 1 p4)) pa (va_up v 1 2)) := hD
    refine lv_aload_n hx hb dX8_grow_68 rfl (lv_at hl 1 rfl) ?_
    refine va_get (D := D) (ci := 12) (v := .ref (q 3)) (C := RX8) (T := TX8) (N := 10) hx hb hts (fun w9 h9 => fz_m (fin_X8 w9 h9)) hown hK hP 1 rfl rfl 3 (by decide) (hts _ (fz_m fm_257)) (fun _ h9 => h9) rfl dX8_grow_69 ?_
    refine lv_iconst (v := 0) hx hb dX8_grow_72 (by decide) ?_
    refine lv_iload hx hb dX8_grow_73 (lv_at hl 0 rfl) ?_
    refine va_iast hx hb hK hP hD hS 3 0 rfl rfl (fz_vin (by decide)) dX8_grow_75 (fun H locs hP hD hS => ?_)
    have hP : va_P D vwCl (fz_WC k q (va_up (va_up (va_up (va_up (va_up (va_up f 4 (upd (f 4) 1 p1)) 6 (upd (f 6) 1 0)) 7 (upd (f 7) 1 p2)) 8 (upd (f 8) 1 p3)) 9 (upd (f 9) 1 p4)) 3 (upd (f 3) 0 1)) pa (va_up v 1 2)) H := hP
    have hD : va_D A (fz_WC k q (va_up (va_up (va_up (va_up (va_up (va_up f 4 (upd (f 4) 1 p1)) 6 (upd (f 6) 1 0)) 7 (upd (f 7) 1 p2)) 8 (upd (f 8) 1 p3)) 9 (upd (f 9) 1 p4)) 3 (upd (f 3) 0 1)) pa (va_up v 1 2)) := hD
    refine lv_aload_n hx hb dX8_grow_76 rfl (lv_at hl 1 rfl) ?_
    refine lv_iload hx hb dX8_grow_77 (lv_at hl 0 rfl) ?_
    refine lv_iload_n hx hb dX8_grow_79 rfl (lv_at hl 2 rfl) ?_
    refine fz_cVv (As := [.int 1, .int 0]) (rest := []) S0 (c_hang l A D k q (va_up (va_up (va_up (va_up (va_up (va_up f 4 (upd (f 4) 1 p1)) 6 (upd (f 6) 1 0)) 7 (upd (f 7) 1 p2)) 8 (upd (f 8) 1 p3)) 9 (upd (f 9) 1 p4)) 3 (upd (f 3) 0 1)) pa (va_up v 1 2) rfl g_v_2 g_f_6_0 g_f_5_0) (fz_cwV (C := RX8) 2 hts fm_263 fm_264 fm_265 fm_266 fm_15 rfl rfl ⟨by decide, by decide, by decide +kernel⟩ ⟨Nat.le_of_ble_eq_true rfl, Nat.le_of_ble_eq_true rfl⟩) (va_recv hK hP (ci := 12) (q0 := 1) rfl rfl) (fun _ h9 => h9) (fun a9 h9 => hA a9 (Nat.le_trans hS.1 h9)) hG hS hP hK hD rfl hl.1 rfl (Nat.le_of_ble_eq_true rfl) dX8_grow_80 ⟨Nat.le_of_ble_eq_true rfl, Nat.le_of_ble_eq_true rfl⟩ (fun u_2 H locs hw hz1 hk1 hP hS => ?_)
    have hP : va_P D vwCl [] H := hP
    refine lv_iload hx hb dX8_grow_83 (lv_at hl 0 rfl) ?_
    exact fz_iret hx hb hr rfl hlocks hS dX8_grow_85 () rfl hP (Nat.le_of_ble_eq_true rfl) (Nat.le_of_ble_eq_true rfl)
  · skip
    obtain rfl : p3 = (-1) := (fq_11 p3 c_1)
    refine lv_iconst (v := (-1)) hx hb dX8_grow_61 (by decide) ?_
    refine lv_goto (tgt := 67) hx hb dX8_grow_62 (by decide) ?_
    refine va_iast hx hb hK hP hD hS 9 0 rfl rfl (fz_vin (by decide)) dX8_grow_67 (fun H locs hP hD hS => ?_)
    have hP : va_P D vwCl (fz_WC k q (va_up (va_up (va_up (va_up (va_up f 4 (upd (f 4) 1 p1)) 6 (upd (f 6) 1 0)) 7 (upd (f 7) 1 p2)) 8 (upd (f 8) 1 (-1))) 9 (upd (f 9) 1 (-1))) pa (va_up v 1 2)) H := hP
    have hD : va_D A (fz_WC k q (va_up (va_up (va_up (va_up (va_up f 4 (upd (f 4) 1 p1)) 6 (upd (f 6) 1 0)) 7 (upd (f 7) 1 p2)) 8 (upd (f 8) 1 (-1))) 9 (upd (f 9) 1 (-1))) pa (va_up v 1 2)) := hD
    refine lv_aload_n hx hb dX8_grow_68 rfl (lv_at hl 1 rfl) ?_
    refine va_get (D := D) (ci := 12) (v := .ref (q 3)) (C := RX8) (T := TX8) (N := 10) hx hb hts (fun w9 h9 => fz_m (fin_X8 w9 h9)) hown hK hP 1 rfl rfl 3 (by decide) (hts _ (fz_m fm_257)) (fun _ h9 => h9) rfl dX8_grow_69 ?_
    refine lv_iconst (v := 0) hx hb dX8_grow_72 (by decide) ?_
    refine lv_iload hx hb dX8_grow_73 (lv_at hl 0 rfl) ?_
    refine va_iast hx hb hK hP hD hS 3 0 rfl rfl (fz_vin (by decide)) dX8_grow_75 (fun H locs hP hD hS => ?_)
    have hP : va_P D vwCl (fz_WC k q (va_up (va_up (va_up (va_up (va_up (va_up f 4 (upd (f 4) 1 p1)) 6 (upd (f 6) 1 0)) 7 (upd (f 7) 1 p2)) 8 (upd (f 8) 1 (-1))) 9 (upd (f 9) 1 (-1))) 3 (upd (f 3) 0 1)) pa (va_up v 1 2)) H := hP
    have hD : va_D A (fz_WC k q (va_up (va_up (va_up (va_up (va_up (va_up f 4 (upd (f 4) 1 p1)) 6 (upd (f 6) 1 0)) 7 (upd (f 7) 1 p2)) 8 (upd (f 8) 1 (-1))) 9 (upd (f 9) 1 (-1))) 3 (upd (f 3) 0 1)) pa (va_up v 1 2)) := hD
    refine lv_aload_n hx hb dX8_grow_76 rfl (lv_at hl 1 rfl) ?_
    refine lv_iload hx hb dX8_grow_77 (lv_at hl 0 rfl) ?_
    refine lv_iload_n hx hb dX8_grow_79 rfl (lv_at hl 2 rfl) ?_
    refine fz_cVv (As := [.int 1, .int 0]) (rest := []) S0 (c_hang l A D k q (va_up (va_up (va_up (va_up (va_up (va_up f 4 (upd (f 4) 1 p1)) 6 (upd (f 6) 1 0)) 7 (upd (f 7) 1 p2)) 8 (upd (f 8) 1 (-1))) 9 (upd (f 9) 1 (-1))) 3 (upd (f 3) 0 1)) pa (va_up v 1 2) rfl g_v_2 g_f_6_0 g_f_5_0) (fz_cwV (C := RX8) 2 hts fm_263 fm_264 fm_265 fm_266 fm_15 rfl rfl ⟨by decide, by decide, by decide +kernel⟩ ⟨Nat.le_of_ble_eq_true rfl, Nat.le_of_ble_eq_true rfl⟩) (va_recv hK hP (ci := 12) (q0 := 1) rfl rfl) (fun _ h9 => h9) (fun a9 h9 => hA a9 (Nat.le_trans hS.1 h9)) hG hS hP hK hD rfl hl.1 rfl (Nat.le_of_ble_eq_true rfl) dX8_grow_80 ⟨Nat.le_of_ble_eq_true rfl, Nat.le_of_ble_eq_true rfl⟩ (fun u_3 H locs hw hz1 hk1 hP hS => ?_)
    have hP : va_P D vwCl [] H := hP
    refine lv_iload hx hb dX8_grow_83 (lv_at hl 0 rfl) ?_
    exact fz_iret hx hb hr rfl hlocks hS dX8_grow_85 () rfl hP (Nat.le_of_ble_eq_true rfl) (Nat.le_of_ble_eq_true rfl)

set_option maxHeartbeats 4000000 in
set_option maxRecDepth 100000 in
theorem c_feed (l : Launch) (hl0 : l.stackTraces = false) (A : Nat → Prop) (D : va_G) (k : Nat → ClassId) (q : Nat → Nat) (f : Nat → Nat → Int32) (pa : Nat → Option Nat) (v : Nat → Int32) (p0 : Int32) (g_v_12 : v 12 = 0)  :
    vx_Met l yX9_feed (fz_ws yX9_feed cX9_feed 2 (some .int)) { frames := 12, cells := 0, slots := 0, locals := 160 } (va_Pc [.ref (q 31), .int p0] (fz_PC A D (fz_tys k) (fz_WC k q f pa v))) (fz_QI D A (fun (_ : Unit) => ([] : va_W)) (fun (r : Int32) (_ : Unit) => r = 1)) (fz_XC (fun E => (E = "java/lang/IllegalStateException" ∧ False)) A) 0 0 A := by
  refine fz_ofX (by decide +kernel) (Nat.le_of_ble_eq_true rfl) ?_
  intro p e s m below meth c hx hb hr hml hown hlocks hts ht hA hP hK hD hG hS ls hl
  have hown : s.vm.findClass RX9 = some m.cls := hown
  have S0 : CallFix p m c cX9_feed 2 s [.ref (q 31), .int p0].toArray (fz_ws yX9_feed cX9_feed 2 (some .int)) RX9 := ⟨hx, hb, hml, hown, hts⟩
  have hl : lv_has ls 2 [(0, .ref (q 31)), (1, .int p0)] := hl
  refine lv_aload_n hx hb dX9_feed_0 rfl (lv_at hl 0 rfl) ?_
  refine va_get (D := D) (ci := 13) (v := .ref (q 34)) (C := RX9) (T := TX9) (N := 8) hx hb hts (fun w9 h9 => fz_m (fin_X9 w9 h9)) hown hK hP 31 rfl rfl 6 (by decide) (hts _ (fz_m fm_267)) (fun _ h9 => h9) rfl dX9_feed_1 ?_
  refine va_get (D := D) (ci := 6) (v := .int (v 12)) (C := RX2) (T := TX2) (N := 9) hx hb hts (fun w9 h9 => fz_m (fin_X2 w9 h9)) hown hK hP 34 rfl rfl 0 (by decide) (hts _ (fz_m fm_268)) (fun _ h9 => h9) rfl dX9_feed_4 ?_
  refine fz_I (y := 0) g_v_12 ?_
  refine lv_bipush (v := 100) hx hb dX9_feed_7 (by decide) ?_
  refine lv_icmp_lt (tgt := 23) hx hb dX9_feed_9 (by decide) (fun c_1 => ?_) (fun c_1 => absurd (by decide) c_1)
  refine lv_aload_n hx hb dX9_feed_23 rfl (lv_at hl 0 rfl) ?_
  refine va_get (D := D) (ci := 13) (v := .ref (q 34)) (C := RX9) (T := TX9) (N := 8) hx hb hts (fun w9 h9 => fz_m (fin_X9 w9 h9)) hown hK hP 31 rfl rfl 6 (by decide) (hts _ (fz_m fm_267)) (fun _ h9 => h9) rfl dX9_feed_24 ?_
  refine lv_iload_n hx hb dX9_feed_27 rfl (lv_at hl 1 rfl) ?_
  refine fz_cVi (As := [.int p0]) (rest := []) S0 (c_appendI l A D k q f pa v p0 g_v_12) (fz_cwV (C := RX2) 1 hts fm_269 fm_270 fm_271 fm_272 fm_220 rfl rfl ⟨by decide, by decide, by decide +kernel⟩ ⟨Nat.le_of_ble_eq_true rfl, Nat.le_of_ble_eq_true rfl⟩) (va_recv hK hP (ci := 6) (q0 := 34) rfl rfl) (fun _ h9 => h9) (fun a9 h9 => hA a9 (Nat.le_trans hS.1 h9)) hG hS hP hK hD rfl hl.1 rfl (Nat.le_of_ble_eq_true rfl) dX9_feed_28 ⟨Nat.le_of_ble_eq_true rfl, Nat.le_of_ble_eq_true rfl⟩ (fun r_2 u_2 H locs hw hz1 hk1 hP hS => ?_)
  have hP : va_P D vwCl [] H := hP
  obtain rfl : r_2 = 1 := hw
  exact vx_ret (fz_iret hx hb hr rfl hlocks hS dX9_feed_31 () rfl hP (Nat.le_of_ble_eq_true rfl) (Nat.le_of_ble_eq_true rfl))

set_option maxHeartbeats 4000000 in
set_option maxRecDepth 100000 in
theorem c_read (l : Launch) (hl0 : l.stackTraces = false) (A : Nat → Prop) (D : va_G) (k : Nat → ClassId) (q : Nat → Nat) (f : Nat → Nat → Int32) (pa : Nat → Option Nat) (v : Nat → Int32) (p0 : Int32) (g_v_1 : v 1 = 1) (g_f_4_0 : f 4 0 = 0) (g_v_12 : v 12 = 0)  :
    vx_Met l yX9_read (fz_ws yX9_read cX9_read 3 (some .int)) { frames := 36, cells := 1, slots := 6, locals := 480 } (va_Pc [.ref (q 31), .int p0] (fz_PC A D (fz_tys k) (fz_WC k q f pa v))) (fz_QI D A (fun (_ : Unit) => ([] : va_W)) (fun (r : Int32) (_ : Unit) => r = (-100) ∧ p0 = 0)) (fz_XC (fun E => (E = "java/lang/IndexOutOfBoundsException" ∧ ¬ (p0 = 0))) A) 1 6 A := by
  refine fz_ofX (by decide +kernel) (Nat.le_of_ble_eq_true rfl) ?_
  intro p e s m below meth c hx hb hr hml hown hlocks hts ht hA hP hK hD hG hS ls hl
  have hown : s.vm.findClass RX9 = some m.cls := hown
  have S0 : CallFix p m c cX9_read 3 s [.ref (q 31), .int p0].toArray (fz_ws yX9_read cX9_read 3 (some .int)) RX9 := ⟨hx, hb, hml, hown, hts⟩
  have hl : lv_has ls 3 [(0, .ref (q 31)), (1, .int p0)] := hl
  refine lv_aload_n hx hb dX9_read_0 rfl (lv_at hl 0 rfl) ?_
  refine lv_iload_n hx hb dX9_read_1 rfl (lv_at hl 1 rfl) ?_
  refine fz_xVv (As := [.int p0]) (rest := []) S0 (c_reqNode l hl0 A D k q f pa v p0 g_v_1 g_f_4_0) (fz_cwV (C := RX9) 1 hts fm_100 fm_101 fm_102 fm_103 fm_6 rfl rfl ⟨by decide, by decide, by decide +kernel⟩ ⟨Nat.le_of_ble_eq_true rfl, Nat.le_of_ble_eq_true rfl⟩) (va_recv hK hP (ci := 13) (q0 := 31) rfl rfl) (fun _ h9 => h9) (fun a9 h9 => hA a9 (Nat.le_trans hS.1 h9)) hG hS hP hK hD rfl hl.1 rfl (Nat.le_of_ble_eq_true rfl) dX9_read_2 ⟨Nat.le_of_ble_eq_true rfl, Nat.le_of_ble_eq_true rfl⟩ ht hlocks (fun E hE => by obtain ⟨rfl, h9⟩ := hE; exact ⟨rfl, (fq_28 p0 h9)⟩) ⟨Nat.le_of_ble_eq_true rfl, Nat.le_of_ble_eq_true rfl⟩ (fun u_1 H locs hw hz1 hk1 hP hS => ?_)
  have hP : va_P D vwCl (fz_WC k q f pa v) H := hP
  have hq_1 : p0 = 0 := hw
  obtain rfl : p0 = 0 := (fq_27 p0 hq_1)
  refine lv_aload_n hx hb dX9_read_5 rfl (lv_at hl 0 rfl) ?_
  refine va_get (D := D) (ci := 13) (v := .ref (q 34)) (C := RX9) (T := TX9) (N := 8) hx hb hts (fun w9 h9 => fz_m (fin_X9 w9 h9)) hown hK hP 31 rfl rfl 6 (by decide) (hts _ (fz_m fm_267)) (fun _ h9 => h9) rfl dX9_read_6 ?_
  refine fz_cVi (As := []) (rest := []) S0 (c_parse l A D k q f pa v g_v_12) (fz_cwV (C := RX2) 0 hts fm_273 fm_274 fm_275 fm_276 fm_220 rfl rfl ⟨by decide, by decide, by decide +kernel⟩ ⟨Nat.le_of_ble_eq_true rfl, Nat.le_of_ble_eq_true rfl⟩) (va_recv hK hP (ci := 6) (q0 := 34) rfl rfl) (fun _ h9 => h9) (fun a9 h9 => hA a9 (Nat.le_trans hS.1 h9)) hG hS hP hK hD rfl hl.1 rfl (Nat.le_of_ble_eq_true rfl) dX9_read_9 ⟨Nat.le_of_ble_eq_true rfl, Nat.le_of_ble_eq_true rfl⟩ (fun r_2 u_2 H locs hw hz1 hk1 hP hS => ?_)
  have hP : va_P D vwCl (fz_WC k q f pa (va_up (va_up v 13 0) 14 0)) H := hP
  have hD : va_D A (fz_WC k q f pa (va_up (va_up v 13 0) 14 0)) := fz_Dsame hD rfl
  obtain rfl : r_2 = 0 := hw
  refine lv_istore_n (lv' := [(2, .int 0), (0, .ref (q 31)), (1, .int 0)]) hx hb dX9_read_12 rfl hl (by decide) rfl (fun ls hl => ?_)
  refine lv_aload_n hx hb dX9_read_13 rfl (lv_at hl 1 rfl) ?_
  refine va_get (D := D) (ci := 13) (v := .ref (q 34)) (C := RX9) (T := TX9) (N := 8) hx hb hts (fun w9 h9 => fz_m (fin_X9 w9 h9)) hown hK hP 31 rfl rfl 6 (by decide) (hts _ (fz_m fm_267)) (fun _ h9 => h9) rfl dX9_read_14 ?_
  refine lv_iconst (v := 0) hx hb dX9_read_17 (by decide) ?_
  refine va_put (D := D) (ci := 6) (v := .int 0) (ty := .int) (C := RX2) (T := TX2) (N := 9) hx hb hts (fun w9 h9 => fz_m (fin_X2 w9 h9)) tyX2 tyX2_ok nmX2 hown hK hP hD hS 34 rfl rfl 0 (by decide) (hts _ (fz_m fm_268)) (fun _ h9 => h9) rfl (by decide +kernel) rfl rfl (Nat.le_of_ble_eq_true rfl) dX9_read_18 (fun H locs hP hD hS => ?_)
  have hP : va_P D vwCl (fz_WC k q f pa (va_up (va_up (va_up v 13 0) 14 0) 12 0)) H := hP
  have hD : va_D A (fz_WC k q f pa (va_up (va_up (va_up v 13 0) 14 0) 12 0)) := hD
  refine lv_iload_n hx hb dX9_read_21 rfl (lv_at hl 0 rfl) ?_
  refine lv_iconst (v := (-1)) hx hb dX9_read_22 (by decide) ?_
  refine lv_icmp_eq (tgt := 31) hx hb dX9_read_23 (by decide) (fun c_3 => absurd c_3 (by decide)) (fun c_3 => ?_)
  refine lv_bipush (v := (-100)) hx hb dX9_read_26 (by decide) ?_
  refine lv_iload_n hx hb dX9_read_28 rfl (lv_at hl 0 rfl) ?_
  refine lv_isub hx hb dX9_read_29 ?_
  refine fz_I (y := (-100)) (by decide) ?_
  have hP : va_P D vwCl [] H := fz_nil
  exact vx_ret (fz_iret hx hb hr rfl hlocks hS dX9_read_30 () ⟨rfl, (fq_3 )⟩ hP (Nat.le_of_ble_eq_true rfl) (Nat.le_of_ble_eq_true rfl))

set_option maxHeartbeats 4000000 in
set_option maxRecDepth 100000 in
theorem c_write (l : Launch) (hl0 : l.stackTraces = false) (A : Nat → Prop) (D : va_G) (k : Nat → ClassId) (q : Nat → Nat) (f : Nat → Nat → Int32) (pa : Nat → Option Nat) (v : Nat → Int32) (p0 : Int32) (g_v_1 : v 1 = 1) (g_f_4_0 : f 4 0 = 0) (g_v_15 : v 15 = 0) (g_v_17 : v 17 = 0) (g_v_2 : v 2 = 1) (g_f_6_0 : f 6 0 = 0) (g_f_5_0 : f 5 0 = (-1)) (g_f_2_0 : f 2 0 = 0) (g_f_7_0 : f 7 0 = 0) (g_f_8_0 : f 8 0 = (-1))  :
    vx_Met l yX9_write (fz_ws yX9_write cX9_write 8 (some .int)) { frames := 48, cells := 1, slots := 6, locals := 640 } (va_Pc [.ref (q 31), .int p0] (fz_PC A D (fz_tys k) (fz_WC k q f pa v))) (fz_QI D A (fun (_ : Unit) => ([] : va_W)) (fun (r : Int32) (_ : Unit) => r = 1 ∧ p0 = 0)) (fz_XC (fun E => (E = "java/lang/IndexOutOfBoundsException" ∧ ¬ (p0 = 0))) A) 1 6 A := by
  refine fz_ofX (by decide +kernel) (Nat.le_of_ble_eq_true rfl) ?_
  intro p e s m below meth c hx hb hr hml hown hlocks hts ht hA hP hK hD hG hS ls hl
  have hown : s.vm.findClass RX9 = some m.cls := hown
  have S0 : CallFix p m c cX9_write 8 s [.ref (q 31), .int p0].toArray (fz_ws yX9_write cX9_write 8 (some .int)) RX9 := ⟨hx, hb, hml, hown, hts⟩
  have hl : lv_has ls 8 [(0, .ref (q 31)), (1, .int p0)] := hl
  refine lv_aload_n hx hb dX9_write_0 rfl (lv_at hl 0 rfl) ?_
  refine lv_iload_n hx hb dX9_write_1 rfl (lv_at hl 1 rfl) ?_
  refine fz_xVv (As := [.int p0]) (rest := []) S0 (c_reqNode l hl0 A D k q f pa v p0 g_v_1 g_f_4_0) (fz_cwV (C := RX9) 1 hts fm_100 fm_101 fm_102 fm_103 fm_6 rfl rfl ⟨by decide, by decide, by decide +kernel⟩ ⟨Nat.le_of_ble_eq_true rfl, Nat.le_of_ble_eq_true rfl⟩) (va_recv hK hP (ci := 13) (q0 := 31) rfl rfl) (fun _ h9 => h9) (fun a9 h9 => hA a9 (Nat.le_trans hS.1 h9)) hG hS hP hK hD rfl hl.1 rfl (Nat.le_of_ble_eq_true rfl) dX9_write_2 ⟨Nat.le_of_ble_eq_true rfl, Nat.le_of_ble_eq_true rfl⟩ ht hlocks (fun E hE => by obtain ⟨rfl, h9⟩ := hE; exact ⟨rfl, (fq_28 p0 h9)⟩) ⟨Nat.le_of_ble_eq_true rfl, Nat.le_of_ble_eq_true rfl⟩ (fun u_1 H locs hw hz1 hk1 hP hS => ?_)
  have hP : va_P D vwCl (fz_WC k q f pa v) H := hP
  have hq_1 : p0 = 0 := hw
  obtain rfl : p0 = 0 := (fq_27 p0 hq_1)
  refine lv_aload_n hx hb dX9_write_5 rfl (lv_at hl 0 rfl) ?_
  refine va_get (D := D) (ci := 13) (v := .ref (q 35)) (C := RX9) (T := TX9) (N := 8) hx hb hts (fun w9 h9 => fz_m (fin_X9 w9 h9)) hown hK hP 31 rfl rfl 7 (by decide) (hts _ (fz_m fm_202)) (fun _ h9 => h9) rfl dX9_write_6 ?_
  refine lv_iconst (v := 0) hx hb dX9_write_9 (by decide) ?_
  refine fz_cVv (As := [.int 0]) (rest := []) S0 (c_setLength l A D k q f pa v g_v_15 g_v_17) (fz_cwV (C := RJ4) 1 hts fm_277 fm_278 fm_279 fm_280 fm_207 rfl rfl ⟨by decide, by decide, by decide +kernel⟩ ⟨Nat.le_of_ble_eq_true rfl, Nat.le_of_ble_eq_true rfl⟩) (va_recv hK hP (ci := 1) (q0 := 35) rfl rfl) (fun _ h9 => h9) (fun a9 h9 => hA a9 (Nat.le_trans hS.1 h9)) hG hS hP hK hD rfl hl.1 rfl (Nat.le_of_ble_eq_true rfl) dX9_write_10 ⟨Nat.le_of_ble_eq_true rfl, Nat.le_of_ble_eq_true rfl⟩ (fun u_2 H locs hw hz1 hk1 hP hS => ?_)
  have hP : va_P D vwCl (fz_WC k q f pa (va_up v 17 0)) H := hP
  have hD : va_D A (fz_WC k q f pa (va_up v 17 0)) := fz_Dsame hD rfl
  refine lv_aload_n hx hb dX9_write_13 rfl (lv_at hl 0 rfl) ?_
  refine va_get (D := D) (ci := 13) (v := .ref (q 0)) (C := RX9) (T := TX9) (N := 8) hx hb hts (fun w9 h9 => fz_m (fin_X9 w9 h9)) hown hK hP 31 rfl rfl 0 (by decide) (hts _ (fz_m fm_9)) (fun _ h9 => h9) rfl dX9_write_14 ?_
  refine va_get (D := D) (ci := 11) (v := .ref (q 1)) (C := RX7) (T := TX7) (N := 6) hx hb hts (fun w9 h9 => fz_m (fin_X7 w9 h9)) hown hK hP 0 rfl rfl 0 (by decide) (hts _ (fz_m fm_10)) (fun _ h9 => h9) rfl dX9_write_17 ?_
  refine lv_astore_n (lv' := [(2, .ref (q 1)), (0, .ref (q 31)), (1, .int 0)]) hx hb dX9_write_20 rfl hl (by decide) rfl (fun ls hl => ?_)
  refine lv_aload_n hx hb dX9_write_21 rfl (lv_at hl 0 rfl) ?_
  refine lv_iload_n hx hb dX9_write_22 rfl (lv_at hl 2 rfl) ?_
  refine fz_cVi (As := [.int 0]) (rest := []) S0 (c_place l A D k q f pa (va_up v 17 0) 0 g_v_2) (fz_cwV (C := RX8) 1 hts fm_35 fm_281 fm_37 fm_38 fm_15 rfl rfl ⟨by decide, by decide, by decide +kernel⟩ ⟨Nat.le_of_ble_eq_true rfl, Nat.le_of_ble_eq_true rfl⟩) (va_recv hK hP (ci := 12) (q0 := 1) rfl rfl) (fun _ h9 => h9) (fun a9 h9 => hA a9 (Nat.le_trans hS.1 h9)) hG hS hP hK hD rfl hl.1 rfl (Nat.le_of_ble_eq_true rfl) dX9_write_23 ⟨Nat.le_of_ble_eq_true rfl, Nat.le_of_ble_eq_true rfl⟩ (fun r_3 u_3 H locs hw hz1 hk1 hP hS => ?_)
  have hP : va_P D vwCl (fz_WC k q f pa (va_up v 17 0)) H := hP
  obtain rfl : r_3 = 0 := hw
  refine lv_istore_n (lv' := [(3, .int 0), (2, .ref (q 1)), (0, .ref (q 31)), (1, .int 0)]) hx hb dX9_write_26 rfl hl (by decide) rfl (fun ls hl => ?_)
  refine lv_iload_n hx hb dX9_write_27 rfl (lv_at hl 0 rfl) ?_
  refine lv_aload_n hx hb dX9_write_28 rfl (lv_at hl 1 rfl) ?_
  refine va_get (D := D) (ci := 12) (v := .ref (q 6)) (C := RX8) (T := TX8) (N := 10) hx hb hts (fun w9 h9 => fz_m (fin_X8 w9 h9)) hown hK hP 1 rfl rfl 6 (by decide) (hts _ (fz_m fm_116)) (fun _ h9 => h9) rfl dX9_write_29 ?_
  refine lv_iload_n hx hb dX9_write_32 rfl (lv_at hl 3 rfl) ?_
  refine va_iald hx hb hK hP 6 0 rfl rfl (fz_vin (by decide)) dX9_write_33 ?_
  refine fz_I (y := 0) g_f_6_0 ?_
  refine lv_iadd hx hb dX9_write_34 ?_
  refine fz_I (y := 0) (by decide) ?_
  refine lv_istore (lv' := [(4, .int 0), (3, .int 0), (2, .ref (q 1)), (0, .ref (q 31)), (1, .int 0)]) hx hb dX9_write_35 hl (by decide) rfl (fun ls hl => ?_)
  refine lv_aload_n hx hb dX9_write_37 rfl (lv_at hl 2 rfl) ?_
  refine lv_iload_n hx hb dX9_write_38 rfl (lv_at hl 4 rfl) ?_
  refine fz_cVi (As := [.int 0]) (rest := []) S0 (c_depth l A D k q f pa (va_up v 17 0) g_f_5_0) (fz_cwV (C := RX8) 1 hts fm_282 fm_283 fm_284 fm_285 fm_15 rfl rfl ⟨by decide, by decide, by decide +kernel⟩ ⟨Nat.le_of_ble_eq_true rfl, Nat.le_of_ble_eq_true rfl⟩) (va_recv hK hP (ci := 12) (q0 := 1) rfl rfl) (fun _ h9 => h9) (fun a9 h9 => hA a9 (Nat.le_trans hS.1 h9)) hG hS hP hK hD rfl hl.1 rfl (Nat.le_of_ble_eq_true rfl) dX9_write_39 ⟨Nat.le_of_ble_eq_true rfl, Nat.le_of_ble_eq_true rfl⟩ (fun r_4 u_4 H locs hw hz1 hk1 hP hS => ?_)
  have hP : va_P D vwCl (fz_WC k q f pa (va_up v 17 0)) H := hP
  obtain rfl : r_4 = 0 := hw
  refine lv_istore (lv' := [(5, .int 0), (4, .int 0), (3, .int 0), (2, .ref (q 1)), (0, .ref (q 31)), (1, .int 0)]) hx hb dX9_write_42 hl (by decide) rfl (fun ls hl => ?_)
  refine lv_iload_n hx hb dX9_write_44 rfl (lv_at hl 2 rfl) ?_
  refine lv_istore (lv' := [(6, .int 0), (5, .int 0), (4, .int 0), (3, .int 0), (2, .ref (q 1)), (0, .ref (q 31)), (1, .int 0)]) hx hb dX9_write_45 hl (by decide) rfl (fun ls hl => ?_)
  refine lv_iload hx hb dX9_write_47 (lv_at hl 0 rfl) ?_
  refine lv_iload hx hb dX9_write_49 (lv_at hl 2 rfl) ?_
  refine lv_icmp_gt (tgt := 127) hx hb dX9_write_51 (by decide) (fun c_5 => absurd c_5 (by decide)) (fun c_5 => ?_)
  refine lv_iload hx hb dX9_write_54 (lv_at hl 0 rfl) ?_
  refine lv_iload hx hb dX9_write_56 (lv_at hl 2 rfl) ?_
  refine lv_icmp_ge (tgt := 77) hx hb dX9_write_58 (by decide) (fun c_6 => ?_) (fun c_6 => absurd (by decide) c_6)
  refine lv_iload hx hb dX9_write_77 (lv_at hl 1 rfl) ?_
  refine lv_istore (lv' := [(7, .int 0), (6, .int 0), (5, .int 0), (4, .int 0), (3, .int 0), (2, .ref (q 1)), (0, .ref (q 31)), (1, .int 0)]) hx hb dX9_write_79 hl (by decide) rfl (fun ls hl => ?_)
  refine lv_aload_n hx hb dX9_write_81 rfl (lv_at hl 6 rfl) ?_
  refine lv_aload_n hx hb dX9_write_82 rfl (lv_at hl 5 rfl) ?_
  refine va_get (D := D) (ci := 12) (v := .ref (q 2)) (C := RX8) (T := TX8) (N := 10) hx hb hts (fun w9 h9 => fz_m (fin_X8 w9 h9)) hown hK hP 1 rfl rfl 2 (by decide) (hts _ (fz_m fm_286)) (fun _ h9 => h9) rfl dX9_write_83 ?_
  refine lv_iload hx hb dX9_write_86 (lv_at hl 1 rfl) ?_
  refine va_iald hx hb hK hP 2 0 rfl rfl (fz_vin (by decide)) dX9_write_88 ?_
  refine fz_I (y := 0) g_f_2_0 ?_
  refine fz_cVv (As := [.int 0]) (rest := []) S0 (c_appendNode l A D k q f pa (va_up v 17 0) g_f_4_0 rfl g_v_15 g_f_7_0 g_f_8_0) (fz_cwV (C := RX9) 1 hts fm_287 fm_288 fm_289 fm_290 fm_6 rfl rfl ⟨by decide, by decide, by decide +kernel⟩ ⟨Nat.le_of_ble_eq_true rfl, Nat.le_of_ble_eq_true rfl⟩) (va_recv hK hP (ci := 13) (q0 := 31) rfl rfl) (fun _ h9 => h9) (fun a9 h9 => hA a9 (Nat.le_trans hS.1 h9)) hG hS hP hK hD rfl hl.1 rfl (Nat.le_of_ble_eq_true rfl) dX9_write_89 ⟨Nat.le_of_ble_eq_true rfl, Nat.le_of_ble_eq_true rfl⟩ (fun u_7 H locs hw hz1 hk1 hP hS => ?_)
  have hP : va_P D vwCl (fz_WC k q (va_up f 37 (upd (f 37) 0 48)) pa (va_up v 17 1)) H := hP
  have hD : va_D A (fz_WC k q (va_up f 37 (upd (f 37) 0 48)) pa (va_up v 17 1)) := fz_Dsame hD rfl
  refine lv_aload_n hx hb dX9_write_92 rfl (lv_at hl 6 rfl) ?_
  refine lv_aload_n hx hb dX9_write_93 rfl (lv_at hl 5 rfl) ?_
  refine lv_aload_n hx hb dX9_write_94 rfl (lv_at hl 5 rfl) ?_
  refine va_get (D := D) (ci := 12) (v := .ref (q 2)) (C := RX8) (T := TX8) (N := 10) hx hb hts (fun w9 h9 => fz_m (fin_X8 w9 h9)) hown hK hP 1 rfl rfl 2 (by decide) (hts _ (fz_m fm_286)) (fun _ h9 => h9) rfl dX9_write_95 ?_
  refine lv_iload hx hb dX9_write_98 (lv_at hl 1 rfl) ?_
  refine va_iald hx hb hK hP 2 0 rfl rfl (fz_vin (by decide)) dX9_write_100 ?_
  refine fz_I (y := 0) g_f_2_0 ?_
  refine fz_cVi (As := [.int 0]) (rest := [.ref (q 31)]) S0 (c_depth l A D k q (va_up f 37 (upd (f 37) 0 48)) pa (va_up v 17 1) g_f_5_0) (fz_cwV (C := RX8) 1 hts fm_282 fm_283 fm_284 fm_285 fm_15 rfl rfl ⟨by decide, by decide, by decide +kernel⟩ ⟨Nat.le_of_ble_eq_true rfl, Nat.le_of_ble_eq_true rfl⟩) (va_recv hK hP (ci := 12) (q0 := 1) rfl rfl) (fun _ h9 => h9) (fun a9 h9 => hA a9 (Nat.le_trans hS.1 h9)) hG hS hP hK hD rfl hl.1 rfl (Nat.le_of_ble_eq_true rfl) dX9_write_101 ⟨Nat.le_of_ble_eq_true rfl, Nat.le_of_ble_eq_true rfl⟩ (fun r_8 u_8 H locs hw hz1 hk1 hP hS => ?_)
  have hP : va_P D vwCl (fz_WC k q (va_up f 37 (upd (f 37) 0 48)) pa (va_up v 17 1)) H := hP
  obtain rfl : r_8 = 0 := hw
  refine lv_iload hx hb dX9_write_104 (lv_at hl 0 rfl) ?_
  refine lv_iload hx hb dX9_write_106 (lv_at hl 1 rfl) ?_
  refine lv_iload hx hb dX9_write_108 (lv_at hl 3 rfl) ?_
  refine lv_icmp_ge (tgt := 117) hx hb dX9_write_110 (by decide) (fun c_9 => ?_) (fun c_9 => absurd (by decide) c_9)
  refine lv_iconst (v := 0) hx hb dX9_write_117 (by decide) ?_
  refine fz_cVv (As := [.int 0, .int 0, .int 0]) (rest := []) S0 (c_appendLink l A D k q (va_up f 37 (upd (f 37) 0 48)) pa (va_up v 17 1) ) (fz_cwV (C := RX9) 3 hts fm_291 fm_292 fm_293 fm_294 fm_6 rfl rfl ⟨by decide, by decide, by decide +kernel⟩ ⟨Nat.le_of_ble_eq_true rfl, Nat.le_of_ble_eq_true rfl⟩) (va_recv hK hP (ci := 13) (q0 := 31) rfl rfl) (fun _ h9 => h9) (fun a9 h9 => hA a9 (Nat.le_trans hS.1 h9)) hG hS hP hK hD rfl hl.1 rfl (Nat.le_of_ble_eq_true rfl) dX9_write_118 ⟨Nat.le_of_ble_eq_true rfl, Nat.le_of_ble_eq_true rfl⟩ (fun u_10 H locs hw hz1 hk1 hP hS => ?_)
  have hP : va_P D vwCl (fz_WC k q (va_up f 37 (upd (f 37) 0 48)) pa (va_up v 17 1)) H := hP
  refine lv_iinc (v := 1) (lv' := [(6, .int 1), (7, .int 0), (5, .int 0), (4, .int 0), (3, .int 0), (2, .ref (q 1)), (0, .ref (q 31)), (1, .int 0)]) hx hb dX9_write_121 hl (k := 1) rfl (by decide) (by decide) rfl (fun ls hl => ?_)
  refine lv_goto (tgt := 47) hx hb dX9_write_124 (by decide) ?_
  refine lv_iload hx hb dX9_write_47 (lv_at hl 0 rfl) ?_
  refine lv_iload hx hb dX9_write_49 (lv_at hl 3 rfl) ?_
  refine lv_icmp_gt (tgt := 127) hx hb dX9_write_51 (by decide) (fun c_11 => ?_) (fun c_11 => absurd (by decide) c_11)
  refine lv_aload_n hx hb dX9_write_127 rfl (lv_at hl 6 rfl) ?_
  refine va_get (D := D) (ci := 13) (v := .ref (q 35)) (C := RX9) (T := TX9) (N := 8) hx hb hts (fun w9 h9 => fz_m (fin_X9 w9 h9)) hown hK hP 31 rfl rfl 7 (by decide) (hts _ (fz_m fm_202)) (fun _ h9 => h9) rfl dX9_write_128 ?_
  refine fz_cVi (As := []) (rest := []) S0 (c_len1 l A D k q (va_up f 37 (upd (f 37) 0 48)) pa (va_up v 17 1) rfl) (fz_cwV (C := RJ4) 0 hts fm_203 fm_204 fm_205 fm_206 fm_207 rfl rfl ⟨by decide, by decide, by decide +kernel⟩ ⟨Nat.le_of_ble_eq_true rfl, Nat.le_of_ble_eq_true rfl⟩) (va_recv hK hP (ci := 1) (q0 := 35) rfl rfl) (fun _ h9 => h9) (fun a9 h9 => hA a9 (Nat.le_trans hS.1 h9)) hG hS hP hK hD rfl hl.1 rfl (Nat.le_of_ble_eq_true rfl) dX9_write_131 ⟨Nat.le_of_ble_eq_true rfl, Nat.le_of_ble_eq_true rfl⟩ (fun r_12 u_12 H locs hw hz1 hk1 hP hS => ?_)
  have hP : va_P D vwCl (fz_WC k q (va_up f 37 (upd (f 37) 0 48)) pa (va_up v 17 1)) H := hP
  obtain rfl : r_12 = 1 := hw
  have hP : va_P D vwCl [] H := fz_nil
  exact vx_ret (fz_iret hx hb hr rfl hlocks hS dX9_write_134 () ⟨rfl, (fq_3 )⟩ hP (Nat.le_of_ble_eq_true rfl) (Nat.le_of_ble_eq_true rfl))
end
