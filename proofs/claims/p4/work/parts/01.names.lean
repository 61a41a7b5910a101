/-- a private method of a class that the tables say can be made, by its rows of tables_1 -/
def lw_okq (q : MethodName × Nat) : Prop := (q.1.cls ≠ "java/lang/invoke/MethodHandle" ∧ q.1.cls ≠ "java/lang/invoke/VarHandle") ∧ Cond.instantiable q.1.cls q.2 ∈ tables_1 ∧ Cond.privateMethod q.1 ∈ tables_1 ∧ Cond.instanceMethod q.1 ∈ tables_1
theorem lw_p51 : lw_okq (⟨"CradleDuelModel", "endDuel", "()V"⟩, 70) := ⟨⟨by decide +kernel, by decide +kernel⟩, List.mem_of_getElem? (i := 1356) (by decide +kernel), List.mem_of_getElem? (i := 1379) (by decide +kernel), List.mem_of_getElem? (i := 1380) (by decide +kernel)⟩
theorem lw_p0 : lw_okq (⟨"CradleDuel", "tell", "(I)I"⟩, 17) := ⟨⟨by decide +kernel, by decide +kernel⟩, List.mem_of_getElem? (i := 24) (by decide +kernel), List.mem_of_getElem? (i := 595) (by decide +kernel), List.mem_of_getElem? (i := 596) (by decide +kernel)⟩
theorem lw_p1 : lw_okq (⟨"CradleDuel", "refuse", "(I)I"⟩, 17) := ⟨⟨by decide +kernel, by decide +kernel⟩, List.mem_of_getElem? (i := 24) (by decide +kernel), List.mem_of_getElem? (i := 599) (by decide +kernel), List.mem_of_getElem? (i := 600) (by decide +kernel)⟩
theorem lw_p2 : lw_okq (⟨"CradleDuel", "accept", "(I)I"⟩, 17) := ⟨⟨by decide +kernel, by decide +kernel⟩, List.mem_of_getElem? (i := 24) (by decide +kernel), List.mem_of_getElem? (i := 604) (by decide +kernel), List.mem_of_getElem? (i := 605) (by decide +kernel)⟩
theorem lw_p52 : lw_okq (⟨"CradleDuelModel", "tell", "(I)I"⟩, 70) := ⟨⟨by decide +kernel, by decide +kernel⟩, List.mem_of_getElem? (i := 1356) (by decide +kernel), List.mem_of_getElem? (i := 1599) (by decide +kernel), List.mem_of_getElem? (i := 1600) (by decide +kernel)⟩
theorem lw_p54 : lw_okq (⟨"CradleDuelModel", "isSinger", "(I)Z"⟩, 70) := ⟨⟨by decide +kernel, by decide +kernel⟩, List.mem_of_getElem? (i := 1356) (by decide +kernel), List.mem_of_getElem? (i := 1628) (by decide +kernel), List.mem_of_getElem? (i := 1629) (by decide +kernel)⟩
theorem lw_p55 : lw_okq (⟨"CradleDuelModel", "ofSinger", "(II)I"⟩, 70) := ⟨⟨by decide +kernel, by decide +kernel⟩, List.mem_of_getElem? (i := 1356) (by decide +kernel), List.mem_of_getElem? (i := 1633) (by decide +kernel), List.mem_of_getElem? (i := 1634) (by decide +kernel)⟩
theorem lw_p56 : lw_okq (⟨"CradleDuelModel", "verse1", "(II)I"⟩, 70) := ⟨⟨by decide +kernel, by decide +kernel⟩, List.mem_of_getElem? (i := 1356) (by decide +kernel), List.mem_of_getElem? (i := 1641) (by decide +kernel), List.mem_of_getElem? (i := 1642) (by decide +kernel)⟩
theorem lw_p57 : lw_okq (⟨"CradleDuelModel", "isVerse", "(I)Z"⟩, 70) := ⟨⟨by decide +kernel, by decide +kernel⟩, List.mem_of_getElem? (i := 1356) (by decide +kernel), List.mem_of_getElem? (i := 1650) (by decide +kernel), List.mem_of_getElem? (i := 1651) (by decide +kernel)⟩
theorem lw_p58 : lw_okq (⟨"CradleDuelModel", "change", "(II)I"⟩, 70) := ⟨⟨by decide +kernel, by decide +kernel⟩, List.mem_of_getElem? (i := 1356) (by decide +kernel), List.mem_of_getElem? (i := 1667) (by decide +kernel), List.mem_of_getElem? (i := 1668) (by decide +kernel)⟩
theorem lw_p3 : lw_okq (⟨"CradleDuel", "pour", "(I)V"⟩, 17) := ⟨⟨by decide +kernel, by decide +kernel⟩, List.mem_of_getElem? (i := 24) (by decide +kernel), List.mem_of_getElem? (i := 668) (by decide +kernel), List.mem_of_getElem? (i := 669) (by decide +kernel)⟩
theorem lw_p59 : lw_okq (⟨"CradleDuelModel", "four", "(I)V"⟩, 70) := ⟨⟨by decide +kernel, by decide +kernel⟩, List.mem_of_getElem? (i := 1356) (by decide +kernel), List.mem_of_getElem? (i := 1687) (by decide +kernel), List.mem_of_getElem? (i := 1688) (by decide +kernel)⟩
theorem lw_p4 : lw_okq (⟨"CradleDuel$Reader", "step", "()V"⟩, 11) := ⟨⟨by decide +kernel, by decide +kernel⟩, List.mem_of_getElem? (i := 316) (by decide +kernel), List.mem_of_getElem? (i := 699) (by decide +kernel), List.mem_of_getElem? (i := 700) (by decide +kernel)⟩
theorem lw_p5 : lw_okq (⟨"CradleDuel$Reader", "isGood", "()Z"⟩, 11) := ⟨⟨by decide +kernel, by decide +kernel⟩, List.mem_of_getElem? (i := 316) (by decide +kernel), List.mem_of_getElem? (i := 706) (by decide +kernel), List.mem_of_getElem? (i := 707) (by decide +kernel)⟩
theorem lw_p6 : lw_okq (⟨"CradleDuel$Reader", "fail", "()V"⟩, 11) := ⟨⟨by decide +kernel, by decide +kernel⟩, List.mem_of_getElem? (i := 316) (by decide +kernel), List.mem_of_getElem? (i := 710) (by decide +kernel), List.mem_of_getElem? (i := 711) (by decide +kernel)⟩
theorem lw_p7 : lw_okq (⟨"CradleDuel$Reader", "readClause", "(I)V"⟩, 11) := ⟨⟨by decide +kernel, by decide +kernel⟩, List.mem_of_getElem? (i := 316) (by decide +kernel), List.mem_of_getElem? (i := 714) (by decide +kernel), List.mem_of_getElem? (i := 715) (by decide +kernel)⟩
theorem lw_p8 : lw_okq (⟨"CradleDuel$Reader", "wordAmong", "(Ljava/lang/String;)I"⟩, 11) := ⟨⟨by decide +kernel, by decide +kernel⟩, List.mem_of_getElem? (i := 316) (by decide +kernel), List.mem_of_getElem? (i := 720) (by decide +kernel), List.mem_of_getElem? (i := 721) (by decide +kernel)⟩
theorem lw_p9 : lw_okq (⟨"CradleDuel$Reader", "isToken", "(Ljava/lang/String;II)Z"⟩, 11) := ⟨⟨by decide +kernel, by decide +kernel⟩, List.mem_of_getElem? (i := 316) (by decide +kernel), List.mem_of_getElem? (i := 772) (by decide +kernel), List.mem_of_getElem? (i := 773) (by decide +kernel)⟩
theorem lw_p10 : lw_okq (⟨"CradleDuel$Reader", "readWholeSum", "(II)V"⟩, 11) := ⟨⟨by decide +kernel, by decide +kernel⟩, List.mem_of_getElem? (i := 316) (by decide +kernel), List.mem_of_getElem? (i := 780) (by decide +kernel), List.mem_of_getElem? (i := 781) (by decide +kernel)⟩
theorem lw_p11 : lw_okq (⟨"CradleDuel$Reader", "readSum", "()V"⟩, 11) := ⟨⟨by decide +kernel, by decide +kernel⟩, List.mem_of_getElem? (i := 316) (by decide +kernel), List.mem_of_getElem? (i := 784) (by decide +kernel), List.mem_of_getElem? (i := 785) (by decide +kernel)⟩
theorem lw_p12 : lw_okq (⟨"CradleDuel$Reader", "readTerm", "()V"⟩, 11) := ⟨⟨by decide +kernel, by decide +kernel⟩, List.mem_of_getElem? (i := 316) (by decide +kernel), List.mem_of_getElem? (i := 788) (by decide +kernel), List.mem_of_getElem? (i := 789) (by decide +kernel)⟩
theorem lw_p14 : lw_okq (⟨"CradleDuel$Reader", "isSign", "(I)Z"⟩, 11) := ⟨⟨by decide +kernel, by decide +kernel⟩, List.mem_of_getElem? (i := 316) (by decide +kernel), List.mem_of_getElem? (i := 796) (by decide +kernel), List.mem_of_getElem? (i := 797) (by decide +kernel)⟩
theorem lw_p15 : lw_okq (⟨"CradleDuel$Reader", "goDeeper", "()Z"⟩, 11) := ⟨⟨by decide +kernel, by decide +kernel⟩, List.mem_of_getElem? (i := 316) (by decide +kernel), List.mem_of_getElem? (i := 800) (by decide +kernel), List.mem_of_getElem? (i := 801) (by decide +kernel)⟩
theorem lw_p16 : lw_okq (⟨"CradleDuel$Reader", "take", "(I)V"⟩, 11) := ⟨⟨by decide +kernel, by decide +kernel⟩, List.mem_of_getElem? (i := 316) (by decide +kernel), List.mem_of_getElem? (i := 804) (by decide +kernel), List.mem_of_getElem? (i := 805) (by decide +kernel)⟩
theorem lw_p17 : lw_okq (⟨"CradleDuel$Reader", "noteLawWord", "(I)I"⟩, 11) := ⟨⟨by decide +kernel, by decide +kernel⟩, List.mem_of_getElem? (i := 316) (by decide +kernel), List.mem_of_getElem? (i := 814) (by decide +kernel), List.mem_of_getElem? (i := 815) (by decide +kernel)⟩
theorem lw_p18 : lw_okq (⟨"CradleDuel$Reader", "readOwner", "(I)I"⟩, 11) := ⟨⟨by decide +kernel, by decide +kernel⟩, List.mem_of_getElem? (i := 316) (by decide +kernel), List.mem_of_getElem? (i := 818) (by decide +kernel), List.mem_of_getElem? (i := 819) (by decide +kernel)⟩
theorem lw_p13 : lw_okq (⟨"CradleDuel$Reader", "readPart", "()V"⟩, 11) := ⟨⟨by decide +kernel, by decide +kernel⟩, List.mem_of_getElem? (i := 316) (by decide +kernel), List.mem_of_getElem? (i := 792) (by decide +kernel), List.mem_of_getElem? (i := 793) (by decide +kernel)⟩
theorem lw_p19 : lw_okq (⟨"CradleDuel$Reader", "takeWord", "(Ljava/lang/String;)V"⟩, 11) := ⟨⟨by decide +kernel, by decide +kernel⟩, List.mem_of_getElem? (i := 316) (by decide +kernel), List.mem_of_getElem? (i := 823) (by decide +kernel), List.mem_of_getElem? (i := 824) (by decide +kernel)⟩
theorem lw_p20 : lw_okq (⟨"CradleDuel$Reader", "isWord", "(Ljava/lang/String;)Z"⟩, 11) := ⟨⟨by decide +kernel, by decide +kernel⟩, List.mem_of_getElem? (i := 316) (by decide +kernel), List.mem_of_getElem? (i := 827) (by decide +kernel), List.mem_of_getElem? (i := 828) (by decide +kernel)⟩
theorem lw_p21 : lw_okq (⟨"CradleDuel$Reader", "readTimes", "(I)V"⟩, 11) := ⟨⟨by decide +kernel, by decide +kernel⟩, List.mem_of_getElem? (i := 316) (by decide +kernel), List.mem_of_getElem? (i := 832) (by decide +kernel), List.mem_of_getElem? (i := 833) (by decide +kernel)⟩
theorem lw_p22 : lw_okq (⟨"CradleDuel$Reader", "readTest", "()V"⟩, 11) := ⟨⟨by decide +kernel, by decide +kernel⟩, List.mem_of_getElem? (i := 316) (by decide +kernel), List.mem_of_getElem? (i := 839) (by decide +kernel), List.mem_of_getElem? (i := 840) (by decide +kernel)⟩
theorem lw_p23 : lw_okq (⟨"CradleDuel$Reader", "readBoth", "()V"⟩, 11) := ⟨⟨by decide +kernel, by decide +kernel⟩, List.mem_of_getElem? (i := 316) (by decide +kernel), List.mem_of_getElem? (i := 843) (by decide +kernel), List.mem_of_getElem? (i := 844) (by decide +kernel)⟩
theorem lw_p25 : lw_okq (⟨"CradleDuel$Reader", "landHere", "(I)V"⟩, 11) := ⟨⟨by decide +kernel, by decide +kernel⟩, List.mem_of_getElem? (i := 316) (by decide +kernel), List.mem_of_getElem? (i := 853) (by decide +kernel), List.mem_of_getElem? (i := 854) (by decide +kernel)⟩
theorem lw_p24 : lw_okq (⟨"CradleDuel$Reader", "readPlain", "()V"⟩, 11) := ⟨⟨by decide +kernel, by decide +kernel⟩, List.mem_of_getElem? (i := 316) (by decide +kernel), List.mem_of_getElem? (i := 847) (by decide +kernel), List.mem_of_getElem? (i := 848) (by decide +kernel)⟩
theorem lw_p60 : lw_okq (⟨"CradleDuelModel", "beginText", "(Z)V"⟩, 70) := ⟨⟨by decide +kernel, by decide +kernel⟩, List.mem_of_getElem? (i := 1356) (by decide +kernel), List.mem_of_getElem? (i := 1703) (by decide +kernel), List.mem_of_getElem? (i := 1704) (by decide +kernel)⟩
theorem lw_p61 : lw_okq (⟨"CradleDuelModel", "begin1", "()V"⟩, 70) := ⟨⟨by decide +kernel, by decide +kernel⟩, List.mem_of_getElem? (i := 1356) (by decide +kernel), List.mem_of_getElem? (i := 1707) (by decide +kernel), List.mem_of_getElem? (i := 1708) (by decide +kernel)⟩
theorem lw_p62 : lw_okq (⟨"CradleDuelModel", "next", "()V"⟩, 70) := ⟨⟨by decide +kernel, by decide +kernel⟩, List.mem_of_getElem? (i := 1356) (by decide +kernel), List.mem_of_getElem? (i := 1711) (by decide +kernel), List.mem_of_getElem? (i := 1712) (by decide +kernel)⟩
theorem lw_p63 : lw_okq (⟨"CradleDuelModel", "readLaw", "()V"⟩, 70) := ⟨⟨by decide +kernel, by decide +kernel⟩, List.mem_of_getElem? (i := 1356) (by decide +kernel), List.mem_of_getElem? (i := 1727) (by decide +kernel), List.mem_of_getElem? (i := 1728) (by decide +kernel)⟩
theorem lw_p64 : lw_okq (⟨"CradleDuelModel", "isWord", "(J)Z"⟩, 70) := ⟨⟨by decide +kernel, by decide +kernel⟩, List.mem_of_getElem? (i := 1356) (by decide +kernel), List.mem_of_getElem? (i := 1731) (by decide +kernel), List.mem_of_getElem? (i := 1732) (by decide +kernel)⟩
theorem lw_p65 : lw_okq (⟨"CradleDuelModel", "must", "(Z)V"⟩, 70) := ⟨⟨by decide +kernel, by decide +kernel⟩, List.mem_of_getElem? (i := 1356) (by decide +kernel), List.mem_of_getElem? (i := 1735) (by decide +kernel), List.mem_of_getElem? (i := 1736) (by decide +kernel)⟩
theorem lw_p66 : lw_okq (⟨"CradleDuelModel", "readExpression", "(Z)V"⟩, 70) := ⟨⟨by decide +kernel, by decide +kernel⟩, List.mem_of_getElem? (i := 1356) (by decide +kernel), List.mem_of_getElem? (i := 1739) (by decide +kernel), List.mem_of_getElem? (i := 1740) (by decide +kernel)⟩
theorem lw_p67 : lw_okq (⟨"CradleDuelModel", "readPlain", "()I"⟩, 70) := ⟨⟨by decide +kernel, by decide +kernel⟩, List.mem_of_getElem? (i := 1356) (by decide +kernel), List.mem_of_getElem? (i := 1743) (by decide +kernel), List.mem_of_getElem? (i := 1744) (by decide +kernel)⟩
theorem lw_p68 : lw_okq (⟨"CradleDuelModel", "push", "(II)V"⟩, 70) := ⟨⟨by decide +kernel, by decide +kernel⟩, List.mem_of_getElem? (i := 1356) (by decide +kernel), List.mem_of_getElem? (i := 1748) (by decide +kernel), List.mem_of_getElem? (i := 1749) (by decide +kernel)⟩
theorem lw_p69 : lw_okq (⟨"CradleDuelModel", "isSign", "(I)Z"⟩, 70) := ⟨⟨by decide +kernel, by decide +kernel⟩, List.mem_of_getElem? (i := 1356) (by decide +kernel), List.mem_of_getElem? (i := 1752) (by decide +kernel), List.mem_of_getElem? (i := 1753) (by decide +kernel)⟩
theorem lw_p70 : lw_okq (⟨"CradleDuelModel", "openBracket", "(I)V"⟩, 70) := ⟨⟨by decide +kernel, by decide +kernel⟩, List.mem_of_getElem? (i := 1356) (by decide +kernel), List.mem_of_getElem? (i := 1756) (by decide +kernel), List.mem_of_getElem? (i := 1757) (by decide +kernel)⟩
theorem lw_p71 : lw_okq (⟨"CradleDuelModel", "readPart", "()I"⟩, 70) := ⟨⟨by decide +kernel, by decide +kernel⟩, List.mem_of_getElem? (i := 1356) (by decide +kernel), List.mem_of_getElem? (i := 1760) (by decide +kernel), List.mem_of_getElem? (i := 1761) (by decide +kernel)⟩
theorem lw_p72 : lw_okq (⟨"CradleDuelModel", "orderPartAt", "()I"⟩, 70) := ⟨⟨by decide +kernel, by decide +kernel⟩, List.mem_of_getElem? (i := 1356) (by decide +kernel), List.mem_of_getElem? (i := 1764) (by decide +kernel), List.mem_of_getElem? (i := 1765) (by decide +kernel)⟩
theorem lw_p73 : lw_okq (⟨"CradleDuelModel", "partAt", "()I"⟩, 70) := ⟨⟨by decide +kernel, by decide +kernel⟩, List.mem_of_getElem? (i := 1356) (by decide +kernel), List.mem_of_getElem? (i := 1768) (by decide +kernel), List.mem_of_getElem? (i := 1769) (by decide +kernel)⟩
theorem lw_p74 : lw_okq (⟨"CradleDuelModel", "leaf", "(ZII)V"⟩, 70) := ⟨⟨by decide +kernel, by decide +kernel⟩, List.mem_of_getElem? (i := 1356) (by decide +kernel), List.mem_of_getElem? (i := 1773) (by decide +kernel), List.mem_of_getElem? (i := 1774) (by decide +kernel)⟩
theorem lw_p75 : lw_okq (⟨"CradleDuelModel", "emit", "(II)V"⟩, 70) := ⟨⟨by decide +kernel, by decide +kernel⟩, List.mem_of_getElem? (i := 1356) (by decide +kernel), List.mem_of_getElem? (i := 1777) (by decide +kernel), List.mem_of_getElem? (i := 1778) (by decide +kernel)⟩
theorem lw_p76 : lw_okq (⟨"CradleDuelModel", "number", "(JJ)I"⟩, 70) := ⟨⟨by decide +kernel, by decide +kernel⟩, List.mem_of_getElem? (i := 1356) (by decide +kernel), List.mem_of_getElem? (i := 1782) (by decide +kernel), List.mem_of_getElem? (i := 1783) (by decide +kernel)⟩
theorem lw_p77 : lw_okq (⟨"CradleDuelModel", "behindSum", "(Z)I"⟩, 70) := ⟨⟨by decide +kernel, by decide +kernel⟩, List.mem_of_getElem? (i := 1356) (by decide +kernel), List.mem_of_getElem? (i := 1786) (by decide +kernel), List.mem_of_getElem? (i := 1787) (by decide +kernel)⟩
theorem lw_p78 : lw_okq (⟨"CradleDuelModel", "settle", "(I)V"⟩, 70) := ⟨⟨by decide +kernel, by decide +kernel⟩, List.mem_of_getElem? (i := 1356) (by decide +kernel), List.mem_of_getElem? (i := 1793) (by decide +kernel), List.mem_of_getElem? (i := 1794) (by decide +kernel)⟩
theorem lw_p79 : lw_okq (⟨"CradleDuelModel", "inner", "()I"⟩, 70) := ⟨⟨by decide +kernel, by decide +kernel⟩, List.mem_of_getElem? (i := 1356) (by decide +kernel), List.mem_of_getElem? (i := 1797) (by decide +kernel), List.mem_of_getElem? (i := 1798) (by decide +kernel)⟩
theorem lw_p80 : lw_okq (⟨"CradleDuelModel", "isCompared", "()Z"⟩, 70) := ⟨⟨by decide +kernel, by decide +kernel⟩, List.mem_of_getElem? (i := 1356) (by decide +kernel), List.mem_of_getElem? (i := 1801) (by decide +kernel), List.mem_of_getElem? (i := 1802) (by decide +kernel)⟩
theorem lw_p81 : lw_okq (⟨"CradleDuelModel", "behindTest", "()I"⟩, 70) := ⟨⟨by decide +kernel, by decide +kernel⟩, List.mem_of_getElem? (i := 1356) (by decide +kernel), List.mem_of_getElem? (i := 1809) (by decide +kernel), List.mem_of_getElem? (i := 1810) (by decide +kernel)⟩
theorem lw_p82 : lw_okq (⟨"CradleDuelModel", "endText", "()V"⟩, 70) := ⟨⟨by decide +kernel, by decide +kernel⟩, List.mem_of_getElem? (i := 1356) (by decide +kernel), List.mem_of_getElem? (i := 1816) (by decide +kernel), List.mem_of_getElem? (i := 1817) (by decide +kernel)⟩
theorem lw_p26 : lw_okq (⟨"CradleDuel$OrderRun", "setWords", "()V"⟩, 6) := ⟨⟨by decide +kernel, by decide +kernel⟩, List.mem_of_getElem? (i := 290) (by decide +kernel), List.mem_of_getElem? (i := 889) (by decide +kernel), List.mem_of_getElem? (i := 890) (by decide +kernel)⟩
theorem lw_p27 : lw_okq (⟨"CradleDuel$OrderRun", "doDeed", "(LCradleDuel$Script;I)I"⟩, 6) := ⟨⟨by decide +kernel, by decide +kernel⟩, List.mem_of_getElem? (i := 290) (by decide +kernel), List.mem_of_getElem? (i := 908) (by decide +kernel), List.mem_of_getElem? (i := 909) (by decide +kernel)⟩
theorem lw_p28 : lw_okq (⟨"CradleDuel$OrderRun", "doBegin", "(LCradleDuel$Script;I)I"⟩, 6) := ⟨⟨by decide +kernel, by decide +kernel⟩, List.mem_of_getElem? (i := 290) (by decide +kernel), List.mem_of_getElem? (i := 912) (by decide +kernel), List.mem_of_getElem? (i := 913) (by decide +kernel)⟩
theorem lw_p29 : lw_okq (⟨"CradleDuel$Deeds", "remember", "(I)V"⟩, 11) := ⟨⟨by decide +kernel, by decide +kernel⟩, List.mem_of_getElem? (i := 246) (by decide +kernel), List.mem_of_getElem? (i := 936) (by decide +kernel), List.mem_of_getElem? (i := 937) (by decide +kernel)⟩
theorem lw_p30 : lw_okq (⟨"CradleDuel$Singing", "setWords", "(LCradleDuel$Stand;I)V"⟩, 3) := ⟨⟨by decide +kernel, by decide +kernel⟩, List.mem_of_getElem? (i := 208) (by decide +kernel), List.mem_of_getElem? (i := 961) (by decide +kernel), List.mem_of_getElem? (i := 962) (by decide +kernel)⟩
theorem lw_p31 : lw_okq (⟨"CradleDuel$Singing", "setVerse", "(IIII)V"⟩, 3) := ⟨⟨by decide +kernel, by decide +kernel⟩, List.mem_of_getElem? (i := 208) (by decide +kernel), List.mem_of_getElem? (i := 970) (by decide +kernel), List.mem_of_getElem? (i := 971) (by decide +kernel)⟩
theorem lw_p32 : lw_okq (⟨"CradleDuel$Singing", "isTold", "(I)Z"⟩, 3) := ⟨⟨by decide +kernel, by decide +kernel⟩, List.mem_of_getElem? (i := 208) (by decide +kernel), List.mem_of_getElem? (i := 974) (by decide +kernel), List.mem_of_getElem? (i := 975) (by decide +kernel)⟩
theorem lw_p33 : lw_okq (⟨"CradleDuel$Singing", "lullByWords", "()I"⟩, 3) := ⟨⟨by decide +kernel, by decide +kernel⟩, List.mem_of_getElem? (i := 208) (by decide +kernel), List.mem_of_getElem? (i := 984) (by decide +kernel), List.mem_of_getElem? (i := 985) (by decide +kernel)⟩
theorem lw_p34 : lw_okq (⟨"CradleDuel$Singing", "tireByWords", "()I"⟩, 3) := ⟨⟨by decide +kernel, by decide +kernel⟩, List.mem_of_getElem? (i := 208) (by decide +kernel), List.mem_of_getElem? (i := 995) (by decide +kernel), List.mem_of_getElem? (i := 996) (by decide +kernel)⟩
theorem lw_p128 : lw_okq (⟨"CradleDuelModel", "readOrder", "()V"⟩, 70) := ⟨⟨by decide +kernel, by decide +kernel⟩, List.mem_of_getElem? (i := 1356) (by decide +kernel), List.mem_of_getElem? (i := 2100) (by decide +kernel), List.mem_of_getElem? (i := 2101) (by decide +kernel)⟩
theorem lw_p129 : lw_okq (⟨"CradleDuelModel", "readSum", "(I)V"⟩, 70) := ⟨⟨by decide +kernel, by decide +kernel⟩, List.mem_of_getElem? (i := 1356) (by decide +kernel), List.mem_of_getElem? (i := 2108) (by decide +kernel), List.mem_of_getElem? (i := 2109) (by decide +kernel)⟩
theorem lw_p130 : lw_okq (⟨"CradleDuelModel", "readBehind", "(IJ)V"⟩, 70) := ⟨⟨by decide +kernel, by decide +kernel⟩, List.mem_of_getElem? (i := 1356) (by decide +kernel), List.mem_of_getElem? (i := 2113) (by decide +kernel), List.mem_of_getElem? (i := 2114) (by decide +kernel)⟩
theorem lw_p100 : lw_okq (⟨"CradleDuelModel", "keepAll", "(I)V"⟩, 70) := ⟨⟨by decide +kernel, by decide +kernel⟩, List.mem_of_getElem? (i := 1356) (by decide +kernel), List.mem_of_getElem? (i := 1911) (by decide +kernel), List.mem_of_getElem? (i := 1912) (by decide +kernel)⟩
theorem lw_p131 : lw_okq (⟨"CradleDuelModel", "run", "(I)I"⟩, 70) := ⟨⟨by decide +kernel, by decide +kernel⟩, List.mem_of_getElem? (i := 1356) (by decide +kernel), List.mem_of_getElem? (i := 2119) (by decide +kernel), List.mem_of_getElem? (i := 2120) (by decide +kernel)⟩
theorem lw_p88 : lw_okq (⟨"CradleDuelModel", "term", "(I)I"⟩, 70) := ⟨⟨by decide +kernel, by decide +kernel⟩, List.mem_of_getElem? (i := 1356) (by decide +kernel), List.mem_of_getElem? (i := 1849) (by decide +kernel), List.mem_of_getElem? (i := 1850) (by decide +kernel)⟩
theorem lw_p84 : lw_okq (⟨"CradleDuelModel", "inDuel", "(I)I"⟩, 70) := ⟨⟨by decide +kernel, by decide +kernel⟩, List.mem_of_getElem? (i := 1356) (by decide +kernel), List.mem_of_getElem? (i := 1832) (by decide +kernel), List.mem_of_getElem? (i := 1833) (by decide +kernel)⟩
theorem lw_p132 : lw_okq (⟨"CradleDuelModel", "sumOf", "(I)I"⟩, 70) := ⟨⟨by decide +kernel, by decide +kernel⟩, List.mem_of_getElem? (i := 1356) (by decide +kernel), List.mem_of_getElem? (i := 2123) (by decide +kernel), List.mem_of_getElem? (i := 2124) (by decide +kernel)⟩
theorem lw_p92 : lw_okq (⟨"CradleDuelModel", "reckonAll", "(II)V"⟩, 70) := ⟨⟨by decide +kernel, by decide +kernel⟩, List.mem_of_getElem? (i := 1356) (by decide +kernel), List.mem_of_getElem? (i := 1865) (by decide +kernel), List.mem_of_getElem? (i := 1866) (by decide +kernel)⟩
theorem lw_p93 : lw_okq (⟨"CradleDuelModel", "reckon", "(IJJ)J"⟩, 70) := ⟨⟨by decide +kernel, by decide +kernel⟩, List.mem_of_getElem? (i := 1356) (by decide +kernel), List.mem_of_getElem? (i := 1869) (by decide +kernel), List.mem_of_getElem? (i := 1870) (by decide +kernel)⟩
theorem lw_p97 : lw_okq (⟨"CradleDuelModel", "beginNow", "(III)I"⟩, 70) := ⟨⟨by decide +kernel, by decide +kernel⟩, List.mem_of_getElem? (i := 1356) (by decide +kernel), List.mem_of_getElem? (i := 1899) (by decide +kernel), List.mem_of_getElem? (i := 1900) (by decide +kernel)⟩
theorem lw_p83 : lw_okq (⟨"CradleDuelModel", "isDuel", "()Z"⟩, 70) := ⟨⟨by decide +kernel, by decide +kernel⟩, List.mem_of_getElem? (i := 1356) (by decide +kernel), List.mem_of_getElem? (i := 1828) (by decide +kernel), List.mem_of_getElem? (i := 1829) (by decide +kernel)⟩
theorem lw_p98 : lw_okq (⟨"CradleDuelModel", "isUp", "(I)Z"⟩, 70) := ⟨⟨by decide +kernel, by decide +kernel⟩, List.mem_of_getElem? (i := 1356) (by decide +kernel), List.mem_of_getElem? (i := 1903) (by decide +kernel), List.mem_of_getElem? (i := 1904) (by decide +kernel)⟩
theorem lw_p99 : lw_okq (⟨"CradleDuelModel", "remember", "(I)V"⟩, 70) := ⟨⟨by decide +kernel, by decide +kernel⟩, List.mem_of_getElem? (i := 1356) (by decide +kernel), List.mem_of_getElem? (i := 1907) (by decide +kernel), List.mem_of_getElem? (i := 1908) (by decide +kernel)⟩
theorem lw_p101 : lw_okq (⟨"CradleDuelModel", "layDuel", "(III)V"⟩, 70) := ⟨⟨by decide +kernel, by decide +kernel⟩, List.mem_of_getElem? (i := 1356) (by decide +kernel), List.mem_of_getElem? (i := 1915) (by decide +kernel), List.mem_of_getElem? (i := 1916) (by decide +kernel)⟩
theorem lw_p102 : lw_okq (⟨"CradleDuelModel", "singNow", "(I)I"⟩, 70) := ⟨⟨by decide +kernel, by decide +kernel⟩, List.mem_of_getElem? (i := 1356) (by decide +kernel), List.mem_of_getElem? (i := 1928) (by decide +kernel), List.mem_of_getElem? (i := 1929) (by decide +kernel)⟩
theorem lw_p85 : lw_okq (⟨"CradleDuelModel", "layVerse", "(I)V"⟩, 70) := ⟨⟨by decide +kernel, by decide +kernel⟩, List.mem_of_getElem? (i := 1356) (by decide +kernel), List.mem_of_getElem? (i := 1837) (by decide +kernel), List.mem_of_getElem? (i := 1838) (by decide +kernel)⟩
theorem lw_p86 : lw_okq (⟨"CradleDuelModel", "listener", "()I"⟩, 70) := ⟨⟨by decide +kernel, by decide +kernel⟩, List.mem_of_getElem? (i := 1356) (by decide +kernel), List.mem_of_getElem? (i := 1841) (by decide +kernel), List.mem_of_getElem? (i := 1842) (by decide +kernel)⟩
theorem lw_p87 : lw_okq (⟨"CradleDuelModel", "setSung", "(IIIIII)V"⟩, 70) := ⟨⟨by decide +kernel, by decide +kernel⟩, List.mem_of_getElem? (i := 1356) (by decide +kernel), List.mem_of_getElem? (i := 1845) (by decide +kernel), List.mem_of_getElem? (i := 1846) (by decide +kernel)⟩
theorem lw_p95 : lw_okq (⟨"CradleDuelModel", "isBarredSet", "()Z"⟩, 70) := ⟨⟨by decide +kernel, by decide +kernel⟩, List.mem_of_getElem? (i := 1356) (by decide +kernel), List.mem_of_getElem? (i := 1882) (by decide +kernel), List.mem_of_getElem? (i := 1883) (by decide +kernel)⟩
theorem lw_p90 : lw_okq (⟨"CradleDuelModel", "tells", "(IJ)J"⟩, 70) := ⟨⟨by decide +kernel, by decide +kernel⟩, List.mem_of_getElem? (i := 1356) (by decide +kernel), List.mem_of_getElem? (i := 1857) (by decide +kernel), List.mem_of_getElem? (i := 1858) (by decide +kernel)⟩
theorem lw_p91 : lw_okq (⟨"CradleDuelModel", "isSo", "(I)Z"⟩, 70) := ⟨⟨by decide +kernel, by decide +kernel⟩, List.mem_of_getElem? (i := 1356) (by decide +kernel), List.mem_of_getElem? (i := 1861) (by decide +kernel), List.mem_of_getElem? (i := 1862) (by decide +kernel)⟩
theorem lw_p103 : lw_okq (⟨"CradleDuelModel", "singIt", "(I)I"⟩, 70) := ⟨⟨by decide +kernel, by decide +kernel⟩, List.mem_of_getElem? (i := 1356) (by decide +kernel), List.mem_of_getElem? (i := 1932) (by decide +kernel), List.mem_of_getElem? (i := 1933) (by decide +kernel)⟩
theorem lw_p89 : lw_okq (⟨"CradleDuelModel", "lullsSet", "()I"⟩, 70) := ⟨⟨by decide +kernel, by decide +kernel⟩, List.mem_of_getElem? (i := 1356) (by decide +kernel), List.mem_of_getElem? (i := 1853) (by decide +kernel), List.mem_of_getElem? (i := 1854) (by decide +kernel)⟩
theorem lw_p94 : lw_okq (⟨"CradleDuelModel", "tiresSet", "()I"⟩, 70) := ⟨⟨by decide +kernel, by decide +kernel⟩, List.mem_of_getElem? (i := 1356) (by decide +kernel), List.mem_of_getElem? (i := 1878) (by decide +kernel), List.mem_of_getElem? (i := 1879) (by decide +kernel)⟩
theorem lw_p104 : lw_okq (⟨"CradleDuelModel", "setWake", "(II)V"⟩, 70) := ⟨⟨by decide +kernel, by decide +kernel⟩, List.mem_of_getElem? (i := 1356) (by decide +kernel), List.mem_of_getElem? (i := 1936) (by decide +kernel), List.mem_of_getElem? (i := 1937) (by decide +kernel)⟩
theorem lw_p105 : lw_okq (⟨"CradleDuelModel", "giveCows", "(II)V"⟩, 70) := ⟨⟨by decide +kernel, by decide +kernel⟩, List.mem_of_getElem? (i := 1356) (by decide +kernel), List.mem_of_getElem? (i := 1940) (by decide +kernel), List.mem_of_getElem? (i := 1941) (by decide +kernel)⟩
theorem lw_p106 : lw_okq (⟨"CradleDuelModel", "partNow", "()I"⟩, 70) := ⟨⟨by decide +kernel, by decide +kernel⟩, List.mem_of_getElem? (i := 1356) (by decide +kernel), List.mem_of_getElem? (i := 1948) (by decide +kernel), List.mem_of_getElem? (i := 1949) (by decide +kernel)⟩
theorem lw_p107 : lw_okq (⟨"CradleDuelModel", "dawnNow", "()I"⟩, 70) := ⟨⟨by decide +kernel, by decide +kernel⟩, List.mem_of_getElem? (i := 1356) (by decide +kernel), List.mem_of_getElem? (i := 1956) (by decide +kernel), List.mem_of_getElem? (i := 1957) (by decide +kernel)⟩
theorem lw_p108 : lw_okq (⟨"CradleDuelModel", "dawnIt", "()I"⟩, 70) := ⟨⟨by decide +kernel, by decide +kernel⟩, List.mem_of_getElem? (i := 1356) (by decide +kernel), List.mem_of_getElem? (i := 1960) (by decide +kernel), List.mem_of_getElem? (i := 1961) (by decide +kernel)⟩
theorem lw_p96 : lw_okq (⟨"CradleDuelModel", "wakesOf", "(I)I"⟩, 70) := ⟨⟨by decide +kernel, by decide +kernel⟩, List.mem_of_getElem? (i := 1356) (by decide +kernel), List.mem_of_getElem? (i := 1890) (by decide +kernel), List.mem_of_getElem? (i := 1891) (by decide +kernel)⟩
theorem lw_p133 : lw_okq (⟨"CradleDuelModel", "giveBack", "(I)V"⟩, 70) := ⟨⟨by decide +kernel, by decide +kernel⟩, List.mem_of_getElem? (i := 1356) (by decide +kernel), List.mem_of_getElem? (i := 2127) (by decide +kernel), List.mem_of_getElem? (i := 2128) (by decide +kernel)⟩
theorem lw_p53 : lw_okq (⟨"CradleDuelModel", "putBack", "(I)V"⟩, 70) := ⟨⟨by decide +kernel, by decide +kernel⟩, List.mem_of_getElem? (i := 1356) (by decide +kernel), List.mem_of_getElem? (i := 1603) (by decide +kernel), List.mem_of_getElem? (i := 1604) (by decide +kernel)⟩
theorem lw_p35 : lw_okq (⟨"CradleDuel$Paper", "worthOf", "(III)I"⟩, 11) := ⟨⟨by decide +kernel, by decide +kernel⟩, List.mem_of_getElem? (i := 413) (by decide +kernel), List.mem_of_getElem? (i := 1108) (by decide +kernel), List.mem_of_getElem? (i := 1109) (by decide +kernel)⟩
theorem lw_p109 : lw_okq (⟨"CradleDuelModel", "play", "(I)V"⟩, 70) := ⟨⟨by decide +kernel, by decide +kernel⟩, List.mem_of_getElem? (i := 1356) (by decide +kernel), List.mem_of_getElem? (i := 1968) (by decide +kernel), List.mem_of_getElem? (i := 1969) (by decide +kernel)⟩
theorem lw_p110 : lw_okq (⟨"CradleDuelModel", "openLevel", "(I)V"⟩, 70) := ⟨⟨by decide +kernel, by decide +kernel⟩, List.mem_of_getElem? (i := 1356) (by decide +kernel), List.mem_of_getElem? (i := 1972) (by decide +kernel), List.mem_of_getElem? (i := 1973) (by decide +kernel)⟩
theorem lw_p111 : lw_okq (⟨"CradleDuelModel", "weigh", "(II)V"⟩, 70) := ⟨⟨by decide +kernel, by decide +kernel⟩, List.mem_of_getElem? (i := 1356) (by decide +kernel), List.mem_of_getElem? (i := 1976) (by decide +kernel), List.mem_of_getElem? (i := 1977) (by decide +kernel)⟩
theorem lw_p112 : lw_okq (⟨"CradleDuelModel", "canSing", "(I)Z"⟩, 70) := ⟨⟨by decide +kernel, by decide +kernel⟩, List.mem_of_getElem? (i := 1356) (by decide +kernel), List.mem_of_getElem? (i := 1983) (by decide +kernel), List.mem_of_getElem? (i := 1984) (by decide +kernel)⟩
theorem lw_p36 : lw_okq (⟨"CradleDuel$Paper", "resultByVerses", "(IIII)I"⟩, 11) := ⟨⟨by decide +kernel, by decide +kernel⟩, List.mem_of_getElem? (i := 413) (by decide +kernel), List.mem_of_getElem? (i := 1130) (by decide +kernel), List.mem_of_getElem? (i := 1131) (by decide +kernel)⟩
theorem lw_p37 : lw_okq (⟨"CradleDuel$Paper", "openBout", "(II)Z"⟩, 11) := ⟨⟨by decide +kernel, by decide +kernel⟩, List.mem_of_getElem? (i := 413) (by decide +kernel), List.mem_of_getElem? (i := 1134) (by decide +kernel), List.mem_of_getElem? (i := 1135) (by decide +kernel)⟩
theorem lw_p38 : lw_okq (⟨"CradleDuel$Paper", "resultAtOnce", "(II)I"⟩, 11) := ⟨⟨by decide +kernel, by decide +kernel⟩, List.mem_of_getElem? (i := 413) (by decide +kernel), List.mem_of_getElem? (i := 1139) (by decide +kernel), List.mem_of_getElem? (i := 1140) (by decide +kernel)⟩
theorem lw_p113 : lw_okq (⟨"CradleDuelModel", "areFoes", "(II)Z"⟩, 70) := ⟨⟨by decide +kernel, by decide +kernel⟩, List.mem_of_getElem? (i := 1356) (by decide +kernel), List.mem_of_getElem? (i := 1991) (by decide +kernel), List.mem_of_getElem? (i := 1992) (by decide +kernel)⟩
theorem lw_p114 : lw_okq (⟨"CradleDuelModel", "resultOnPaper", "(IIII)I"⟩, 70) := ⟨⟨by decide +kernel, by decide +kernel⟩, List.mem_of_getElem? (i := 1356) (by decide +kernel), List.mem_of_getElem? (i := 1996) (by decide +kernel), List.mem_of_getElem? (i := 1997) (by decide +kernel)⟩
theorem lw_p115 : lw_okq (⟨"CradleDuelModel", "result", "(IIIII)I"⟩, 70) := ⟨⟨by decide +kernel, by decide +kernel⟩, List.mem_of_getElem? (i := 1356) (by decide +kernel), List.mem_of_getElem? (i := 2000) (by decide +kernel), List.mem_of_getElem? (i := 2001) (by decide +kernel)⟩
theorem lw_p116 : lw_okq (⟨"CradleDuelModel", "loudest", "()I"⟩, 70) := ⟨⟨by decide +kernel, by decide +kernel⟩, List.mem_of_getElem? (i := 1356) (by decide +kernel), List.mem_of_getElem? (i := 2004) (by decide +kernel), List.mem_of_getElem? (i := 2005) (by decide +kernel)⟩
theorem lw_p117 : lw_okq (⟨"CradleDuelModel", "drawVerse", "()I"⟩, 70) := ⟨⟨by decide +kernel, by decide +kernel⟩, List.mem_of_getElem? (i := 1356) (by decide +kernel), List.mem_of_getElem? (i := 2008) (by decide +kernel), List.mem_of_getElem? (i := 2009) (by decide +kernel)⟩
theorem lw_p118 : lw_okq (⟨"CradleDuelModel", "draw", "(I)I"⟩, 70) := ⟨⟨by decide +kernel, by decide +kernel⟩, List.mem_of_getElem? (i := 1356) (by decide +kernel), List.mem_of_getElem? (i := 2012) (by decide +kernel), List.mem_of_getElem? (i := 2013) (by decide +kernel)⟩
theorem lw_p39 : lw_okq (⟨"CradleDuel$Paper", "strongestLull", "()I"⟩, 11) := ⟨⟨by decide +kernel, by decide +kernel⟩, List.mem_of_getElem? (i := 413) (by decide +kernel), List.mem_of_getElem? (i := 1156) (by decide +kernel), List.mem_of_getElem? (i := 1157) (by decide +kernel)⟩
theorem lw_p40 : lw_okq (⟨"CradleDuel$Paper", "chooseFrom", "(IIII)V"⟩, 11) := ⟨⟨by decide +kernel, by decide +kernel⟩, List.mem_of_getElem? (i := 413) (by decide +kernel), List.mem_of_getElem? (i := 1174) (by decide +kernel), List.mem_of_getElem? (i := 1175) (by decide +kernel)⟩
theorem lw_p119 : lw_okq (⟨"CradleDuelModel", "findChampions", "()I"⟩, 70) := ⟨⟨by decide +kernel, by decide +kernel⟩, List.mem_of_getElem? (i := 1356) (by decide +kernel), List.mem_of_getElem? (i := 2027) (by decide +kernel), List.mem_of_getElem? (i := 2028) (by decide +kernel)⟩
theorem lw_p120 : lw_okq (⟨"CradleDuelModel", "weighRow", "(I)V"⟩, 70) := ⟨⟨by decide +kernel, by decide +kernel⟩, List.mem_of_getElem? (i := 1356) (by decide +kernel), List.mem_of_getElem? (i := 2031) (by decide +kernel), List.mem_of_getElem? (i := 2032) (by decide +kernel)⟩
theorem lw_p121 : lw_okq (⟨"CradleDuelModel", "isSpare", "(I)Z"⟩, 70) := ⟨⟨by decide +kernel, by decide +kernel⟩, List.mem_of_getElem? (i := 1356) (by decide +kernel), List.mem_of_getElem? (i := 2035) (by decide +kernel), List.mem_of_getElem? (i := 2036) (by decide +kernel)⟩
theorem lw_p41 : lw_okq (⟨"CradleDuel$Making", "joinMore", "(IIII)V"⟩, 5) := ⟨⟨by decide +kernel, by decide +kernel⟩, List.mem_of_getElem? (i := 490) (by decide +kernel), List.mem_of_getElem? (i := 1187) (by decide +kernel), List.mem_of_getElem? (i := 1188) (by decide +kernel)⟩
theorem lw_p122 : lw_okq (⟨"CradleDuelModel", "weighMade", "(II)Z"⟩, 70) := ⟨⟨by decide +kernel, by decide +kernel⟩, List.mem_of_getElem? (i := 1356) (by decide +kernel), List.mem_of_getElem? (i := 2044) (by decide +kernel), List.mem_of_getElem? (i := 2045) (by decide +kernel)⟩
theorem lw_p123 : lw_okq (⟨"CradleDuelModel", "ofPiece", "(II)I"⟩, 70) := ⟨⟨by decide +kernel, by decide +kernel⟩, List.mem_of_getElem? (i := 1356) (by decide +kernel), List.mem_of_getElem? (i := 2048) (by decide +kernel), List.mem_of_getElem? (i := 2049) (by decide +kernel)⟩
theorem lw_p42 : lw_okq (⟨"CradleDuel$Strangers", "hearAll", "(I)V"⟩, 3) := ⟨⟨by decide +kernel, by decide +kernel⟩, List.mem_of_getElem? (i := 512) (by decide +kernel), List.mem_of_getElem? (i := 1213) (by decide +kernel), List.mem_of_getElem? (i := 1214) (by decide +kernel)⟩
theorem lw_p43 : lw_okq (⟨"CradleDuel$Strangers", "hearOne", "(Z)V"⟩, 3) := ⟨⟨by decide +kernel, by decide +kernel⟩, List.mem_of_getElem? (i := 512) (by decide +kernel), List.mem_of_getElem? (i := 1221) (by decide +kernel), List.mem_of_getElem? (i := 1222) (by decide +kernel)⟩
theorem lw_p44 : lw_okq (⟨"CradleDuel$Strangers", "howManySleep", "()I"⟩, 3) := ⟨⟨by decide +kernel, by decide +kernel⟩, List.mem_of_getElem? (i := 512) (by decide +kernel), List.mem_of_getElem? (i := 1246) (by decide +kernel), List.mem_of_getElem? (i := 1247) (by decide +kernel)⟩
theorem lw_p124 : lw_okq (⟨"CradleDuelModel", "leftOf", "(II)I"⟩, 70) := ⟨⟨by decide +kernel, by decide +kernel⟩, List.mem_of_getElem? (i := 1356) (by decide +kernel), List.mem_of_getElem? (i := 2065) (by decide +kernel), List.mem_of_getElem? (i := 2066) (by decide +kernel)⟩
theorem lw_p125 : lw_okq (⟨"CradleDuelModel", "leftBy", "(IIIIII)I"⟩, 70) := ⟨⟨by decide +kernel, by decide +kernel⟩, List.mem_of_getElem? (i := 1356) (by decide +kernel), List.mem_of_getElem? (i := 2069) (by decide +kernel), List.mem_of_getElem? (i := 2070) (by decide +kernel)⟩
theorem lw_p126 : lw_okq (⟨"CradleDuelModel", "nextVerse", "(II)I"⟩, 70) := ⟨⟨by decide +kernel, by decide +kernel⟩, List.mem_of_getElem? (i := 1356) (by decide +kernel), List.mem_of_getElem? (i := 2073) (by decide +kernel), List.mem_of_getElem? (i := 2074) (by decide +kernel)⟩
theorem lw_p45 : lw_okq (⟨"CradleDuel$Hills", "asleepWith", "(I)I"⟩, 20) := ⟨⟨by decide +kernel, by decide +kernel⟩, List.mem_of_getElem? (i := 32) (by decide +kernel), List.mem_of_getElem? (i := 1258) (by decide +kernel), List.mem_of_getElem? (i := 1259) (by decide +kernel)⟩
theorem lw_p46 : lw_okq (⟨"CradleDuel$Hills", "oneRoundMore", "(II)I"⟩, 20) := ⟨⟨by decide +kernel, by decide +kernel⟩, List.mem_of_getElem? (i := 32) (by decide +kernel), List.mem_of_getElem? (i := 1262) (by decide +kernel), List.mem_of_getElem? (i := 1263) (by decide +kernel)⟩
theorem lw_p127 : lw_okq (⟨"CradleDuelModel", "caught", "(II)I"⟩, 70) := ⟨⟨by decide +kernel, by decide +kernel⟩, List.mem_of_getElem? (i := 1356) (by decide +kernel), List.mem_of_getElem? (i := 2082) (by decide +kernel), List.mem_of_getElem? (i := 2083) (by decide +kernel)⟩
theorem lw_p47 : lw_okq (⟨"CradleDuel$Decade", "singDay", "()I"⟩, 7) := ⟨⟨by decide +kernel, by decide +kernel⟩, List.mem_of_getElem? (i := 457) (by decide +kernel), List.mem_of_getElem? (i := 1304) (by decide +kernel), List.mem_of_getElem? (i := 1305) (by decide +kernel)⟩
theorem lw_p48 : lw_okq (⟨"CradleDuel$Decade", "draw", "(I)I"⟩, 7) := ⟨⟨by decide +kernel, by decide +kernel⟩, List.mem_of_getElem? (i := 457) (by decide +kernel), List.mem_of_getElem? (i := 1309) (by decide +kernel), List.mem_of_getElem? (i := 1310) (by decide +kernel)⟩
theorem lw_p49 : lw_okq (⟨"CradleDuel$Decade", "singerOf", "(II)I"⟩, 7) := ⟨⟨by decide +kernel, by decide +kernel⟩, List.mem_of_getElem? (i := 457) (by decide +kernel), List.mem_of_getElem? (i := 1316) (by decide +kernel), List.mem_of_getElem? (i := 1317) (by decide +kernel)⟩
theorem lw_p50 : lw_okq (⟨"CradleDuel$Decade", "listOpen", "()I"⟩, 7) := ⟨⟨by decide +kernel, by decide +kernel⟩, List.mem_of_getElem? (i := 457) (by decide +kernel), List.mem_of_getElem? (i := 1323) (by decide +kernel), List.mem_of_getElem? (i := 1324) (by decide +kernel)⟩
theorem lw_p134 : lw_okq (⟨"CradleDuelModel", "manyOf", "(I)I"⟩, 70) := ⟨⟨by decide +kernel, by decide +kernel⟩, List.mem_of_getElem? (i := 1356) (by decide +kernel), List.mem_of_getElem? (i := 2140) (by decide +kernel), List.mem_of_getElem? (i := 2141) (by decide +kernel)⟩
theorem lw_p135 : lw_okq (⟨"CradleDuelModel", "drawSinger", "(I)I"⟩, 70) := ⟨⟨by decide +kernel, by decide +kernel⟩, List.mem_of_getElem? (i := 1356) (by decide +kernel), List.mem_of_getElem? (i := 2144) (by decide +kernel), List.mem_of_getElem? (i := 2145) (by decide +kernel)⟩
def lw_privs : List (MethodName × Nat) := [(⟨"CradleDuelModel", "endDuel", "()V"⟩, 70), (⟨"CradleDuel", "tell", "(I)I"⟩, 17), (⟨"CradleDuel", "refuse", "(I)I"⟩, 17), (⟨"CradleDuel", "accept", "(I)I"⟩, 17), (⟨"CradleDuelModel", "tell", "(I)I"⟩, 70), (⟨"CradleDuelModel", "isSinger", "(I)Z"⟩, 70), (⟨"CradleDuelModel", "ofSinger", "(II)I"⟩, 70), (⟨"CradleDuelModel", "verse1", "(II)I"⟩, 70), (⟨"CradleDuelModel", "isVerse", "(I)Z"⟩, 70), (⟨"CradleDuelModel", "change", "(II)I"⟩, 70), (⟨"CradleDuel", "pour", "(I)V"⟩, 17), (⟨"CradleDuelModel", "four", "(I)V"⟩, 70), (⟨"CradleDuel$Reader", "step", "()V"⟩, 11), (⟨"CradleDuel$Reader", "isGood", "()Z"⟩, 11), (⟨"CradleDuel$Reader", "fail", "()V"⟩, 11), (⟨"CradleDuel$Reader", "readClause", "(I)V"⟩, 11), (⟨"CradleDuel$Reader", "wordAmong", "(Ljava/lang/String;)I"⟩, 11), (⟨"CradleDuel$Reader", "isToken", "(Ljava/lang/String;II)Z"⟩, 11), (⟨"CradleDuel$Reader", "readWholeSum", "(II)V"⟩, 11), (⟨"CradleDuel$Reader", "readSum", "()V"⟩, 11), (⟨"CradleDuel$Reader", "readTerm", "()V"⟩, 11), (⟨"CradleDuel$Reader", "isSign", "(I)Z"⟩, 11), (⟨"CradleDuel$Reader", "goDeeper", "()Z"⟩, 11), (⟨"CradleDuel$Reader", "take", "(I)V"⟩, 11), (⟨"CradleDuel$Reader", "noteLawWord", "(I)I"⟩, 11), (⟨"CradleDuel$Reader", "readOwner", "(I)I"⟩, 11), (⟨"CradleDuel$Reader", "readPart", "()V"⟩, 11), (⟨"CradleDuel$Reader", "takeWord", "(Ljava/lang/String;)V"⟩, 11), (⟨"CradleDuel$Reader", "isWord", "(Ljava/lang/String;)Z"⟩, 11), (⟨"CradleDuel$Reader", "readTimes", "(I)V"⟩, 11), (⟨"CradleDuel$Reader", "readTest", "()V"⟩, 11), (⟨"CradleDuel$Reader", "readBoth", "()V"⟩, 11), (⟨"CradleDuel$Reader", "landHere", "(I)V"⟩, 11), (⟨"CradleDuel$Reader", "readPlain", "()V"⟩, 11), (⟨"CradleDuelModel", "beginText", "(Z)V"⟩, 70), (⟨"CradleDuelModel", "begin1", "()V"⟩, 70), (⟨"CradleDuelModel", "next", "()V"⟩, 70), (⟨"CradleDuelModel", "readLaw", "()V"⟩, 70), (⟨"CradleDuelModel", "isWord", "(J)Z"⟩, 70), (⟨"CradleDuelModel", "must", "(Z)V"⟩, 70), (⟨"CradleDuelModel", "readExpression", "(Z)V"⟩, 70), (⟨"CradleDuelModel", "readPlain", "()I"⟩, 70), (⟨"CradleDuelModel", "push", "(II)V"⟩, 70), (⟨"CradleDuelModel", "isSign", "(I)Z"⟩, 70), (⟨"CradleDuelModel", "openBracket", "(I)V"⟩, 70), (⟨"CradleDuelModel", "readPart", "()I"⟩, 70), (⟨"CradleDuelModel", "orderPartAt", "()I"⟩, 70), (⟨"CradleDuelModel", "partAt", "()I"⟩, 70), (⟨"CradleDuelModel", "leaf", "(ZII)V"⟩, 70), (⟨"CradleDuelModel", "emit", "(II)V"⟩, 70), (⟨"CradleDuelModel", "number", "(JJ)I"⟩, 70), (⟨"CradleDuelModel", "behindSum", "(Z)I"⟩, 70), (⟨"CradleDuelModel", "settle", "(I)V"⟩, 70), (⟨"CradleDuelModel", "inner", "()I"⟩, 70), (⟨"CradleDuelModel", "isCompared", "()Z"⟩, 70), (⟨"CradleDuelModel", "behindTest", "()I"⟩, 70), (⟨"CradleDuelModel", "endText", "()V"⟩, 70), (⟨"CradleDuel$OrderRun", "setWords", "()V"⟩, 6), (⟨"CradleDuel$OrderRun", "doDeed", "(LCradleDuel$Script;I)I"⟩, 6), (⟨"CradleDuel$OrderRun", "doBegin", "(LCradleDuel$Script;I)I"⟩, 6), (⟨"CradleDuel$Deeds", "remember", "(I)V"⟩, 11), (⟨"CradleDuel$Singing", "setWords", "(LCradleDuel$Stand;I)V"⟩, 3), (⟨"CradleDuel$Singing", "setVerse", "(IIII)V"⟩, 3), (⟨"CradleDuel$Singing", "isTold", "(I)Z"⟩, 3), (⟨"CradleDuel$Singing", "lullByWords", "()I"⟩, 3), (⟨"CradleDuel$Singing", "tireByWords", "()I"⟩, 3), (⟨"CradleDuelModel", "readOrder", "()V"⟩, 70), (⟨"CradleDuelModel", "readSum", "(I)V"⟩, 70), (⟨"CradleDuelModel", "readBehind", "(IJ)V"⟩, 70), (⟨"CradleDuelModel", "keepAll", "(I)V"⟩, 70), (⟨"CradleDuelModel", "run", "(I)I"⟩, 70), (⟨"CradleDuelModel", "term", "(I)I"⟩, 70), (⟨"CradleDuelModel", "inDuel", "(I)I"⟩, 70), (⟨"CradleDuelModel", "sumOf", "(I)I"⟩, 70), (⟨"CradleDuelModel", "reckonAll", "(II)V"⟩, 70), (⟨"CradleDuelModel", "reckon", "(IJJ)J"⟩, 70), (⟨"CradleDuelModel", "beginNow", "(III)I"⟩, 70), (⟨"CradleDuelModel", "isDuel", "()Z"⟩, 70), (⟨"CradleDuelModel", "isUp", "(I)Z"⟩, 70), (⟨"CradleDuelModel", "remember", "(I)V"⟩, 70), (⟨"CradleDuelModel", "layDuel", "(III)V"⟩, 70), (⟨"CradleDuelModel", "singNow", "(I)I"⟩, 70), (⟨"CradleDuelModel", "layVerse", "(I)V"⟩, 70), (⟨"CradleDuelModel", "listener", "()I"⟩, 70), (⟨"CradleDuelModel", "setSung", "(IIIIII)V"⟩, 70), (⟨"CradleDuelModel", "isBarredSet", "()Z"⟩, 70), (⟨"CradleDuelModel", "tells", "(IJ)J"⟩, 70), (⟨"CradleDuelModel", "isSo", "(I)Z"⟩, 70), (⟨"CradleDuelModel", "singIt", "(I)I"⟩, 70), (⟨"CradleDuelModel", "lullsSet", "()I"⟩, 70), (⟨"CradleDuelModel", "tiresSet", "()I"⟩, 70), (⟨"CradleDuelModel", "setWake", "(II)V"⟩, 70), (⟨"CradleDuelModel", "giveCows", "(II)V"⟩, 70), (⟨"CradleDuelModel", "partNow", "()I"⟩, 70), (⟨"CradleDuelModel", "dawnNow", "()I"⟩, 70), (⟨"CradleDuelModel", "dawnIt", "()I"⟩, 70), (⟨"CradleDuelModel", "wakesOf", "(I)I"⟩, 70), (⟨"CradleDuelModel", "giveBack", "(I)V"⟩, 70), (⟨"CradleDuelModel", "putBack", "(I)V"⟩, 70), (⟨"CradleDuel$Paper", "worthOf", "(III)I"⟩, 11), (⟨"CradleDuelModel", "play", "(I)V"⟩, 70), (⟨"CradleDuelModel", "openLevel", "(I)V"⟩, 70), (⟨"CradleDuelModel", "weigh", "(II)V"⟩, 70), (⟨"CradleDuelModel", "canSing", "(I)Z"⟩, 70), (⟨"CradleDuel$Paper", "resultByVerses", "(IIII)I"⟩, 11), (⟨"CradleDuel$Paper", "openBout", "(II)Z"⟩, 11), (⟨"CradleDuel$Paper", "resultAtOnce", "(II)I"⟩, 11), (⟨"CradleDuelModel", "areFoes", "(II)Z"⟩, 70), (⟨"CradleDuelModel", "resultOnPaper", "(IIII)I"⟩, 70), (⟨"CradleDuelModel", "result", "(IIIII)I"⟩, 70), (⟨"CradleDuelModel", "loudest", "()I"⟩, 70), (⟨"CradleDuelModel", "drawVerse", "()I"⟩, 70), (⟨"CradleDuelModel", "draw", "(I)I"⟩, 70), (⟨"CradleDuel$Paper", "strongestLull", "()I"⟩, 11), (⟨"CradleDuel$Paper", "chooseFrom", "(IIII)V"⟩, 11), (⟨"CradleDuelModel", "findChampions", "()I"⟩, 70), (⟨"CradleDuelModel", "weighRow", "(I)V"⟩, 70), (⟨"CradleDuelModel", "isSpare", "(I)Z"⟩, 70), (⟨"CradleDuel$Making", "joinMore", "(IIII)V"⟩, 5), (⟨"CradleDuelModel", "weighMade", "(II)Z"⟩, 70), (⟨"CradleDuelModel", "ofPiece", "(II)I"⟩, 70), (⟨"CradleDuel$Strangers", "hearAll", "(I)V"⟩, 3), (⟨"CradleDuel$Strangers", "hearOne", "(Z)V"⟩, 3), (⟨"CradleDuel$Strangers", "howManySleep", "()I"⟩, 3), (⟨"CradleDuelModel", "leftOf", "(II)I"⟩, 70), (⟨"CradleDuelModel", "leftBy", "(IIIIII)I"⟩, 70), (⟨"CradleDuelModel", "nextVerse", "(II)I"⟩, 70), (⟨"CradleDuel$Hills", "asleepWith", "(I)I"⟩, 20), (⟨"CradleDuel$Hills", "oneRoundMore", "(II)I"⟩, 20), (⟨"CradleDuelModel", "caught", "(II)I"⟩, 70), (⟨"CradleDuel$Decade", "singDay", "()I"⟩, 7), (⟨"CradleDuel$Decade", "draw", "(I)I"⟩, 7), (⟨"CradleDuel$Decade", "singerOf", "(II)I"⟩, 7), (⟨"CradleDuel$Decade", "listOpen", "()I"⟩, 7), (⟨"CradleDuelModel", "manyOf", "(I)I"⟩, 70), (⟨"CradleDuelModel", "drawSinger", "(I)I"⟩, 70)]
theorem lw_privs_ok : ∀ q ∈ lw_privs, lw_okq q := List.forall_mem_cons.mpr ⟨lw_p51, List.forall_mem_cons.mpr ⟨lw_p0, List.forall_mem_cons.mpr ⟨lw_p1, List.forall_mem_cons.mpr ⟨lw_p2, List.forall_mem_cons.mpr ⟨lw_p52, List.forall_mem_cons.mpr ⟨lw_p54, List.forall_mem_cons.mpr ⟨lw_p55, List.forall_mem_cons.mpr ⟨lw_p56, List.forall_mem_cons.mpr ⟨lw_p57, List.forall_mem_cons.mpr ⟨lw_p58, List.forall_mem_cons.mpr ⟨lw_p3, List.forall_mem_cons.mpr ⟨lw_p59, List.forall_mem_cons.mpr ⟨lw_p4, List.forall_mem_cons.mpr ⟨lw_p5, List.forall_mem_cons.mpr ⟨lw_p6, List.forall_mem_cons.mpr ⟨lw_p7, List.forall_mem_cons.mpr ⟨lw_p8, List.forall_mem_cons.mpr ⟨lw_p9, List.forall_mem_cons.mpr ⟨lw_p10, List.forall_mem_cons.mpr ⟨lw_p11, List.forall_mem_cons.mpr ⟨lw_p12, List.forall_mem_cons.mpr ⟨lw_p14, List.forall_mem_cons.mpr ⟨lw_p15, List.forall_mem_cons.mpr ⟨lw_p16, List.forall_mem_cons.mpr ⟨lw_p17, List.forall_mem_cons.mpr ⟨lw_p18, List.forall_mem_cons.mpr ⟨lw_p13, List.forall_mem_cons.mpr ⟨lw_p19, List.forall_mem_cons.mpr ⟨lw_p20, List.forall_mem_cons.mpr ⟨lw_p21, List.forall_mem_cons.mpr ⟨lw_p22, List.forall_mem_cons.mpr ⟨lw_p23, List.forall_mem_cons.mpr ⟨lw_p25, List.forall_mem_cons.mpr ⟨lw_p24, List.forall_mem_cons.mpr ⟨lw_p60, List.forall_mem_cons.mpr ⟨lw_p61, List.forall_mem_cons.mpr ⟨lw_p62, List.forall_mem_cons.mpr ⟨lw_p63, List.forall_mem_cons.mpr ⟨lw_p64, List.forall_mem_cons.mpr ⟨lw_p65, List.forall_mem_cons.mpr ⟨lw_p66, List.forall_mem_cons.mpr ⟨lw_p67, List.forall_mem_cons.mpr ⟨lw_p68, List.forall_mem_cons.mpr ⟨lw_p69, List.forall_mem_cons.mpr ⟨lw_p70, List.forall_mem_cons.mpr ⟨lw_p71, List.forall_mem_cons.mpr ⟨lw_p72, List.forall_mem_cons.mpr ⟨lw_p73, List.forall_mem_cons.mpr ⟨lw_p74, List.forall_mem_cons.mpr ⟨lw_p75, List.forall_mem_cons.mpr ⟨lw_p76, List.forall_mem_cons.mpr ⟨lw_p77, List.forall_mem_cons.mpr ⟨lw_p78, List.forall_mem_cons.mpr ⟨lw_p79, List.forall_mem_cons.mpr ⟨lw_p80, List.forall_mem_cons.mpr ⟨lw_p81, List.forall_mem_cons.mpr ⟨lw_p82, List.forall_mem_cons.mpr ⟨lw_p26, List.forall_mem_cons.mpr ⟨lw_p27, List.forall_mem_cons.mpr ⟨lw_p28, List.forall_mem_cons.mpr ⟨lw_p29, List.forall_mem_cons.mpr ⟨lw_p30, List.forall_mem_cons.mpr ⟨lw_p31, List.forall_mem_cons.mpr ⟨lw_p32, List.forall_mem_cons.mpr ⟨lw_p33, List.forall_mem_cons.mpr ⟨lw_p34, List.forall_mem_cons.mpr ⟨lw_p128, List.forall_mem_cons.mpr ⟨lw_p129, List.forall_mem_cons.mpr ⟨lw_p130, List.forall_mem_cons.mpr ⟨lw_p100, List.forall_mem_cons.mpr ⟨lw_p131, List.forall_mem_cons.mpr ⟨lw_p88, List.forall_mem_cons.mpr ⟨lw_p84, List.forall_mem_cons.mpr ⟨lw_p132, List.forall_mem_cons.mpr ⟨lw_p92, List.forall_mem_cons.mpr ⟨lw_p93, List.forall_mem_cons.mpr ⟨lw_p97, List.forall_mem_cons.mpr ⟨lw_p83, List.forall_mem_cons.mpr ⟨lw_p98, List.forall_mem_cons.mpr ⟨lw_p99, List.forall_mem_cons.mpr ⟨lw_p101, List.forall_mem_cons.mpr ⟨lw_p102, List.forall_mem_cons.mpr ⟨lw_p85, List.forall_mem_cons.mpr ⟨lw_p86, List.forall_mem_cons.mpr ⟨lw_p87, List.forall_mem_cons.mpr ⟨lw_p95, List.forall_mem_cons.mpr ⟨lw_p90, List.forall_mem_cons.mpr ⟨lw_p91, List.forall_mem_cons.mpr ⟨lw_p103, List.forall_mem_cons.mpr ⟨lw_p89, List.forall_mem_cons.mpr ⟨lw_p94, List.forall_mem_cons.mpr ⟨lw_p104, List.forall_mem_cons.mpr ⟨lw_p105, List.forall_mem_cons.mpr ⟨lw_p106, List.forall_mem_cons.mpr ⟨lw_p107, List.forall_mem_cons.mpr ⟨lw_p108, List.forall_mem_cons.mpr ⟨lw_p96, List.forall_mem_cons.mpr ⟨lw_p133, List.forall_mem_cons.mpr ⟨lw_p53, List.forall_mem_cons.mpr ⟨lw_p35, List.forall_mem_cons.mpr ⟨lw_p109, List.forall_mem_cons.mpr ⟨lw_p110, List.forall_mem_cons.mpr ⟨lw_p111, List.forall_mem_cons.mpr ⟨lw_p112, List.forall_mem_cons.mpr ⟨lw_p36, List.forall_mem_cons.mpr ⟨lw_p37, List.forall_mem_cons.mpr ⟨lw_p38, List.forall_mem_cons.mpr ⟨lw_p113, List.forall_mem_cons.mpr ⟨lw_p114, List.forall_mem_cons.mpr ⟨lw_p115, List.forall_mem_cons.mpr ⟨lw_p116, List.forall_mem_cons.mpr ⟨lw_p117, List.forall_mem_cons.mpr ⟨lw_p118, List.forall_mem_cons.mpr ⟨lw_p39, List.forall_mem_cons.mpr ⟨lw_p40, List.forall_mem_cons.mpr ⟨lw_p119, List.forall_mem_cons.mpr ⟨lw_p120, List.forall_mem_cons.mpr ⟨lw_p121, List.forall_mem_cons.mpr ⟨lw_p41, List.forall_mem_cons.mpr ⟨lw_p122, List.forall_mem_cons.mpr ⟨lw_p123, List.forall_mem_cons.mpr ⟨lw_p42, List.forall_mem_cons.mpr ⟨lw_p43, List.forall_mem_cons.mpr ⟨lw_p44, List.forall_mem_cons.mpr ⟨lw_p124, List.forall_mem_cons.mpr ⟨lw_p125, List.forall_mem_cons.mpr ⟨lw_p126, List.forall_mem_cons.mpr ⟨lw_p45, List.forall_mem_cons.mpr ⟨lw_p46, List.forall_mem_cons.mpr ⟨lw_p127, List.forall_mem_cons.mpr ⟨lw_p47, List.forall_mem_cons.mpr ⟨lw_p48, List.forall_mem_cons.mpr ⟨lw_p49, List.forall_mem_cons.mpr ⟨lw_p50, List.forall_mem_cons.mpr ⟨lw_p134, List.forall_mem_cons.mpr ⟨lw_p135, fun _ h => absurd h List.not_mem_nil⟩⟩⟩⟩⟩⟩⟩⟩⟩⟩⟩⟩⟩⟩⟩⟩⟩⟩⟩⟩⟩⟩⟩⟩⟩⟩⟩⟩⟩⟩⟩⟩⟩⟩⟩⟩⟩⟩⟩⟩⟩⟩⟩⟩⟩⟩⟩⟩⟩⟩⟩⟩⟩⟩⟩⟩⟩⟩⟩⟩⟩⟩⟩⟩⟩⟩⟩⟩⟩⟩⟩⟩⟩⟩⟩⟩⟩⟩⟩⟩⟩⟩⟩⟩⟩⟩⟩⟩⟩⟩⟩⟩⟩⟩⟩⟩⟩⟩⟩⟩⟩⟩⟩⟩⟩⟩⟩⟩⟩⟩⟩⟩⟩⟩⟩⟩⟩⟩⟩⟩⟩⟩⟩⟩⟩⟩⟩⟩⟩⟩⟩⟩⟩⟩⟩⟩
def lw_tbl : List Cond := k2_sels lw_privs ++ tables_1
def RX0 : String := "CradleDuel$Decade"
def TX0 : u_T := fun k => match k with
  | 0 => ("CradleDuel$Decade", "stand", "LCradleDuel$Stand;", true)
  | 1 => ("CradleDuel$Decade", "lost", "[I", true)
  | 2 => ("CradleDuel$Decade", "singers", "I", false)
  | 3 => ("CradleDuel$Decade", "hills", "LCradleDuel$Hills;", true)
  | 4 => ("CradleDuel$Decade", "singing", "LCradleDuel$Singing;", true)
  | 5 => ("CradleDuel$Decade", "open", "[I", true)
  | _ => ("CradleDuel$Decade", "seed", "I", false)
def tyX0 : Nat → FieldType := fun k => match k with
  | 0 => .object "CradleDuel$Stand"
  | 1 => .array .int
  | 2 => .int
  | 3 => .object "CradleDuel$Hills"
  | 4 => .object "CradleDuel$Singing"
  | 5 => .array .int
  | _ => .int
abbrev wsX00 : List Cond := u_ws RX0 TX0 7
theorem nmX0 : ∀ a, a < 7 → ∀ b, b < 7 → a ≠ b → (TX0 a).2.1 ≠ (TX0 b).2.1 := by decide +kernel
theorem tyX0_ok : ∀ k, k < 7 → parseFieldDescriptor (TX0 k).2.2.1 = some (tyX0 k) := by decide +kernel
abbrev cX0_init : ByteArray := prog_2_method_1_code
def yX0_init : MethodName := ⟨RX0, "<init>", "(LCradleDuel$Hills;LCradleDuel$Singing;)V"⟩
abbrev cX0_run : ByteArray := prog_2_method_2_code
def yX0_run : MethodName := ⟨RX0, "run", "(II)I"⟩
abbrev cX0_draw : ByteArray := prog_2_method_3_code
def yX0_draw : MethodName := ⟨RX0, "draw", "(I)I"⟩
abbrev cX0_singDay : ByteArray := prog_2_method_4_code
def yX0_singDay : MethodName := ⟨RX0, "singDay", "()I"⟩
abbrev cX0_singerOf : ByteArray := prog_2_method_5_code
def yX0_singerOf : MethodName := ⟨RX0, "singerOf", "(II)I"⟩
abbrev cX0_listOpen : ByteArray := prog_2_method_6_code
def yX0_listOpen : MethodName := ⟨RX0, "listOpen", "()I"⟩
def RX1 : String := "CradleDuel$Deeds"
def TX1 : u_T := fun k => match k with
  | 0 => ("CradleDuel$Deeds", "undoable", "I", false)
  | 1 => ("CradleDuel$Deeds", "hills", "LCradleDuel$Hills;", true)
  | 2 => ("CradleDuel$Deeds", "singing", "LCradleDuel$Singing;", true)
  | 3 => ("CradleDuel$Deeds", "ahead", "[LCradleDuel$Stand;", true)
  | 4 => ("CradleDuel$Deeds", "deed", "[I", true)
  | 5 => ("CradleDuel$Deeds", "oldest", "I", false)
  | 6 => ("CradleDuel$Deeds", "savedStand", "LCradleDuel$Stand;", true)
  | 7 => ("CradleDuel$Deeds", "savedAhead", "[LCradleDuel$Stand;", true)
  | 8 => ("CradleDuel$Deeds", "savedDeed", "[I", true)
  | 9 => ("CradleDuel$Deeds", "savedOldest", "I", false)
  | _ => ("CradleDuel$Deeds", "savedUndoable", "I", false)
def tyX1 : Nat → FieldType := fun k => match k with
  | 0 => .int
  | 1 => .object "CradleDuel$Hills"
  | 2 => .object "CradleDuel$Singing"
  | 3 => .array (.object "CradleDuel$Stand")
  | 4 => .array .int
  | 5 => .int
  | 6 => .object "CradleDuel$Stand"
  | 7 => .array (.object "CradleDuel$Stand")
  | 8 => .array .int
  | 9 => .int
  | _ => .int
abbrev wsX10 : List Cond := u_ws RX1 TX1 11
theorem nmX1 : ∀ a, a < 11 → ∀ b, b < 11 → a ≠ b → (TX1 a).2.1 ≠ (TX1 b).2.1 := by decide +kernel
theorem tyX1_ok : ∀ k, k < 11 → parseFieldDescriptor (TX1 k).2.2.1 = some (tyX1 k) := by decide +kernel
abbrev cX1_init : ByteArray := prog_3_method_1_code
def yX1_init : MethodName := ⟨RX1, "<init>", "(LCradleDuel$Hills;LCradleDuel$Singing;)V"⟩
abbrev cX1_openDuel : ByteArray := prog_3_method_2_code
def yX1_openDuel : MethodName := ⟨RX1, "openDuel", "(III)I"⟩
abbrev cX1_singVerse : ByteArray := prog_3_method_3_code
def yX1_singVerse : MethodName := ⟨RX1, "singVerse", "(I)I"⟩
abbrev cX1_leaveDuel : ByteArray := prog_3_method_4_code
def yX1_leaveDuel : MethodName := ⟨RX1, "leaveDuel", "()I"⟩
abbrev cX1_nextDay : ByteArray := prog_3_method_5_code
def yX1_nextDay : MethodName := ⟨RX1, "nextDay", "()I"⟩
abbrev cX1_takeBack : ByteArray := prog_3_method_6_code
def yX1_takeBack : MethodName := ⟨RX1, "takeBack", "()I"⟩
abbrev cX1_clearUndone : ByteArray := prog_3_method_7_code
def yX1_clearUndone : MethodName := ⟨RX1, "clearUndone", "()V"⟩
abbrev cX1_remember : ByteArray := prog_3_method_8_code
def yX1_remember : MethodName := ⟨RX1, "remember", "(I)V"⟩
abbrev cX1_save : ByteArray := prog_3_method_9_code
def yX1_save : MethodName := ⟨RX1, "save", "()V"⟩
abbrev cX1_restore : ByteArray := prog_3_method_10_code
def yX1_restore : MethodName := ⟨RX1, "restore", "()V"⟩
def RX2 : String := "CradleDuel$Hills"
def TX2 : u_T := fun k => match k with
  | 0 => ("CradleDuel$Hills", "singers", "I", false)
  | 1 => ("CradleDuel$Hills", "skill", "[I", true)
  | 2 => ("CradleDuel$Hills", "clan", "[I", true)
  | 3 => ("CradleDuel$Hills", "hearing", "[I", true)
  | 4 => ("CradleDuel$Hills", "verses", "I", false)
  | 5 => ("CradleDuel$Hills", "strong", "[I", true)
  | 6 => ("CradleDuel$Hills", "key", "[I", true)
  | 7 => ("CradleDuel$Hills", "parts", "I", false)
  | 8 => ("CradleDuel$Hills", "partStrong", "[I", true)
  | 9 => ("CradleDuel$Hills", "partKey", "[I", true)
  | 10 => ("CradleDuel$Hills", "partLong", "[I", true)
  | 11 => ("CradleDuel$Hills", "sights", "I", false)
  | 12 => ("CradleDuel$Hills", "seen", "[I", true)
  | 13 => ("CradleDuel$Hills", "laws", "I", false)
  | 14 => ("CradleDuel$Hills", "scripts", "[LCradleDuel$Script;", true)
  | 15 => ("CradleDuel$Hills", "force", "I", false)
  | 16 => ("CradleDuel$Hills", "yawn", "I", false)
  | 17 => ("CradleDuel$Hills", "catchWake", "I", false)
  | 18 => ("CradleDuel$Hills", "mood", "I", false)
  | _ => ("CradleDuel$Hills", "stand", "LCradleDuel$Stand;", true)
def tyX2 : Nat → FieldType := fun k => match k with
  | 0 => .int
  | 1 => .array .int
  | 2 => .array .int
  | 3 => .array .int
  | 4 => .int
  | 5 => .array .int
  | 6 => .array .int
  | 7 => .int
  | 8 => .array .int
  | 9 => .array .int
  | 10 => .array .int
  | 11 => .int
  | 12 => .array .int
  | 13 => .int
  | 14 => .array (.object "CradleDuel$Script")
  | 15 => .int
  | 16 => .int
  | 17 => .int
  | 18 => .int
  | _ => .object "CradleDuel$Stand"
abbrev wsX20 : List Cond := u_ws RX2 TX2 20
theorem nmX2 : ∀ a, a < 20 → ∀ b, b < 20 → a ≠ b → (TX2 a).2.1 ≠ (TX2 b).2.1 := by decide +kernel
theorem tyX2_ok : ∀ k, k < 20 → parseFieldDescriptor (TX2 k).2.2.1 = some (tyX2 k) := by decide +kernel
abbrev cX2_init : ByteArray := prog_4_method_1_code
def yX2_init : MethodName := ⟨RX2, "<init>", "()V"⟩
abbrev cX2_copyFrom : ByteArray := prog_4_method_2_code
def yX2_copyFrom : MethodName := ⟨RX2, "copyFrom", "(LCradleDuel$Hills;)V"⟩
abbrev cX2_isSinger : ByteArray := prog_4_method_3_code
def yX2_isSinger : MethodName := ⟨RX2, "isSinger", "(I)Z"⟩
abbrev cX2_isVerse : ByteArray := prog_4_method_4_code
def yX2_isVerse : MethodName := ⟨RX2, "isVerse", "(I)Z"⟩
abbrev cX2_isOfClan : ByteArray := prog_4_method_5_code
def yX2_isOfClan : MethodName := ⟨RX2, "isOfClan", "(II)Z"⟩
abbrev cX2_areFoes : ByteArray := prog_4_method_6_code
def yX2_areFoes : MethodName := ⟨RX2, "areFoes", "(II)Z"⟩
abbrev cX2_howManyOf : ByteArray := prog_4_method_7_code
def yX2_howManyOf : MethodName := ⟨RX2, "howManyOf", "(I)I"⟩
abbrev cX2_addSinger : ByteArray := prog_4_method_8_code
def yX2_addSinger : MethodName := ⟨RX2, "addSinger", "(III)I"⟩
abbrev cX2_addVerse : ByteArray := prog_4_method_9_code
def yX2_addVerse : MethodName := ⟨RX2, "addVerse", "(II)I"⟩
abbrev cX2_addPart : ByteArray := prog_4_method_10_code
def yX2_addPart : MethodName := ⟨RX2, "addPart", "(III)I"⟩
abbrev cX2_addLaw : ByteArray := prog_4_method_11_code
def yX2_addLaw : MethodName := ⟨RX2, "addLaw", "(LCradleDuel$Script;)I"⟩
abbrev cX2_addSight : ByteArray := prog_4_method_12_code
def yX2_addSight : MethodName := ⟨RX2, "addSight", "(IIIII)I"⟩
abbrev cX2_setHearing : ByteArray := prog_4_method_13_code
def yX2_setHearing : MethodName := ⟨RX2, "setHearing", "(III)I"⟩
abbrev cX2_termOf : ByteArray := prog_4_method_14_code
def yX2_termOf : MethodName := ⟨RX2, "termOf", "(I)I"⟩
abbrev cX2_setTerm : ByteArray := prog_4_method_15_code
def yX2_setTerm : MethodName := ⟨RX2, "setTerm", "(II)V"⟩
abbrev cX2_lawInForce : ByteArray := prog_4_method_16_code
def yX2_lawInForce : MethodName := ⟨RX2, "lawInForce", "()LCradleDuel$Script;"⟩
abbrev cX2_asleepWith : ByteArray := prog_4_method_17_code
def yX2_asleepWith : MethodName := ⟨RX2, "asleepWith", "(I)I"⟩
abbrev cX2_oneRoundMore : ByteArray := prog_4_method_18_code
def yX2_oneRoundMore : MethodName := ⟨RX2, "oneRoundMore", "(II)I"⟩
abbrev cX2_asleepBehind : ByteArray := prog_4_method_19_code
def yX2_asleepBehind : MethodName := ⟨RX2, "asleepBehind", "(II)I"⟩
abbrev cX2_roundsBehind : ByteArray := prog_4_method_20_code
def yX2_roundsBehind : MethodName := ⟨RX2, "roundsBehind", "(I)I"⟩
abbrev cX2_ledAway : ByteArray := prog_4_method_21_code
def yX2_ledAway : MethodName := ⟨RX2, "ledAway", "(II)I"⟩
def RX3 : String := "CradleDuel$Making"
def TX3 : u_T := fun k => match k with
  | 0 => ("CradleDuel$Making", "hills", "LCradleDuel$Hills;", true)
  | 1 => ("CradleDuel$Making", "joined", "[I", true)
  | 2 => ("CradleDuel$Making", "best", "[I", true)
  | 3 => ("CradleDuel$Making", "bestLength", "I", false)
  | _ => ("CradleDuel$Making", "bestStrong", "I", false)
def tyX3 : Nat → FieldType := fun k => match k with
  | 0 => .object "CradleDuel$Hills"
  | 1 => .array .int
  | 2 => .array .int
  | 3 => .int
  | _ => .int
abbrev wsX30 : List Cond := u_ws RX3 TX3 5
theorem nmX3 : ∀ a, a < 5 → ∀ b, b < 5 → a ≠ b → (TX3 a).2.1 ≠ (TX3 b).2.1 := by decide +kernel
theorem tyX3_ok : ∀ k, k < 5 → parseFieldDescriptor (TX3 k).2.2.1 = some (tyX3 k) := by decide +kernel
abbrev cX3_init : ByteArray := prog_5_method_1_code
def yX3_init : MethodName := ⟨RX3, "<init>", "(LCradleDuel$Hills;)V"⟩
abbrev cX3_strongest : ByteArray := prog_5_method_2_code
def yX3_strongest : MethodName := ⟨RX3, "strongest", "(II)I"⟩
abbrev cX3_joinMore : ByteArray := prog_5_method_3_code
def yX3_joinMore : MethodName := ⟨RX3, "joinMore", "(IIII)V"⟩
def RX4 : String := "CradleDuel$OrderRun"
def TX4 : u_T := fun k => match k with
  | 0 => ("CradleDuel$OrderRun", "stoppedAt", "I", false)
  | 1 => ("CradleDuel$OrderRun", "hills", "LCradleDuel$Hills;", true)
  | 2 => ("CradleDuel$OrderRun", "deeds", "LCradleDuel$Deeds;", true)
  | 3 => ("CradleDuel$OrderRun", "sums", "LCradleDuel$Sums;", true)
  | 4 => ("CradleDuel$OrderRun", "done", "I", false)
  | _ => ("CradleDuel$OrderRun", "last", "I", false)
def tyX4 : Nat → FieldType := fun k => match k with
  | 0 => .int
  | 1 => .object "CradleDuel$Hills"
  | 2 => .object "CradleDuel$Deeds"
  | 3 => .object "CradleDuel$Sums"
  | 4 => .int
  | _ => .int
abbrev wsX40 : List Cond := u_ws RX4 TX4 6
theorem nmX4 : ∀ a, a < 6 → ∀ b, b < 6 → a ≠ b → (TX4 a).2.1 ≠ (TX4 b).2.1 := by decide +kernel
theorem tyX4_ok : ∀ k, k < 6 → parseFieldDescriptor (TX4 k).2.2.1 = some (tyX4 k) := by decide +kernel
abbrev cX4_init : ByteArray := prog_6_method_1_code
def yX4_init : MethodName := ⟨RX4, "<init>", "(LCradleDuel$Hills;LCradleDuel$Deeds;LCradleDuel$Sums;)V"⟩
abbrev cX4_run : ByteArray := prog_6_method_2_code
def yX4_run : MethodName := ⟨RX4, "run", "(LCradleDuel$Script;)I"⟩
abbrev cX4_doDeed : ByteArray := prog_6_method_3_code
def yX4_doDeed : MethodName := ⟨RX4, "doDeed", "(LCradleDuel$Script;I)I"⟩
abbrev cX4_doBegin : ByteArray := prog_6_method_4_code
def yX4_doBegin : MethodName := ⟨RX4, "doBegin", "(LCradleDuel$Script;I)I"⟩
abbrev cX4_setWords : ByteArray := prog_6_method_5_code
def yX4_setWords : MethodName := ⟨RX4, "setWords", "()V"⟩
def RX5 : String := "CradleDuel$Paper"
def TX5 : u_T := fun k => match k with
  | 0 => ("CradleDuel$Paper", "hills", "LCradleDuel$Hills;", true)
  | 1 => ("CradleDuel$Paper", "singing", "LCradleDuel$Singing;", true)
  | 2 => ("CradleDuel$Paper", "ahead", "[LCradleDuel$Stand;", true)
  | 3 => ("CradleDuel$Paper", "sungAhead", "I", false)
  | 4 => ("CradleDuel$Paper", "firstVerse", "I", false)
  | 5 => ("CradleDuel$Paper", "bout", "LCradleDuel$Stand;", true)
  | 6 => ("CradleDuel$Paper", "results", "[[I", true)
  | 7 => ("CradleDuel$Paper", "chosen", "[I", true)
  | 8 => ("CradleDuel$Paper", "best", "[I", true)
  | 9 => ("CradleDuel$Paper", "mostWon", "I", false)
  | _ => ("CradleDuel$Paper", "fewestLost", "I", false)
def tyX5 : Nat → FieldType := fun k => match k with
  | 0 => .object "CradleDuel$Hills"
  | 1 => .object "CradleDuel$Singing"
  | 2 => .array (.object "CradleDuel$Stand")
  | 3 => .int
  | 4 => .int
  | 5 => .object "CradleDuel$Stand"
  | 6 => .array (.array .int)
  | 7 => .array .int
  | 8 => .array .int
  | 9 => .int
  | _ => .int
abbrev wsX50 : List Cond := u_ws RX5 TX5 11
theorem nmX5 : ∀ a, a < 11 → ∀ b, b < 11 → a ≠ b → (TX5 a).2.1 ≠ (TX5 b).2.1 := by decide +kernel
theorem tyX5_ok : ∀ k, k < 11 → parseFieldDescriptor (TX5 k).2.2.1 = some (tyX5 k) := by decide +kernel
abbrev cX5_init : ByteArray := prog_7_method_1_code
def yX5_init : MethodName := ⟨RX5, "<init>", "(LCradleDuel$Hills;LCradleDuel$Singing;)V"⟩
abbrev cX5_lookAhead : ByteArray := prog_7_method_2_code
def yX5_lookAhead : MethodName := ⟨RX5, "lookAhead", "(II)I"⟩
abbrev cX5_worthOf : ByteArray := prog_7_method_3_code
def yX5_worthOf : MethodName := ⟨RX5, "worthOf", "(III)I"⟩
abbrev cX5_bestOfWorst : ByteArray := prog_7_method_4_code
def yX5_bestOfWorst : MethodName := ⟨RX5, "bestOfWorst", "(IIZ)I"⟩
abbrev cX5_worstOfBest : ByteArray := prog_7_method_5_code
def yX5_worstOfBest : MethodName := ⟨RX5, "worstOfBest", "(IIZ)I"⟩
abbrev cX5_openBout : ByteArray := prog_7_method_6_code
def yX5_openBout : MethodName := ⟨RX5, "openBout", "(II)Z"⟩
abbrev cX5_resultAtOnce : ByteArray := prog_7_method_7_code
def yX5_resultAtOnce : MethodName := ⟨RX5, "resultAtOnce", "(II)I"⟩
abbrev cX5_resultByVerses : ByteArray := prog_7_method_8_code
def yX5_resultByVerses : MethodName := ⟨RX5, "resultByVerses", "(IIII)I"⟩
abbrev cX5_resultByRule : ByteArray := prog_7_method_9_code
def yX5_resultByRule : MethodName := ⟨RX5, "resultByRule", "(II)I"⟩
abbrev cX5_strongestLull : ByteArray := prog_7_method_10_code
def yX5_strongestLull : MethodName := ⟨RX5, "strongestLull", "()I"⟩
abbrev cX5_chooseChampions : ByteArray := prog_7_method_11_code
def yX5_chooseChampions : MethodName := ⟨RX5, "chooseChampions", "(I)I"⟩
abbrev cX5_chooseFrom : ByteArray := prog_7_method_12_code
def yX5_chooseFrom : MethodName := ⟨RX5, "chooseFrom", "(IIII)V"⟩
def RX6 : String := "CradleDuel$Reader"
def TX6 : u_T := fun k => match k with
  | 0 => ("CradleDuel$Reader", "script", "LCradleDuel$Script;", true)
  | 1 => ("CradleDuel$Reader", "tape", "[I", true)
  | 2 => ("CradleDuel$Reader", "length", "I", false)
  | 3 => ("CradleDuel$Reader", "ofLaws", "Z", false)
  | 4 => ("CradleDuel$Reader", "place", "I", false)
  | 5 => ("CradleDuel$Reader", "behind", "I", false)
  | 6 => ("CradleDuel$Reader", "token", "I", false)
  | 7 => ("CradleDuel$Reader", "number", "I", false)
  | 8 => ("CradleDuel$Reader", "words", "I", false)
  | 9 => ("CradleDuel$Reader", "deep", "I", false)
  | _ => ("CradleDuel$Reader", "faultAt", "I", false)
def tyX6 : Nat → FieldType := fun k => match k with
  | 0 => .object "CradleDuel$Script"
  | 1 => .array .int
  | 2 => .int
  | 3 => .boolean
  | 4 => .int
  | 5 => .int
  | 6 => .int
  | 7 => .int
  | 8 => .int
  | 9 => .int
  | _ => .int
abbrev wsX60 : List Cond := u_ws RX6 TX6 11
theorem nmX6 : ∀ a, a < 11 → ∀ b, b < 11 → a ≠ b → (TX6 a).2.1 ≠ (TX6 b).2.1 := by decide +kernel
theorem tyX6_ok : ∀ k, k < 11 → parseFieldDescriptor (TX6 k).2.2.1 = some (tyX6 k) := by decide +kernel
abbrev cX6_init : ByteArray := prog_8_method_1_code
def yX6_init : MethodName := ⟨RX6, "<init>", "([I)V"⟩
abbrev cX6_read : ByteArray := prog_8_method_2_code
def yX6_read : MethodName := ⟨RX6, "read", "(IZ)I"⟩
abbrev cX6_isGood : ByteArray := prog_8_method_3_code
def yX6_isGood : MethodName := ⟨RX6, "isGood", "()Z"⟩
abbrev cX6_fail : ByteArray := prog_8_method_4_code
def yX6_fail : MethodName := ⟨RX6, "fail", "()V"⟩
abbrev cX6_kindOf : ByteArray := prog_8_method_5_code
def yX6_kindOf : MethodName := ⟨RX6, "kindOf", "(I)I"⟩
abbrev cX6_step : ByteArray := prog_8_method_6_code
def yX6_step : MethodName := ⟨RX6, "step", "()V"⟩
abbrev cX6_isSign : ByteArray := prog_8_method_7_code
def yX6_isSign : MethodName := ⟨RX6, "isSign", "(I)Z"⟩
abbrev cX6_take : ByteArray := prog_8_method_8_code
def yX6_take : MethodName := ⟨RX6, "take", "(I)V"⟩
abbrev cX6_wordAmong : ByteArray := prog_8_method_9_code
def yX6_wordAmong : MethodName := ⟨RX6, "wordAmong", "(Ljava/lang/String;)I"⟩
abbrev cX6_isToken : ByteArray := prog_8_method_10_code
def yX6_isToken : MethodName := ⟨RX6, "isToken", "(Ljava/lang/String;II)Z"⟩
abbrev cX6_isWord : ByteArray := prog_8_method_11_code
def yX6_isWord : MethodName := ⟨RX6, "isWord", "(Ljava/lang/String;)Z"⟩
abbrev cX6_takeWord : ByteArray := prog_8_method_12_code
def yX6_takeWord : MethodName := ⟨RX6, "takeWord", "(Ljava/lang/String;)V"⟩
abbrev cX6_readClause : ByteArray := prog_8_method_13_code
def yX6_readClause : MethodName := ⟨RX6, "readClause", "(I)V"⟩
abbrev cX6_readTimes : ByteArray := prog_8_method_14_code
def yX6_readTimes : MethodName := ⟨RX6, "readTimes", "(I)V"⟩
abbrev cX6_readWholeSum : ByteArray := prog_8_method_15_code
def yX6_readWholeSum : MethodName := ⟨RX6, "readWholeSum", "(II)V"⟩
abbrev cX6_readTest : ByteArray := prog_8_method_16_code
def yX6_readTest : MethodName := ⟨RX6, "readTest", "()V"⟩
abbrev cX6_readBoth : ByteArray := prog_8_method_17_code
def yX6_readBoth : MethodName := ⟨RX6, "readBoth", "()V"⟩
abbrev cX6_landHere : ByteArray := prog_8_method_18_code
def yX6_landHere : MethodName := ⟨RX6, "landHere", "(I)V"⟩
abbrev cX6_readPlain : ByteArray := prog_8_method_19_code
def yX6_readPlain : MethodName := ⟨RX6, "readPlain", "()V"⟩
abbrev cX6_goDeeper : ByteArray := prog_8_method_20_code
def yX6_goDeeper : MethodName := ⟨RX6, "goDeeper", "()Z"⟩
abbrev cX6_readSum : ByteArray := prog_8_method_21_code
def yX6_readSum : MethodName := ⟨RX6, "readSum", "()V"⟩
abbrev cX6_readTerm : ByteArray := prog_8_method_22_code
def yX6_readTerm : MethodName := ⟨RX6, "readTerm", "()V"⟩
abbrev cX6_readPart : ByteArray := prog_8_method_23_code
def yX6_readPart : MethodName := ⟨RX6, "readPart", "()V"⟩
abbrev cX6_noteLawWord : ByteArray := prog_8_method_24_code
def yX6_noteLawWord : MethodName := ⟨RX6, "noteLawWord", "(I)I"⟩
abbrev cX6_readOwner : ByteArray := prog_8_method_25_code
def yX6_readOwner : MethodName := ⟨RX6, "readOwner", "(I)I"⟩
def RX7 : String := "CradleDuel$Script"
def TX7 : u_T := fun k => match k with
  | 0 => ("CradleDuel$Script", "op", "[I", true)
  | 1 => ("CradleDuel$Script", "arg", "[I", true)
  | 2 => ("CradleDuel$Script", "kind", "[I", true)
  | 3 => ("CradleDuel$Script", "times", "[I", true)
  | 4 => ("CradleDuel$Script", "test", "[I", true)
  | 5 => ("CradleDuel$Script", "sum", "[I", true)
  | 6 => ("CradleDuel$Script", "length", "I", false)
  | 7 => ("CradleDuel$Script", "clauses", "I", false)
  | 8 => ("CradleDuel$Script", "kinds", "I", false)
  | _ => ("CradleDuel$Script", "lullsByWake", "Z", false)
def tyX7 : Nat → FieldType := fun k => match k with
  | 0 => .array .int
  | 1 => .array .int
  | 2 => .array .int
  | 3 => .array .int
  | 4 => .array .int
  | 5 => .array .int
  | 6 => .int
  | 7 => .int
  | 8 => .int
  | _ => .boolean
abbrev wsX70 : List Cond := u_ws RX7 TX7 10
theorem nmX7 : ∀ a, a < 10 → ∀ b, b < 10 → a ≠ b → (TX7 a).2.1 ≠ (TX7 b).2.1 := by decide +kernel
theorem tyX7_ok : ∀ k, k < 10 → parseFieldDescriptor (TX7 k).2.2.1 = some (tyX7 k) := by decide +kernel
abbrev cX7_init : ByteArray := prog_9_method_1_code
def yX7_init : MethodName := ⟨RX7, "<init>", "(II)V"⟩
abbrev cX7_clear : ByteArray := prog_9_method_2_code
def yX7_clear : MethodName := ⟨RX7, "clear", "()V"⟩
abbrev cX7_openClause : ByteArray := prog_9_method_3_code
def yX7_openClause : MethodName := ⟨RX7, "openClause", "(I)V"⟩
abbrev cX7_put : ByteArray := prog_9_method_4_code
def yX7_put : MethodName := ⟨RX7, "put", "(II)V"⟩
abbrev cX7_has : ByteArray := prog_9_method_5_code
def yX7_has : MethodName := ⟨RX7, "has", "(I)Z"⟩
abbrev cX7_sumOf : ByteArray := prog_9_method_6_code
def yX7_sumOf : MethodName := ⟨RX7, "sumOf", "(II)I"⟩
abbrev cX7_cut : ByteArray := prog_9_method_7_code
def yX7_cut : MethodName := ⟨RX7, "cut", "()LCradleDuel$Script;"⟩
def RX8 : String := "CradleDuel$Singing"
def TX8 : u_T := fun k => match k with
  | 0 => ("CradleDuel$Singing", "sums", "LCradleDuel$Sums;", true)
  | 1 => ("CradleDuel$Singing", "hills", "LCradleDuel$Hills;", true)
  | _ => ("CradleDuel$Singing", "told", "I", false)
def tyX8 : Nat → FieldType := fun k => match k with
  | 0 => .object "CradleDuel$Sums"
  | 1 => .object "CradleDuel$Hills"
  | _ => .int
abbrev wsX80 : List Cond := u_ws RX8 TX8 3
theorem nmX8 : ∀ a, a < 3 → ∀ b, b < 3 → a ≠ b → (TX8 a).2.1 ≠ (TX8 b).2.1 := by decide +kernel
theorem tyX8_ok : ∀ k, k < 3 → parseFieldDescriptor (TX8 k).2.2.1 = some (tyX8 k) := by decide +kernel
abbrev cX8_init : ByteArray := prog_10_method_1_code
def yX8_init : MethodName := ⟨RX8, "<init>", "(LCradleDuel$Hills;)V"⟩
abbrev cX8_howLulls : ByteArray := prog_10_method_2_code
def yX8_howLulls : MethodName := ⟨RX8, "howLulls", "(LCradleDuel$Stand;I)I"⟩
abbrev cX8_howTires : ByteArray := prog_10_method_3_code
def yX8_howTires : MethodName := ⟨RX8, "howTires", "(LCradleDuel$Stand;I)I"⟩
abbrev cX8_isBarred : ByteArray := prog_10_method_4_code
def yX8_isBarred : MethodName := ⟨RX8, "isBarred", "(LCradleDuel$Stand;I)Z"⟩
abbrev cX8_howWakes : ByteArray := prog_10_method_5_code
def yX8_howWakes : MethodName := ⟨RX8, "howWakes", "(LCradleDuel$Stand;I)I"⟩
abbrev cX8_setStranger : ByteArray := prog_10_method_6_code
def yX8_setStranger : MethodName := ⟨RX8, "setStranger", "(IIIII)V"⟩
abbrev cX8_lullsAt : ByteArray := prog_10_method_7_code
def yX8_lullsAt : MethodName := ⟨RX8, "lullsAt", "(I)I"⟩
abbrev cX8_isLullByWake : ByteArray := prog_10_method_8_code
def yX8_isLullByWake : MethodName := ⟨RX8, "isLullByWake", "()Z"⟩
abbrev cX8_singOn : ByteArray := prog_10_method_9_code
def yX8_singOn : MethodName := ⟨RX8, "singOn", "(LCradleDuel$Stand;I)I"⟩
abbrev cX8_dawnOn : ByteArray := prog_10_method_10_code
def yX8_dawnOn : MethodName := ⟨RX8, "dawnOn", "(LCradleDuel$Stand;)I"⟩
abbrev cX8_setWords : ByteArray := prog_10_method_11_code
def yX8_setWords : MethodName := ⟨RX8, "setWords", "(LCradleDuel$Stand;I)V"⟩
abbrev cX8_setVerse : ByteArray := prog_10_method_12_code
def yX8_setVerse : MethodName := ⟨RX8, "setVerse", "(IIII)V"⟩
abbrev cX8_lullByWords : ByteArray := prog_10_method_13_code
def yX8_lullByWords : MethodName := ⟨RX8, "lullByWords", "()I"⟩
abbrev cX8_tireByWords : ByteArray := prog_10_method_14_code
def yX8_tireByWords : MethodName := ⟨RX8, "tireByWords", "()I"⟩
abbrev cX8_isTold : ByteArray := prog_10_method_15_code
def yX8_isTold : MethodName := ⟨RX8, "isTold", "(I)Z"⟩
abbrev cX8_nearest : ByteArray := prog_10_method_16_code
def yX8_nearest : MethodName := ⟨RX8, "nearest", "(II)I"⟩
def RX9 : String := "CradleDuel$Stand"
def TX9 : u_T := fun k => match k with
  | 0 => ("CradleDuel$Stand", "wake", "[I", true)
  | 1 => ("CradleDuel$Stand", "asleep", "[I", true)
  | 2 => ("CradleDuel$Stand", "yawns", "[I", true)
  | 3 => ("CradleDuel$Stand", "cows", "[I", true)
  | 4 => ("CradleDuel$Stand", "day", "I", false)
  | 5 => ("CradleDuel$Stand", "first", "I", false)
  | 6 => ("CradleDuel$Stand", "second", "I", false)
  | 7 => ("CradleDuel$Stand", "stake", "I", false)
  | 8 => ("CradleDuel$Stand", "hour", "I", false)
  | 9 => ("CradleDuel$Stand", "secondSings", "Z", false)
  | _ => ("CradleDuel$Stand", "lastKey", "I", false)
def tyX9 : Nat → FieldType := fun k => match k with
  | 0 => .array .int
  | 1 => .array .int
  | 2 => .array .int
  | 3 => .array .int
  | 4 => .int
  | 5 => .int
  | 6 => .int
  | 7 => .int
  | 8 => .int
  | 9 => .boolean
  | _ => .int
abbrev wsX90 : List Cond := u_ws RX9 TX9 11
theorem nmX9 : ∀ a, a < 11 → ∀ b, b < 11 → a ≠ b → (TX9 a).2.1 ≠ (TX9 b).2.1 := by decide +kernel
theorem tyX9_ok : ∀ k, k < 11 → parseFieldDescriptor (TX9 k).2.2.1 = some (tyX9 k) := by decide +kernel
abbrev cX9_init : ByteArray := prog_11_method_1_code
def yX9_init : MethodName := ⟨RX9, "<init>", "()V"⟩
abbrev cX9_copyFrom : ByteArray := prog_11_method_2_code
def yX9_copyFrom : MethodName := ⟨RX9, "copyFrom", "(LCradleDuel$Stand;)V"⟩
abbrev cX9_isDuel : ByteArray := prog_11_method_3_code
def yX9_isDuel : MethodName := ⟨RX9, "isDuel", "()Z"⟩
abbrev cX9_whoSings : ByteArray := prog_11_method_4_code
def yX9_whoSings : MethodName := ⟨RX9, "whoSings", "()I"⟩
abbrev cX9_whoHears : ByteArray := prog_11_method_5_code
def yX9_whoHears : MethodName := ⟨RX9, "whoHears", "()I"⟩
abbrev cX9_canBegin : ByteArray := prog_11_method_6_code
def yX9_canBegin : MethodName := ⟨RX9, "canBegin", "(I)Z"⟩
abbrev cX9_openDuel : ByteArray := prog_11_method_7_code
def yX9_openDuel : MethodName := ⟨RX9, "openDuel", "(III)V"⟩
abbrev cX9_closeDuel : ByteArray := prog_11_method_8_code
def yX9_closeDuel : MethodName := ⟨RX9, "closeDuel", "()V"⟩
abbrev cX9_passTurn : ByteArray := prog_11_method_9_code
def yX9_passTurn : MethodName := ⟨RX9, "passTurn", "()V"⟩
abbrev cX9_moveCows : ByteArray := prog_11_method_10_code
def yX9_moveCows : MethodName := ⟨RX9, "moveCows", "(II)V"⟩
def RX10 : String := "CradleDuel$Strangers"
def TX10 : u_T := fun k => match k with
  | 0 => ("CradleDuel$Strangers", "hills", "LCradleDuel$Hills;", true)
  | 1 => ("CradleDuel$Strangers", "singing", "LCradleDuel$Singing;", true)
  | _ => ("CradleDuel$Strangers", "left", "[I", true)
def tyX10 : Nat → FieldType := fun k => match k with
  | 0 => .object "CradleDuel$Hills"
  | 1 => .object "CradleDuel$Singing"
  | _ => .array .int
abbrev wsX100 : List Cond := u_ws RX10 TX10 3
theorem nmX10 : ∀ a, a < 3 → ∀ b, b < 3 → a ≠ b → (TX10 a).2.1 ≠ (TX10 b).2.1 := by decide +kernel
theorem tyX10_ok : ∀ k, k < 3 → parseFieldDescriptor (TX10 k).2.2.1 = some (tyX10 k) := by decide +kernel
abbrev cX10_init : ByteArray := prog_12_method_1_code
def yX10_init : MethodName := ⟨RX10, "<init>", "(LCradleDuel$Hills;LCradleDuel$Singing;)V"⟩
abbrev cX10_leastWake : ByteArray := prog_12_method_2_code
def yX10_leastWake : MethodName := ⟨RX10, "leastWake", "(I)I"⟩
abbrev cX10_greatestWake : ByteArray := prog_12_method_3_code
def yX10_greatestWake : MethodName := ⟨RX10, "greatestWake", "(I)I"⟩
abbrev cX10_howMany : ByteArray := prog_12_method_4_code
def yX10_howMany : MethodName := ⟨RX10, "howMany", "(I)I"⟩
abbrev cX10_nextVerse : ByteArray := prog_12_method_5_code
def yX10_nextVerse : MethodName := ⟨RX10, "nextVerse", "(II)I"⟩
abbrev cX10_hearAll : ByteArray := prog_12_method_6_code
def yX10_hearAll : MethodName := ⟨RX10, "hearAll", "(I)V"⟩
abbrev cX10_hearOne : ByteArray := prog_12_method_7_code
def yX10_hearOne : MethodName := ⟨RX10, "hearOne", "(Z)V"⟩
abbrev cX10_howManySleep : ByteArray := prog_12_method_8_code
def yX10_howManySleep : MethodName := ⟨RX10, "howManySleep", "()I"⟩
def RX11 : String := "CradleDuel$Sums"
def TX11 : u_T := fun k => match k with
  | 0 => ("CradleDuel$Sums", "word", "[I", true)
  | 1 => ("CradleDuel$Sums", "broken", "Z", false)
  | _ => ("CradleDuel$Sums", "stack", "[I", true)
def tyX11 : Nat → FieldType := fun k => match k with
  | 0 => .array .int
  | 1 => .boolean
  | _ => .array .int
abbrev wsX110 : List Cond := u_ws RX11 TX11 3
theorem nmX11 : ∀ a, a < 3 → ∀ b, b < 3 → a ≠ b → (TX11 a).2.1 ≠ (TX11 b).2.1 := by decide +kernel
theorem tyX11_ok : ∀ k, k < 3 → parseFieldDescriptor (TX11 k).2.2.1 = some (tyX11 k) := by decide +kernel
abbrev cX11_init : ByteArray := prog_13_method_1_code
def yX11_init : MethodName := ⟨RX11, "<init>", "()V"⟩
abbrev cX11_workOut : ByteArray := prog_13_method_2_code
def yX11_workOut : MethodName := ⟨RX11, "workOut", "(LCradleDuel$Script;I)I"⟩
def RX12 : String := "CradleDuel"
def TX12 : u_T := fun k => match k with
  | 0 => ("CradleDuel", "hills", "LCradleDuel$Hills;", true)
  | 1 => ("CradleDuel", "images", "[LCradleDuel$Hills;", true)
  | 2 => ("CradleDuel", "kept", "[Z", true)
  | 3 => ("CradleDuel", "singing", "LCradleDuel$Singing;", true)
  | 4 => ("CradleDuel", "deeds", "LCradleDuel$Deeds;", true)
  | 5 => ("CradleDuel", "orderRun", "LCradleDuel$OrderRun;", true)
  | 6 => ("CradleDuel", "reader", "LCradleDuel$Reader;", true)
  | 7 => ("CradleDuel", "paper", "LCradleDuel$Paper;", true)
  | 8 => ("CradleDuel", "latest", "LCradleDuel$Decade;", true)
  | 9 => ("CradleDuel", "making", "LCradleDuel$Making;", true)
  | 10 => ("CradleDuel", "strangers", "LCradleDuel$Strangers;", true)
  | 11 => ("CradleDuel", "tape", "[I", true)
  | 12 => ("CradleDuel", "refused", "[I", true)
  | 13 => ("CradleDuel", "tapeLength", "I", false)
  | 14 => ("CradleDuel", "faultPlace", "I", false)
  | 15 => ("CradleDuel", "coughCount", "I", false)
  | _ => ("CradleDuel", "lastStatus", "I", false)
def tyX12 : Nat → FieldType := fun k => match k with
  | 0 => .object "CradleDuel$Hills"
  | 1 => .array (.object "CradleDuel$Hills")
  | 2 => .array .boolean
  | 3 => .object "CradleDuel$Singing"
  | 4 => .object "CradleDuel$Deeds"
  | 5 => .object "CradleDuel$OrderRun"
  | 6 => .object "CradleDuel$Reader"
  | 7 => .object "CradleDuel$Paper"
  | 8 => .object "CradleDuel$Decade"
  | 9 => .object "CradleDuel$Making"
  | 10 => .object "CradleDuel$Strangers"
  | 11 => .array .int
  | 12 => .array .int
  | 13 => .int
  | 14 => .int
  | 15 => .int
  | _ => .int
abbrev wsX120 : List Cond := u_ws RX12 TX12 17
theorem nmX12 : ∀ a, a < 17 → ∀ b, b < 17 → a ≠ b → (TX12 a).2.1 ≠ (TX12 b).2.1 := by decide +kernel
theorem tyX12_ok : ∀ k, k < 17 → parseFieldDescriptor (TX12 k).2.2.1 = some (tyX12 k) := by decide +kernel
abbrev cX12_init : ByteArray := prog_1_method_1_code
def yX12_init : MethodName := ⟨RX12, "<init>", "()V"⟩
abbrev cX12_singer : ByteArray := prog_1_method_2_code
def yX12_singer : MethodName := ⟨RX12, "singer", "(III)I"⟩
abbrev cX12_of : ByteArray := prog_1_method_3_code
def yX12_of : MethodName := ⟨RX12, "of", "(II)I"⟩
abbrev cX12_verse : ByteArray := prog_1_method_4_code
def yX12_verse : MethodName := ⟨RX12, "verse", "(II)I"⟩
abbrev cX12_at : ByteArray := prog_1_method_5_code
def yX12_at : MethodName := ⟨RX12, "at", "(II)I"⟩
abbrev cX12_piece : ByteArray := prog_1_method_6_code
def yX12_piece : MethodName := ⟨RX12, "piece", "(III)I"⟩
abbrev cX12_hears : ByteArray := prog_1_method_7_code
def yX12_hears : MethodName := ⟨RX12, "hears", "(III)I"⟩
abbrev cX12_cows : ByteArray := prog_1_method_8_code
def yX12_cows : MethodName := ⟨RX12, "cows", "(II)I"⟩
abbrev cX12_terms : ByteArray := prog_1_method_9_code
def yX12_terms : MethodName := ⟨RX12, "terms", "(II)I"⟩
abbrev cX12_feed : ByteArray := prog_1_method_10_code
def yX12_feed : MethodName := ⟨RX12, "feed", "(IIIII)I"⟩
abbrev cX12_end : ByteArray := prog_1_method_11_code
def yX12_end : MethodName := ⟨RX12, "end", "(I)I"⟩
abbrev cX12_row : ByteArray := prog_1_method_12_code
def yX12_row : MethodName := ⟨RX12, "row", "()I"⟩
abbrev cX12_coughs : ByteArray := prog_1_method_13_code
def yX12_coughs : MethodName := ⟨RX12, "coughs", "()I"⟩
abbrev cX12_law : ByteArray := prog_1_method_14_code
def yX12_law : MethodName := ⟨RX12, "law", "()I"⟩
abbrev cX12_orders : ByteArray := prog_1_method_15_code
def yX12_orders : MethodName := ⟨RX12, "orders", "()I"⟩
abbrev cX12_fault : ByteArray := prog_1_method_16_code
def yX12_fault : MethodName := ⟨RX12, "fault", "()I"⟩
abbrev cX12_stopped : ByteArray := prog_1_method_17_code
def yX12_stopped : MethodName := ⟨RX12, "stopped", "()I"⟩
abbrev cX12_force : ByteArray := prog_1_method_18_code
def yX12_force : MethodName := ⟨RX12, "force", "(I)I"⟩
abbrev cX12_asks : ByteArray := prog_1_method_19_code
def yX12_asks : MethodName := ⟨RX12, "asks", "(II)I"⟩
abbrev cX12_wakes : ByteArray := prog_1_method_20_code
def yX12_wakes : MethodName := ⟨RX12, "wakes", "(I)I"⟩
abbrev cX12_begin : ByteArray := prog_1_method_21_code
def yX12_begin : MethodName := ⟨RX12, "begin", "(III)I"⟩
abbrev cX12_duel : ByteArray := prog_1_method_22_code
def yX12_duel : MethodName := ⟨RX12, "duel", "(I)I"⟩
abbrev cX12_sing : ByteArray := prog_1_method_23_code
def yX12_sing : MethodName := ⟨RX12, "sing", "(I)I"⟩
abbrev cX12_part : ByteArray := prog_1_method_24_code
def yX12_part : MethodName := ⟨RX12, "part", "()I"⟩
abbrev cX12_dawn : ByteArray := prog_1_method_25_code
def yX12_dawn : MethodName := ⟨RX12, "dawn", "()I"⟩
abbrev cX12_undo : ByteArray := prog_1_method_26_code
def yX12_undo : MethodName := ⟨RX12, "undo", "()I"⟩
abbrev cX12_game : ByteArray := prog_1_method_27_code
def yX12_game : MethodName := ⟨RX12, "game", "(II)I"⟩
abbrev cX12_saddle : ByteArray := prog_1_method_28_code
def yX12_saddle : MethodName := ⟨RX12, "saddle", "(III)I"⟩
abbrev cX12_rule : ByteArray := prog_1_method_29_code
def yX12_rule : MethodName := ⟨RX12, "rule", "(II)I"⟩
abbrev cX12_champions : ByteArray := prog_1_method_30_code
def yX12_champions : MethodName := ⟨RX12, "champions", "(I)I"⟩
abbrev cX12_made : ByteArray := prog_1_method_31_code
def yX12_made : MethodName := ⟨RX12, "made", "(II)I"⟩
abbrev cX12_sight : ByteArray := prog_1_method_32_code
def yX12_sight : MethodName := ⟨RX12, "sight", "(IIIII)I"⟩
abbrev cX12_forget : ByteArray := prog_1_method_33_code
def yX12_forget : MethodName := ⟨RX12, "forget", "()I"⟩
abbrev cX12_fits : ByteArray := prog_1_method_34_code
def yX12_fits : MethodName := ⟨RX12, "fits", "(II)I"⟩
abbrev cX12_catching : ByteArray := prog_1_method_35_code
def yX12_catching : MethodName := ⟨RX12, "catching", "(II)I"⟩
abbrev cX12_keep : ByteArray := prog_1_method_36_code
def yX12_keep : MethodName := ⟨RX12, "keep", "(III)I"⟩
abbrev cX12_decade : ByteArray := prog_1_method_37_code
def yX12_decade : MethodName := ⟨RX12, "decade", "(II)I"⟩
abbrev cX12_drawn : ByteArray := prog_1_method_38_code
def yX12_drawn : MethodName := ⟨RX12, "drawn", "(II)I"⟩
abbrev cX12_image : ByteArray := prog_1_method_39_code
def yX12_image : MethodName := ⟨RX12, "image", "(I)I"⟩
abbrev cX12_back : ByteArray := prog_1_method_40_code
def yX12_back : MethodName := ⟨RX12, "back", "(I)I"⟩
abbrev cX12_count : ByteArray := prog_1_method_41_code
def yX12_count : MethodName := ⟨RX12, "count", "(I)I"⟩
abbrev cX12_status : ByteArray := prog_1_method_42_code
def yX12_status : MethodName := ⟨RX12, "status", "()I"⟩
abbrev cX12_within : ByteArray := prog_1_method_43_code
def yX12_within : MethodName := ⟨RX12, "within", "(III)Z"⟩
abbrev cX12_pour : ByteArray := prog_1_method_44_code
def yX12_pour : MethodName := ⟨RX12, "pour", "(I)V"⟩
abbrev cX12_accept : ByteArray := prog_1_method_45_code
def yX12_accept : MethodName := ⟨RX12, "accept", "(I)I"⟩
abbrev cX12_refuse : ByteArray := prog_1_method_46_code
def yX12_refuse : MethodName := ⟨RX12, "refuse", "(I)I"⟩
abbrev cX12_tell : ByteArray := prog_1_method_47_code
def yX12_tell : MethodName := ⟨RX12, "tell", "(I)I"⟩
def RX13 : String := "CradleDuelModel"
def TX13 : u_T := fun k => match k with
  | 0 => ("CradleDuelModel", "thrown", "I", false)
  | 1 => ("CradleDuelModel", "status", "I", false)
  | 2 => ("CradleDuelModel", "refusals", "[I", true)
  | 3 => ("CradleDuelModel", "row", "[I", true)
  | 4 => ("CradleDuelModel", "images", "[I", true)
  | 5 => ("CradleDuelModel", "isKept", "[Z", true)
  | 6 => ("CradleDuelModel", "undos", "[I", true)
  | 7 => ("CradleDuelModel", "sorts", "[I", true)
  | 8 => ("CradleDuelModel", "nUndo", "I", false)
  | 9 => ("CradleDuelModel", "undosBefore", "[I", true)
  | 10 => ("CradleDuelModel", "sortsBefore", "[I", true)
  | 11 => ("CradleDuelModel", "coughs", "I", false)
  | 12 => ("CradleDuelModel", "tape", "[I", true)
  | 13 => ("CradleDuelModel", "taped", "I", false)
  | 14 => ("CradleDuelModel", "from", "I", false)
  | 15 => ("CradleDuelModel", "to", "I", false)
  | 16 => ("CradleDuelModel", "sort", "I", false)
  | 17 => ("CradleDuelModel", "worth", "J", false)
  | 18 => ("CradleDuelModel", "fault", "I", false)
  | 19 => ("CradleDuelModel", "bad", "Z", false)
  | 20 => ("CradleDuelModel", "ordered", "Z", false)
  | 21 => ("CradleDuelModel", "nClauses", "I", false)
  | 22 => ("CradleDuelModel", "nClause", "[I", true)
  | 23 => ("CradleDuelModel", "nCode", "I", false)
  | 24 => ("CradleDuelModel", "nOp", "[I", true)
  | 25 => ("CradleDuelModel", "nArg", "[I", true)
  | 26 => ("CradleDuelModel", "nLeaves", "I", false)
  | 27 => ("CradleDuelModel", "pile", "[I", true)
  | 28 => ("CradleDuelModel", "pileAt", "[I", true)
  | 29 => ("CradleDuelModel", "piled", "I", false)
  | 30 => ("CradleDuelModel", "opened", "I", false)
  | 31 => ("CradleDuelModel", "words", "[J", true)
  | 32 => ("CradleDuelModel", "orderWords", "[J", true)
  | 33 => ("CradleDuelModel", "heads", "[J", true)
  | 34 => ("CradleDuelModel", "law", "I", false)
  | 35 => ("CradleDuelModel", "set", "[J", true)
  | 36 => ("CradleDuelModel", "now", "[J", true)
  | 37 => ("CradleDuelModel", "rest", "[J", true)
  | 38 => ("CradleDuelModel", "broken", "Z", false)
  | 39 => ("CradleDuelModel", "value", "J", false)
  | 40 => ("CradleDuelModel", "sum", "J", false)
  | 41 => ("CradleDuelModel", "slept", "I", false)
  | 42 => ("CradleDuelModel", "woken", "[I", true)
  | 43 => ("CradleDuelModel", "tried", "[I", true)
  | 44 => ("CradleDuelModel", "best", "[I", true)
  | 45 => ("CradleDuelModel", "bestBy", "[I", true)
  | 46 => ("CradleDuelModel", "mover", "[I", true)
  | 47 => ("CradleDuelModel", "state", "J", false)
  | 48 => ("CradleDuelModel", "saddle", "[I", true)
  | 49 => ("CradleDuelModel", "results", "[I", true)
  | 50 => ("CradleDuelModel", "own", "[I", true)
  | 51 => ("CradleDuelModel", "champion", "[I", true)
  | 52 => ("CradleDuelModel", "bestRow", "[I", true)
  | 53 => ("CradleDuelModel", "won", "I", false)
  | 54 => ("CradleDuelModel", "lost", "I", false)
  | 55 => ("CradleDuelModel", "made", "[I", true)
  | 56 => ("CradleDuelModel", "bestMade", "[I", true)
  | 57 => ("CradleDuelModel", "nMade", "I", false)
  | 58 => ("CradleDuelModel", "strongest", "I", false)
  | 59 => ("CradleDuelModel", "lefts", "[I", true)
  | 60 => ("CradleDuelModel", "rounds", "I", false)
  | 61 => ("CradleDuelModel", "nOrder", "[I", true)
  | 62 => ("CradleDuelModel", "done", "I", false)
  | 63 => ("CradleDuelModel", "last", "I", false)
  | 64 => ("CradleDuelModel", "stopped", "I", false)
  | 65 => ("CradleDuelModel", "off", "Z", false)
  | 66 => ("CradleDuelModel", "drawnWake", "[I", true)
  | 67 => ("CradleDuelModel", "drawnCows", "[I", true)
  | 68 => ("CradleDuelModel", "drawnLost", "[I", true)
  | _ => ("CradleDuelModel", "nDrawn", "I", false)
def tyX13 : Nat → FieldType := fun k => match k with
  | 0 => .int
  | 1 => .int
  | 2 => .array .int
  | 3 => .array .int
  | 4 => .array .int
  | 5 => .array .boolean
  | 6 => .array .int
  | 7 => .array .int
  | 8 => .int
  | 9 => .array .int
  | 10 => .array .int
  | 11 => .int
  | 12 => .array .int
  | 13 => .int
  | 14 => .int
  | 15 => .int
  | 16 => .int
  | 17 => .long
  | 18 => .int
  | 19 => .boolean
  | 20 => .boolean
  | 21 => .int
  | 22 => .array .int
  | 23 => .int
  | 24 => .array .int
  | 25 => .array .int
  | 26 => .int
  | 27 => .array .int
  | 28 => .array .int
  | 29 => .int
  | 30 => .int
  | 31 => .array .long
  | 32 => .array .long
  | 33 => .array .long
  | 34 => .int
  | 35 => .array .long
  | 36 => .array .long
  | 37 => .array .long
  | 38 => .boolean
  | 39 => .long
  | 40 => .long
  | 41 => .int
  | 42 => .array .int
  | 43 => .array .int
  | 44 => .array .int
  | 45 => .array .int
  | 46 => .array .int
  | 47 => .long
  | 48 => .array .int
  | 49 => .array .int
  | 50 => .array .int
  | 51 => .array .int
  | 52 => .array .int
  | 53 => .int
  | 54 => .int
  | 55 => .array .int
  | 56 => .array .int
  | 57 => .int
  | 58 => .int
  | 59 => .array .int
  | 60 => .int
  | 61 => .array .int
  | 62 => .int
  | 63 => .int
  | 64 => .int
  | 65 => .boolean
  | 66 => .array .int
  | 67 => .array .int
  | 68 => .array .int
  | _ => .int
abbrev wsX130 : List Cond := u_ws RX13 TX13 70
theorem nmX13 : ∀ a, a < 70 → ∀ b, b < 70 → a ≠ b → (TX13 a).2.1 ≠ (TX13 b).2.1 := by decide +kernel
theorem tyX13_ok : ∀ k, k < 70 → parseFieldDescriptor (TX13 k).2.2.1 = some (tyX13 k) := by decide +kernel
abbrev cX13_init : ByteArray := prog_15_method_1_code
def yX13_init : MethodName := ⟨RX13, "<init>", "()V"⟩
abbrev cX13_in : ByteArray := prog_15_method_3_code
def yX13_in : MethodName := ⟨RX13, "in", "(JJJ)Z"⟩
abbrev cX13_is : ByteArray := prog_15_method_4_code
def yX13_is : MethodName := ⟨RX13, "is", "(II)Z"⟩
abbrev cX13_ones : ByteArray := prog_15_method_5_code
def yX13_ones : MethodName := ⟨RX13, "ones", "(I)I"⟩
abbrev cX13_within : ByteArray := prog_15_method_6_code
def yX13_within : MethodName := ⟨RX13, "within", "(JII)I"⟩
abbrev cX13_tell : ByteArray := prog_15_method_7_code
def yX13_tell : MethodName := ⟨RX13, "tell", "(I)I"⟩
abbrev cX13_change : ByteArray := prog_15_method_8_code
def yX13_change : MethodName := ⟨RX13, "change", "(II)I"⟩
abbrev cX13_keepAll : ByteArray := prog_15_method_9_code
def yX13_keepAll : MethodName := ⟨RX13, "keepAll", "(I)V"⟩
abbrev cX13_putBack : ByteArray := prog_15_method_10_code
def yX13_putBack : MethodName := ⟨RX13, "putBack", "(I)V"⟩
abbrev cX13_remember : ByteArray := prog_15_method_11_code
def yX13_remember : MethodName := ⟨RX13, "remember", "(I)V"⟩
abbrev cX13_undo : ByteArray := prog_15_method_12_code
def yX13_undo : MethodName := ⟨RX13, "undo", "()I"⟩
abbrev cX13_image : ByteArray := prog_15_method_13_code
def yX13_image : MethodName := ⟨RX13, "image", "(I)I"⟩
abbrev cX13_back : ByteArray := prog_15_method_14_code
def yX13_back : MethodName := ⟨RX13, "back", "(I)I"⟩
abbrev cX13_term : ByteArray := prog_15_method_15_code
def yX13_term : MethodName := ⟨RX13, "term", "(I)I"⟩
abbrev cX13_inDuel : ByteArray := prog_15_method_16_code
def yX13_inDuel : MethodName := ⟨RX13, "inDuel", "(I)I"⟩
abbrev cX13_isDuel : ByteArray := prog_15_method_17_code
def yX13_isDuel : MethodName := ⟨RX13, "isDuel", "()Z"⟩
abbrev cX13_endDuel : ByteArray := prog_15_method_18_code
def yX13_endDuel : MethodName := ⟨RX13, "endDuel", "()V"⟩
abbrev cX13_ofSinger : ByteArray := prog_15_method_19_code
def yX13_ofSinger : MethodName := ⟨RX13, "ofSinger", "(II)I"⟩
abbrev cX13_setWake : ByteArray := prog_15_method_20_code
def yX13_setWake : MethodName := ⟨RX13, "setWake", "(II)V"⟩
abbrev cX13_isSinger : ByteArray := prog_15_method_21_code
def yX13_isSinger : MethodName := ⟨RX13, "isSinger", "(I)Z"⟩
abbrev cX13_isVerse : ByteArray := prog_15_method_22_code
def yX13_isVerse : MethodName := ⟨RX13, "isVerse", "(I)Z"⟩
abbrev cX13_singer : ByteArray := prog_15_method_23_code
def yX13_singer : MethodName := ⟨RX13, "singer", "(III)I"⟩
abbrev cX13_of : ByteArray := prog_15_method_24_code
def yX13_of : MethodName := ⟨RX13, "of", "(II)I"⟩
abbrev cX13_verse1 : ByteArray := prog_15_method_25_code
def yX13_verse1 : MethodName := ⟨RX13, "verse1", "(II)I"⟩
abbrev cX13_verse : ByteArray := prog_15_method_26_code
def yX13_verse : MethodName := ⟨RX13, "verse", "(II)I"⟩
abbrev cX13_at : ByteArray := prog_15_method_27_code
def yX13_at : MethodName := ⟨RX13, "at", "(II)I"⟩
abbrev cX13_piece : ByteArray := prog_15_method_28_code
def yX13_piece : MethodName := ⟨RX13, "piece", "(III)I"⟩
abbrev cX13_hears : ByteArray := prog_15_method_29_code
def yX13_hears : MethodName := ⟨RX13, "hears", "(III)I"⟩
abbrev cX13_cows : ByteArray := prog_15_method_30_code
def yX13_cows : MethodName := ⟨RX13, "cows", "(II)I"⟩
abbrev cX13_terms : ByteArray := prog_15_method_31_code
def yX13_terms : MethodName := ⟨RX13, "terms", "(II)I"⟩
abbrev cX13_row : ByteArray := prog_15_method_32_code
def yX13_row : MethodName := ⟨RX13, "row", "()I"⟩
abbrev cX13_coughs : ByteArray := prog_15_method_33_code
def yX13_coughs : MethodName := ⟨RX13, "coughs", "()I"⟩
abbrev cX13_four : ByteArray := prog_15_method_34_code
def yX13_four : MethodName := ⟨RX13, "four", "(I)V"⟩
abbrev cX13_feed : ByteArray := prog_15_method_35_code
def yX13_feed : MethodName := ⟨RX13, "feed", "(IIIII)I"⟩
abbrev cX13_end : ByteArray := prog_15_method_36_code
def yX13_end : MethodName := ⟨RX13, "end", "(I)I"⟩
abbrev cX13_isSmall : ByteArray := prog_15_method_37_code
def yX13_isSmall : MethodName := ⟨RX13, "isSmall", "(I)Z"⟩
abbrev cX13_isDigit : ByteArray := prog_15_method_38_code
def yX13_isDigit : MethodName := ⟨RX13, "isDigit", "(I)Z"⟩
abbrev cX13_begin1 : ByteArray := prog_15_method_39_code
def yX13_begin1 : MethodName := ⟨RX13, "begin1", "()V"⟩
abbrev cX13_next : ByteArray := prog_15_method_40_code
def yX13_next : MethodName := ⟨RX13, "next", "()V"⟩
abbrev cX13_isWord : ByteArray := prog_15_method_41_code
def yX13_isWord : MethodName := ⟨RX13, "isWord", "(J)Z"⟩
abbrev cX13_isSign : ByteArray := prog_15_method_42_code
def yX13_isSign : MethodName := ⟨RX13, "isSign", "(I)Z"⟩
abbrev cX13_must : ByteArray := prog_15_method_43_code
def yX13_must : MethodName := ⟨RX13, "must", "(Z)V"⟩
abbrev cX13_number : ByteArray := prog_15_method_44_code
def yX13_number : MethodName := ⟨RX13, "number", "(JJ)I"⟩
abbrev cX13_fault : ByteArray := prog_15_method_45_code
def yX13_fault : MethodName := ⟨RX13, "fault", "()I"⟩
abbrev cX13_emit : ByteArray := prog_15_method_46_code
def yX13_emit : MethodName := ⟨RX13, "emit", "(II)V"⟩
abbrev cX13_push : ByteArray := prog_15_method_47_code
def yX13_push : MethodName := ⟨RX13, "push", "(II)V"⟩
abbrev cX13_binds : ByteArray := prog_15_method_48_code
def yX13_binds : MethodName := ⟨RX13, "binds", "(I)I"⟩
abbrev cX13_settle : ByteArray := prog_15_method_49_code
def yX13_settle : MethodName := ⟨RX13, "settle", "(I)V"⟩
abbrev cX13_inner : ByteArray := prog_15_method_50_code
def yX13_inner : MethodName := ⟨RX13, "inner", "()I"⟩
abbrev cX13_isCompared : ByteArray := prog_15_method_51_code
def yX13_isCompared : MethodName := ⟨RX13, "isCompared", "()Z"⟩
abbrev cX13_partAt : ByteArray := prog_15_method_52_code
def yX13_partAt : MethodName := ⟨RX13, "partAt", "()I"⟩
abbrev cX13_orderPartAt : ByteArray := prog_15_method_53_code
def yX13_orderPartAt : MethodName := ⟨RX13, "orderPartAt", "()I"⟩
abbrev cX13_openBracket : ByteArray := prog_15_method_54_code
def yX13_openBracket : MethodName := ⟨RX13, "openBracket", "(I)V"⟩
abbrev cX13_leaf : ByteArray := prog_15_method_55_code
def yX13_leaf : MethodName := ⟨RX13, "leaf", "(ZII)V"⟩
abbrev cX13_readPart : ByteArray := prog_15_method_56_code
def yX13_readPart : MethodName := ⟨RX13, "readPart", "()I"⟩
abbrev cX13_readPlain : ByteArray := prog_15_method_57_code
def yX13_readPlain : MethodName := ⟨RX13, "readPlain", "()I"⟩
abbrev cX13_behindSum : ByteArray := prog_15_method_58_code
def yX13_behindSum : MethodName := ⟨RX13, "behindSum", "(Z)I"⟩
abbrev cX13_behindTest : ByteArray := prog_15_method_59_code
def yX13_behindTest : MethodName := ⟨RX13, "behindTest", "()I"⟩
abbrev cX13_readExpression : ByteArray := prog_15_method_60_code
def yX13_readExpression : MethodName := ⟨RX13, "readExpression", "(Z)V"⟩
abbrev cX13_beginText : ByteArray := prog_15_method_61_code
def yX13_beginText : MethodName := ⟨RX13, "beginText", "(Z)V"⟩
abbrev cX13_endText : ByteArray := prog_15_method_62_code
def yX13_endText : MethodName := ⟨RX13, "endText", "()V"⟩
abbrev cX13_readLaw : ByteArray := prog_15_method_63_code
def yX13_readLaw : MethodName := ⟨RX13, "readLaw", "()V"⟩
abbrev cX13_law : ByteArray := prog_15_method_64_code
def yX13_law : MethodName := ⟨RX13, "law", "()I"⟩
abbrev cX13_force : ByteArray := prog_15_method_65_code
def yX13_force : MethodName := ⟨RX13, "force", "(I)I"⟩
abbrev cX13_reckon : ByteArray := prog_15_method_66_code
def yX13_reckon : MethodName := ⟨RX13, "reckon", "(IJJ)J"⟩
abbrev cX13_reckonAll : ByteArray := prog_15_method_67_code
def yX13_reckonAll : MethodName := ⟨RX13, "reckonAll", "(II)V"⟩
abbrev cX13_isSo : ByteArray := prog_15_method_68_code
def yX13_isSo : MethodName := ⟨RX13, "isSo", "(I)Z"⟩
abbrev cX13_tells : ByteArray := prog_15_method_69_code
def yX13_tells : MethodName := ⟨RX13, "tells", "(IJ)J"⟩
abbrev cX13_setSung : ByteArray := prog_15_method_70_code
def yX13_setSung : MethodName := ⟨RX13, "setSung", "(IIIIII)V"⟩
abbrev cX13_lullsSet : ByteArray := prog_15_method_71_code
def yX13_lullsSet : MethodName := ⟨RX13, "lullsSet", "()I"⟩
abbrev cX13_tiresSet : ByteArray := prog_15_method_72_code
def yX13_tiresSet : MethodName := ⟨RX13, "tiresSet", "()I"⟩
abbrev cX13_isBarredSet : ByteArray := prog_15_method_73_code
def yX13_isBarredSet : MethodName := ⟨RX13, "isBarredSet", "()Z"⟩
abbrev cX13_wakesOf : ByteArray := prog_15_method_74_code
def yX13_wakesOf : MethodName := ⟨RX13, "wakesOf", "(I)I"⟩
abbrev cX13_listener : ByteArray := prog_15_method_75_code
def yX13_listener : MethodName := ⟨RX13, "listener", "()I"⟩
abbrev cX13_layVerse : ByteArray := prog_15_method_76_code
def yX13_layVerse : MethodName := ⟨RX13, "layVerse", "(I)V"⟩
abbrev cX13_asks : ByteArray := prog_15_method_77_code
def yX13_asks : MethodName := ⟨RX13, "asks", "(II)I"⟩
abbrev cX13_wakes : ByteArray := prog_15_method_78_code
def yX13_wakes : MethodName := ⟨RX13, "wakes", "(I)I"⟩
abbrev cX13_layDuel : ByteArray := prog_15_method_79_code
def yX13_layDuel : MethodName := ⟨RX13, "layDuel", "(III)V"⟩
abbrev cX13_beginNow : ByteArray := prog_15_method_80_code
def yX13_beginNow : MethodName := ⟨RX13, "beginNow", "(III)I"⟩
abbrev cX13_isUp : ByteArray := prog_15_method_81_code
def yX13_isUp : MethodName := ⟨RX13, "isUp", "(I)Z"⟩
abbrev cX13_begin : ByteArray := prog_15_method_82_code
def yX13_begin : MethodName := ⟨RX13, "begin", "(III)I"⟩
abbrev cX13_duel : ByteArray := prog_15_method_83_code
def yX13_duel : MethodName := ⟨RX13, "duel", "(I)I"⟩
abbrev cX13_giveCows : ByteArray := prog_15_method_84_code
def yX13_giveCows : MethodName := ⟨RX13, "giveCows", "(II)V"⟩
abbrev cX13_singIt : ByteArray := prog_15_method_85_code
def yX13_singIt : MethodName := ⟨RX13, "singIt", "(I)I"⟩
abbrev cX13_singNow : ByteArray := prog_15_method_86_code
def yX13_singNow : MethodName := ⟨RX13, "singNow", "(I)I"⟩
abbrev cX13_sing : ByteArray := prog_15_method_87_code
def yX13_sing : MethodName := ⟨RX13, "sing", "(I)I"⟩
abbrev cX13_partNow : ByteArray := prog_15_method_88_code
def yX13_partNow : MethodName := ⟨RX13, "partNow", "()I"⟩
abbrev cX13_part : ByteArray := prog_15_method_89_code
def yX13_part : MethodName := ⟨RX13, "part", "()I"⟩
abbrev cX13_dawnIt : ByteArray := prog_15_method_90_code
def yX13_dawnIt : MethodName := ⟨RX13, "dawnIt", "()I"⟩
abbrev cX13_dawnNow : ByteArray := prog_15_method_91_code
def yX13_dawnNow : MethodName := ⟨RX13, "dawnNow", "()I"⟩
abbrev cX13_dawn : ByteArray := prog_15_method_92_code
def yX13_dawn : MethodName := ⟨RX13, "dawn", "()I"⟩
abbrev cX13_seenBy : ByteArray := prog_15_method_93_code
def yX13_seenBy : MethodName := ⟨RX13, "seenBy", "(II)I"⟩
abbrev cX13_openLevel : ByteArray := prog_15_method_94_code
def yX13_openLevel : MethodName := ⟨RX13, "openLevel", "(I)V"⟩
abbrev cX13_weigh : ByteArray := prog_15_method_95_code
def yX13_weigh : MethodName := ⟨RX13, "weigh", "(II)V"⟩
abbrev cX13_canSing : ByteArray := prog_15_method_96_code
def yX13_canSing : MethodName := ⟨RX13, "canSing", "(I)Z"⟩
abbrev cX13_play : ByteArray := prog_15_method_97_code
def yX13_play : MethodName := ⟨RX13, "play", "(I)V"⟩
abbrev cX13_game : ByteArray := prog_15_method_98_code
def yX13_game : MethodName := ⟨RX13, "game", "(II)I"⟩
abbrev cX13_draw : ByteArray := prog_15_method_99_code
def yX13_draw : MethodName := ⟨RX13, "draw", "(I)I"⟩
abbrev cX13_loudest : ByteArray := prog_15_method_100_code
def yX13_loudest : MethodName := ⟨RX13, "loudest", "()I"⟩
abbrev cX13_drawVerse : ByteArray := prog_15_method_101_code
def yX13_drawVerse : MethodName := ⟨RX13, "drawVerse", "()I"⟩
abbrev cX13_result : ByteArray := prog_15_method_102_code
def yX13_result : MethodName := ⟨RX13, "result", "(IIIII)I"⟩
abbrev cX13_resultOnPaper : ByteArray := prog_15_method_103_code
def yX13_resultOnPaper : MethodName := ⟨RX13, "resultOnPaper", "(IIII)I"⟩
abbrev cX13_areFoes : ByteArray := prog_15_method_104_code
def yX13_areFoes : MethodName := ⟨RX13, "areFoes", "(II)Z"⟩
abbrev cX13_saddle : ByteArray := prog_15_method_105_code
def yX13_saddle : MethodName := ⟨RX13, "saddle", "(III)I"⟩
abbrev cX13_rule : ByteArray := prog_15_method_106_code
def yX13_rule : MethodName := ⟨RX13, "rule", "(II)I"⟩
abbrev cX13_weighRow : ByteArray := prog_15_method_107_code
def yX13_weighRow : MethodName := ⟨RX13, "weighRow", "(I)V"⟩
abbrev cX13_isSpare : ByteArray := prog_15_method_108_code
def yX13_isSpare : MethodName := ⟨RX13, "isSpare", "(I)Z"⟩
abbrev cX13_findChampions : ByteArray := prog_15_method_109_code
def yX13_findChampions : MethodName := ⟨RX13, "findChampions", "()I"⟩
abbrev cX13_champions : ByteArray := prog_15_method_110_code
def yX13_champions : MethodName := ⟨RX13, "champions", "(I)I"⟩
abbrev cX13_ofPiece : ByteArray := prog_15_method_111_code
def yX13_ofPiece : MethodName := ⟨RX13, "ofPiece", "(II)I"⟩
abbrev cX13_weighMade : ByteArray := prog_15_method_112_code
def yX13_weighMade : MethodName := ⟨RX13, "weighMade", "(II)Z"⟩
abbrev cX13_made : ByteArray := prog_15_method_113_code
def yX13_made : MethodName := ⟨RX13, "made", "(II)I"⟩
abbrev cX13_sight : ByteArray := prog_15_method_114_code
def yX13_sight : MethodName := ⟨RX13, "sight", "(IIIII)I"⟩
abbrev cX13_forget : ByteArray := prog_15_method_115_code
def yX13_forget : MethodName := ⟨RX13, "forget", "()I"⟩
abbrev cX13_leftBy : ByteArray := prog_15_method_116_code
def yX13_leftBy : MethodName := ⟨RX13, "leftBy", "(IIIIII)I"⟩
abbrev cX13_leftOf : ByteArray := prog_15_method_117_code
def yX13_leftOf : MethodName := ⟨RX13, "leftOf", "(II)I"⟩
abbrev cX13_nextVerse : ByteArray := prog_15_method_118_code
def yX13_nextVerse : MethodName := ⟨RX13, "nextVerse", "(II)I"⟩
abbrev cX13_fits : ByteArray := prog_15_method_119_code
def yX13_fits : MethodName := ⟨RX13, "fits", "(II)I"⟩
abbrev cX13_caught : ByteArray := prog_15_method_120_code
def yX13_caught : MethodName := ⟨RX13, "caught", "(II)I"⟩
abbrev cX13_catching : ByteArray := prog_15_method_121_code
def yX13_catching : MethodName := ⟨RX13, "catching", "(II)I"⟩
abbrev cX13_keep : ByteArray := prog_15_method_122_code
def yX13_keep : MethodName := ⟨RX13, "keep", "(III)I"⟩
abbrev cX13_readSum : ByteArray := prog_15_method_123_code
def yX13_readSum : MethodName := ⟨RX13, "readSum", "(I)V"⟩
abbrev cX13_readBehind : ByteArray := prog_15_method_124_code
def yX13_readBehind : MethodName := ⟨RX13, "readBehind", "(IJ)V"⟩
abbrev cX13_readOrder : ByteArray := prog_15_method_125_code
def yX13_readOrder : MethodName := ⟨RX13, "readOrder", "()V"⟩
abbrev cX13_sumOf : ByteArray := prog_15_method_126_code
def yX13_sumOf : MethodName := ⟨RX13, "sumOf", "(I)I"⟩
abbrev cX13_run : ByteArray := prog_15_method_127_code
def yX13_run : MethodName := ⟨RX13, "run", "(I)I"⟩
abbrev cX13_orders : ByteArray := prog_15_method_128_code
def yX13_orders : MethodName := ⟨RX13, "orders", "()I"⟩
abbrev cX13_giveBack : ByteArray := prog_15_method_129_code
def yX13_giveBack : MethodName := ⟨RX13, "giveBack", "(I)V"⟩
abbrev cX13_stopped : ByteArray := prog_15_method_130_code
def yX13_stopped : MethodName := ⟨RX13, "stopped", "()I"⟩
abbrev cX13_manyOf : ByteArray := prog_15_method_131_code
def yX13_manyOf : MethodName := ⟨RX13, "manyOf", "(I)I"⟩
abbrev cX13_drawSinger : ByteArray := prog_15_method_132_code
def yX13_drawSinger : MethodName := ⟨RX13, "drawSinger", "(I)I"⟩
abbrev cX13_decade : ByteArray := prog_15_method_133_code
def yX13_decade : MethodName := ⟨RX13, "decade", "(II)I"⟩
abbrev cX13_drawn : ByteArray := prog_15_method_134_code
def yX13_drawn : MethodName := ⟨RX13, "drawn", "(II)I"⟩
abbrev cX13_count : ByteArray := prog_15_method_135_code
def yX13_count : MethodName := ⟨RX13, "count", "(I)I"⟩
abbrev cX13_status : ByteArray := prog_15_method_136_code
def yX13_status : MethodName := ⟨RX13, "status", "()I"⟩
def RJx145de : String := "java/io/Serializable"
def TJx145de : u_T := fun k => match k with
  | _ => ("", "", "", false)
def tyJx145de : Nat → FieldType := fun k => match k with
  | _ => .int
abbrev wsJx145de0 : List Cond := u_ws RJx145de TJx145de 0
def RJx9f9b0 : String := "java/lang/CharSequence"
def TJx9f9b0 : u_T := fun k => match k with
  | _ => ("", "", "", false)
def tyJx9f9b0 : Nat → FieldType := fun k => match k with
  | _ => .int
abbrev wsJx9f9b00 : List Cond := u_ws RJx9f9b0 TJx9f9b0 0
def RJxb160c : String := "java/lang/Comparable"
def TJxb160c : u_T := fun k => match k with
  | _ => ("", "", "", false)
def tyJxb160c : Nat → FieldType := fun k => match k with
  | _ => .int
abbrev wsJxb160c0 : List Cond := u_ws RJxb160c TJxb160c 0
def RJ6 : String := "java/lang/Integer"
def TJ6 : u_T := fun k => match k with
  | _ => ("", "", "", false)
def tyJ6 : Nat → FieldType := fun k => match k with
  | _ => .int
abbrev wsJ60 : List Cond := u_ws RJ6 TJ6 0
abbrev cJ6_bitCount_0f7a4 : ByteArray := prog_16_method_49_code
def yJ6_bitCount_0f7a4 : MethodName := ⟨RJ6, "bitCount", "(I)I"⟩
def RJ9 : String := "java/lang/Math"
def TJ9 : u_T := fun k => match k with
  | _ => ("", "", "", false)
def tyJ9 : Nat → FieldType := fun k => match k with
  | _ => .int
abbrev wsJ90 : List Cond := u_ws RJ9 TJ9 0
abbrev cJ9_abs_0f7a4 : ByteArray := prog_17_method_59_code
def yJ9_abs_0f7a4 : MethodName := ⟨RJ9, "abs", "(I)I"⟩
abbrev cJ9_max_7cf53 : ByteArray := prog_17_method_65_code
def yJ9_max_7cf53 : MethodName := ⟨RJ9, "max", "(II)I"⟩
abbrev cJ9_min_7cf53 : ByteArray := prog_17_method_69_code
def yJ9_min_7cf53 : MethodName := ⟨RJ9, "min", "(II)I"⟩
def RL : String := "CradleDuelLaw"
def RJ0 : String := "java/lang/String"
abbrev cJ0_length_8abf5 : ByteArray := prog_18_method_54_code
def yJ0_length_8abf5 : MethodName := ⟨RJ0, "length", "()I"⟩
abbrev cJ0_charAt_5068e : ByteArray := prog_18_method_56_code
def yJ0_charAt_5068e : MethodName := ⟨RJ0, "charAt", "(I)C"⟩
abbrev cJ0_coder_7d493 : ByteArray := prog_18_method_152_code
def yJ0_coder_7d493 : MethodName := ⟨RJ0, "coder", "()B"⟩
abbrev cJ0_isLatin1_aae02 : ByteArray := prog_18_method_154_code
def yJ0_isLatin1_aae02 : MethodName := ⟨RJ0, "isLatin1", "()Z"⟩
abbrev cJ0_checkIndex_df160 : ByteArray := prog_18_method_155_code
def yJ0_checkIndex_df160 : MethodName := ⟨RJ0, "checkIndex", "(II)V"⟩
def RJ1 : String := "java/lang/StringLatin1"
abbrev cJ1_charAt_3b067 : ByteArray := prog_19_method_2_code
def yJ1_charAt_3b067 : MethodName := ⟨RJ1, "charAt", "([BI)C"⟩
def RJ2 : String := "java/lang/StringUTF16"
abbrev cJ2_getChar_3b067 : ByteArray := prog_20_method_5_code
def yJ2_getChar_3b067 : MethodName := ⟨RJ2, "getChar", "([BI)C"⟩
abbrev cJ2_length_9d52b : ByteArray := prog_20_method_6_code
def yJ2_length_9d52b : MethodName := ⟨RJ2, "length", "([B)I"⟩
abbrev cJ2_charAt_3b067 : ByteArray := prog_20_method_83_code
def yJ2_charAt_3b067 : MethodName := ⟨RJ2, "charAt", "([BI)C"⟩
abbrev cJ2_checkIndex_2214a : ByteArray := prog_20_method_91_code
def yJ2_checkIndex_2214a : MethodName := ⟨RJ2, "checkIndex", "(I[B)V"⟩
def RJ10 : String := "java/lang/System"
def RJ7 : String := "java/util/Arrays"
abbrev cJ7_fill_53178 : ByteArray := prog_22_method_103_code
def yJ7_fill_53178 : MethodName := ⟨RJ7, "fill", "([II)V"⟩
def RJ3 : String := "jdk/internal/util/Preconditions"
abbrev cJ3_checkIndex_8e157 : ByteArray := prog_23_method_11_code
def yJ3_checkIndex_8e157 : MethodName := ⟨RJ3, "checkIndex", "(IILjava/util/function/BiFunction;)I"⟩
abbrev vwCl : List vw_C := [(RX0, TX0, 7), (RX1, TX1, 11), (RX2, TX2, 20), (RX3, TX3, 5), (RX4, TX4, 6), (RX5, TX5, 11), (RX6, TX6, 11), (RX7, TX7, 10), (RX8, TX8, 3), (RX9, TX9, 11), (RX10, TX10, 3), (RX11, TX11, 3), (RX12, TX12, 17), (RX13, TX13, 70)]
abbrev wd_9 := @arrayOver_alikeB
