section
-- ===== PART A: goes FIRST, ahead of the names: the tables' words, and 'selects' of the private methods out of them =====
/-- a private method of a class that the tables say can be made, by its rows of tables_1 -/
def lw_okq (q : MethodName × Nat) : Prop := (q.1.cls ≠ "java/lang/invoke/MethodHandle" ∧ q.1.cls ≠ "java/lang/invoke/VarHandle") ∧ Cond.instantiable q.1.cls q.2 ∈ tables_1 ∧ Cond.privateMethod q.1 ∈ tables_1 ∧ Cond.instanceMethod q.1 ∈ tables_1
theorem lw_p0 : lw_okq (⟨"java/lang/Throwable", "fillInStackTrace", "(I)Ljava/lang/Throwable;"⟩, 6) := ⟨⟨by decide +kernel, by decide +kernel⟩, List.mem_of_getElem? (i := 147) (by decide +kernel), List.mem_of_getElem? (i := 145) (by decide +kernel), List.mem_of_getElem? (i := 146) (by decide +kernel)⟩
theorem lw_p1 : lw_okq (⟨"ModedMill", "isTypeOrNone", "(I)Z"⟩, 9) := ⟨⟨by decide +kernel, by decide +kernel⟩, List.mem_of_getElem? (i := 47) (by decide +kernel), List.mem_of_getElem? (i := 740) (by decide +kernel), List.mem_of_getElem? (i := 741) (by decide +kernel)⟩
theorem lw_p2 : lw_okq (⟨"ModedMill$Terms", "fitsPart", "(III)Z"⟩, 5) := ⟨⟨by decide +kernel, by decide +kernel⟩, List.mem_of_getElem? (i := 55) (by decide +kernel), List.mem_of_getElem? (i := 803) (by decide +kernel), List.mem_of_getElem? (i := 804) (by decide +kernel)⟩
theorem lw_p3 : lw_okq (⟨"ModedMill$Terms", "find", "(III)I"⟩, 5) := ⟨⟨by decide +kernel, by decide +kernel⟩, List.mem_of_getElem? (i := 55) (by decide +kernel), List.mem_of_getElem? (i := 823) (by decide +kernel), List.mem_of_getElem? (i := 824) (by decide +kernel)⟩
theorem lw_p4 : lw_okq (⟨"ModedMill", "refuseMissingTerm", "(I)V"⟩, 9) := ⟨⟨by decide +kernel, by decide +kernel⟩, List.mem_of_getElem? (i := 47) (by decide +kernel), List.mem_of_getElem? (i := 842) (by decide +kernel), List.mem_of_getElem? (i := 843) (by decide +kernel)⟩
theorem lw_p5 : lw_okq (⟨"java/util/ArrayList", "add", "(Ljava/lang/Object;[Ljava/lang/Object;I)V"⟩, 3) := ⟨⟨by decide +kernel, by decide +kernel⟩, List.mem_of_getElem? (i := 461) (by decide +kernel), List.mem_of_getElem? (i := 971) (by decide +kernel), List.mem_of_getElem? (i := 972) (by decide +kernel)⟩
theorem lw_p6 : lw_okq (⟨"java/util/ArrayList", "grow", "()[Ljava/lang/Object;"⟩, 3) := ⟨⟨by decide +kernel, by decide +kernel⟩, List.mem_of_getElem? (i := 461) (by decide +kernel), List.mem_of_getElem? (i := 975) (by decide +kernel), List.mem_of_getElem? (i := 976) (by decide +kernel)⟩
theorem lw_p7 : lw_okq (⟨"java/util/ArrayList", "grow", "(I)[Ljava/lang/Object;"⟩, 3) := ⟨⟨by decide +kernel, by decide +kernel⟩, List.mem_of_getElem? (i := 461) (by decide +kernel), List.mem_of_getElem? (i := 979) (by decide +kernel), List.mem_of_getElem? (i := 980) (by decide +kernel)⟩
theorem lw_p8 : lw_okq (⟨"ModedMill", "addGoal", "(LModedMill$Clause;LModedMill$Goal;III)I"⟩, 9) := ⟨⟨by decide +kernel, by decide +kernel⟩, List.mem_of_getElem? (i := 47) (by decide +kernel), List.mem_of_getElem? (i := 1206) (by decide +kernel), List.mem_of_getElem? (i := 1207) (by decide +kernel)⟩
theorem lw_p9 : lw_okq (⟨"ModedMill$Program", "putInOrder", "(LModedMill$Mode;)Z"⟩, 3) := ⟨⟨by decide +kernel, by decide +kernel⟩, List.mem_of_getElem? (i := 455) (by decide +kernel), List.mem_of_getElem? (i := 1271) (by decide +kernel), List.mem_of_getElem? (i := 1272) (by decide +kernel)⟩
theorem lw_p10 : lw_okq (⟨"ModedMill$Program", "putClauseInOrder", "(LModedMill$Clause;LModedMill$Mode;)Z"⟩, 3) := ⟨⟨by decide +kernel, by decide +kernel⟩, List.mem_of_getElem? (i := 455) (by decide +kernel), List.mem_of_getElem? (i := 1285) (by decide +kernel), List.mem_of_getElem? (i := 1286) (by decide +kernel)⟩
theorem lw_p11 : lw_okq (⟨"ModedMill$Program", "nextGoal", "(LModedMill$Clause;II)I"⟩, 3) := ⟨⟨by decide +kernel, by decide +kernel⟩, List.mem_of_getElem? (i := 455) (by decide +kernel), List.mem_of_getElem? (i := 1294) (by decide +kernel), List.mem_of_getElem? (i := 1295) (by decide +kernel)⟩
theorem lw_p12 : lw_okq (⟨"ModedMill$Program", "chooseMode", "(LModedMill$Goal;I)LModedMill$Mode;"⟩, 3) := ⟨⟨by decide +kernel, by decide +kernel⟩, List.mem_of_getElem? (i := 455) (by decide +kernel), List.mem_of_getElem? (i := 1303) (by decide +kernel), List.mem_of_getElem? (i := 1304) (by decide +kernel)⟩
theorem lw_p13 : lw_okq (⟨"ModedMill$Clause", "slot", "(II)I"⟩, 9) := ⟨⟨by decide +kernel, by decide +kernel⟩, List.mem_of_getElem? (i := 1137) (by decide +kernel), List.mem_of_getElem? (i := 1341) (by decide +kernel), List.mem_of_getElem? (i := 1342) (by decide +kernel)⟩
theorem lw_p14 : lw_okq (⟨"ModedMill$Program", "spreadFaults", "()Z"⟩, 3) := ⟨⟨by decide +kernel, by decide +kernel⟩, List.mem_of_getElem? (i := 455) (by decide +kernel), List.mem_of_getElem? (i := 1354) (by decide +kernel), List.mem_of_getElem? (i := 1355) (by decide +kernel)⟩
theorem lw_p15 : lw_okq (⟨"ModedMill$Program", "spreadFound", "(LModedMill$Terms;)Z"⟩, 3) := ⟨⟨by decide +kernel, by decide +kernel⟩, List.mem_of_getElem? (i := 455) (by decide +kernel), List.mem_of_getElem? (i := 1366) (by decide +kernel), List.mem_of_getElem? (i := 1367) (by decide +kernel)⟩
def lw_privs_1 : List (MethodName × Nat) := [(⟨"java/lang/Throwable", "fillInStackTrace", "(I)Ljava/lang/Throwable;"⟩, 6), (⟨"ModedMill", "isTypeOrNone", "(I)Z"⟩, 9), (⟨"ModedMill$Terms", "fitsPart", "(III)Z"⟩, 5), (⟨"ModedMill$Terms", "find", "(III)I"⟩, 5), (⟨"ModedMill", "refuseMissingTerm", "(I)V"⟩, 9), (⟨"java/util/ArrayList", "add", "(Ljava/lang/Object;[Ljava/lang/Object;I)V"⟩, 3), (⟨"java/util/ArrayList", "grow", "()[Ljava/lang/Object;"⟩, 3), (⟨"java/util/ArrayList", "grow", "(I)[Ljava/lang/Object;"⟩, 3), (⟨"ModedMill", "addGoal", "(LModedMill$Clause;LModedMill$Goal;III)I"⟩, 9), (⟨"ModedMill$Program", "putInOrder", "(LModedMill$Mode;)Z"⟩, 3), (⟨"ModedMill$Program", "putClauseInOrder", "(LModedMill$Clause;LModedMill$Mode;)Z"⟩, 3), (⟨"ModedMill$Program", "nextGoal", "(LModedMill$Clause;II)I"⟩, 3), (⟨"ModedMill$Program", "chooseMode", "(LModedMill$Goal;I)LModedMill$Mode;"⟩, 3), (⟨"ModedMill$Clause", "slot", "(II)I"⟩, 9), (⟨"ModedMill$Program", "spreadFaults", "()Z"⟩, 3), (⟨"ModedMill$Program", "spreadFound", "(LModedMill$Terms;)Z"⟩, 3)]
theorem lw_r1 : ∀ q ∈ lw_privs_1, lw_okq q := List.forall_mem_cons.mpr ⟨lw_p0, List.forall_mem_cons.mpr ⟨lw_p1, List.forall_mem_cons.mpr ⟨lw_p2, List.forall_mem_cons.mpr ⟨lw_p3, List.forall_mem_cons.mpr ⟨lw_p4, List.forall_mem_cons.mpr ⟨lw_p5, List.forall_mem_cons.mpr ⟨lw_p6, List.forall_mem_cons.mpr ⟨lw_p7, List.forall_mem_cons.mpr ⟨lw_p8, List.forall_mem_cons.mpr ⟨lw_p9, List.forall_mem_cons.mpr ⟨lw_p10, List.forall_mem_cons.mpr ⟨lw_p11, List.forall_mem_cons.mpr ⟨lw_p12, List.forall_mem_cons.mpr ⟨lw_p13, List.forall_mem_cons.mpr ⟨lw_p14, List.forall_mem_cons.mpr ⟨lw_p15, fun _ h => absurd h List.not_mem_nil⟩⟩⟩⟩⟩⟩⟩⟩⟩⟩⟩⟩⟩⟩⟩⟩
theorem lw_p16 : lw_okq (⟨"ModedMill$Mode", "isBroken", "()Z"⟩, 9) := ⟨⟨by decide +kernel, by decide +kernel⟩, List.mem_of_getElem? (i := 1070) (by decide +kernel), List.mem_of_getElem? (i := 1406) (by decide +kernel), List.mem_of_getElem? (i := 1407) (by decide +kernel)⟩
theorem lw_p17 : lw_okq (⟨"ModedMill", "refuseUncompiled", "()V"⟩, 9) := ⟨⟨by decide +kernel, by decide +kernel⟩, List.mem_of_getElem? (i := 47) (by decide +kernel), List.mem_of_getElem? (i := 1417) (by decide +kernel), List.mem_of_getElem? (i := 1418) (by decide +kernel)⟩
theorem lw_p18 : lw_okq (⟨"ModedMill", "compiledMode", "(II)LModedMill$Mode;"⟩, 9) := ⟨⟨by decide +kernel, by decide +kernel⟩, List.mem_of_getElem? (i := 47) (by decide +kernel), List.mem_of_getElem? (i := 1428) (by decide +kernel), List.mem_of_getElem? (i := 1429) (by decide +kernel)⟩
theorem lw_p19 : lw_okq (⟨"ModedMill", "orderedClause", "(II)LModedMill$Clause;"⟩, 9) := ⟨⟨by decide +kernel, by decide +kernel⟩, List.mem_of_getElem? (i := 47) (by decide +kernel), List.mem_of_getElem? (i := 1469) (by decide +kernel), List.mem_of_getElem? (i := 1470) (by decide +kernel)⟩
theorem lw_p20 : lw_okq (⟨"ModedMill", "areInputsThere", "(LModedMill$Mode;III)Z"⟩, 9) := ⟨⟨by decide +kernel, by decide +kernel⟩, List.mem_of_getElem? (i := 47) (by decide +kernel), List.mem_of_getElem? (i := 1494) (by decide +kernel), List.mem_of_getElem? (i := 1495) (by decide +kernel)⟩
theorem lw_p21 : lw_okq (⟨"ModedMill", "doInputsFit", "(LModedMill$Mode;III)Z"⟩, 9) := ⟨⟨by decide +kernel, by decide +kernel⟩, List.mem_of_getElem? (i := 47) (by decide +kernel), List.mem_of_getElem? (i := 1500) (by decide +kernel), List.mem_of_getElem? (i := 1501) (by decide +kernel)⟩
theorem lw_p22 : lw_okq (⟨"ModedMill$Machine", "begin", "(LModedMill$Mode;LModedMill$Report;)V"⟩, 12) := ⟨⟨by decide +kernel, by decide +kernel⟩, List.mem_of_getElem? (i := 547) (by decide +kernel), List.mem_of_getElem? (i := 1520) (by decide +kernel), List.mem_of_getElem? (i := 1521) (by decide +kernel)⟩
theorem lw_p23 : lw_okq (⟨"ModedMill$Machine", "newFrame", "(LModedMill$Mode;LModedMill$Frame;)LModedMill$Frame;"⟩, 12) := ⟨⟨by decide +kernel, by decide +kernel⟩, List.mem_of_getElem? (i := 547) (by decide +kernel), List.mem_of_getElem? (i := 1525) (by decide +kernel), List.mem_of_getElem? (i := 1526) (by decide +kernel)⟩
theorem lw_p24 : lw_okq (⟨"ModedMill$Machine", "enter", "(LModedMill$Frame;)V"⟩, 12) := ⟨⟨by decide +kernel, by decide +kernel⟩, List.mem_of_getElem? (i := 547) (by decide +kernel), List.mem_of_getElem? (i := 1594) (by decide +kernel), List.mem_of_getElem? (i := 1595) (by decide +kernel)⟩
theorem lw_p25 : lw_okq (⟨"ModedMill$Machine", "firstClause", "(LModedMill$Frame;)LModedMill$Clause;"⟩, 12) := ⟨⟨by decide +kernel, by decide +kernel⟩, List.mem_of_getElem? (i := 547) (by decide +kernel), List.mem_of_getElem? (i := 1604) (by decide +kernel), List.mem_of_getElem? (i := 1605) (by decide +kernel)⟩
theorem lw_p26 : lw_okq (⟨"ModedMill$Machine", "tryClause", "(LModedMill$Frame;LModedMill$Clause;)V"⟩, 12) := ⟨⟨by decide +kernel, by decide +kernel⟩, List.mem_of_getElem? (i := 547) (by decide +kernel), List.mem_of_getElem? (i := 1618) (by decide +kernel), List.mem_of_getElem? (i := 1619) (by decide +kernel)⟩
theorem lw_p27 : lw_okq (⟨"ModedMill$Machine", "goBack", "()V"⟩, 12) := ⟨⟨by decide +kernel, by decide +kernel⟩, List.mem_of_getElem? (i := 547) (by decide +kernel), List.mem_of_getElem? (i := 1623) (by decide +kernel), List.mem_of_getElem? (i := 1624) (by decide +kernel)⟩
theorem lw_p28 : lw_okq (⟨"ModedMill$Machine", "frameAt", "(I)LModedMill$Frame;"⟩, 12) := ⟨⟨by decide +kernel, by decide +kernel⟩, List.mem_of_getElem? (i := 547) (by decide +kernel), List.mem_of_getElem? (i := 1628) (by decide +kernel), List.mem_of_getElem? (i := 1629) (by decide +kernel)⟩
theorem lw_p29 : lw_okq (⟨"ModedMill$Machine", "finish", "(C)V"⟩, 12) := ⟨⟨by decide +kernel, by decide +kernel⟩, List.mem_of_getElem? (i := 547) (by decide +kernel), List.mem_of_getElem? (i := 1632) (by decide +kernel), List.mem_of_getElem? (i := 1633) (by decide +kernel)⟩
theorem lw_p30 : lw_okq (⟨"ModedMill$Machine", "undo", "(I)V"⟩, 12) := ⟨⟨by decide +kernel, by decide +kernel⟩, List.mem_of_getElem? (i := 547) (by decide +kernel), List.mem_of_getElem? (i := 1636) (by decide +kernel), List.mem_of_getElem? (i := 1637) (by decide +kernel)⟩
theorem lw_p31 : lw_okq (⟨"ModedMill$Machine", "leave", "(LModedMill$Frame;)V"⟩, 12) := ⟨⟨by decide +kernel, by decide +kernel⟩, List.mem_of_getElem? (i := 547) (by decide +kernel), List.mem_of_getElem? (i := 1642) (by decide +kernel), List.mem_of_getElem? (i := 1643) (by decide +kernel)⟩
def lw_privs_2 : List (MethodName × Nat) := [(⟨"ModedMill$Mode", "isBroken", "()Z"⟩, 9), (⟨"ModedMill", "refuseUncompiled", "()V"⟩, 9), (⟨"ModedMill", "compiledMode", "(II)LModedMill$Mode;"⟩, 9), (⟨"ModedMill", "orderedClause", "(II)LModedMill$Clause;"⟩, 9), (⟨"ModedMill", "areInputsThere", "(LModedMill$Mode;III)Z"⟩, 9), (⟨"ModedMill", "doInputsFit", "(LModedMill$Mode;III)Z"⟩, 9), (⟨"ModedMill$Machine", "begin", "(LModedMill$Mode;LModedMill$Report;)V"⟩, 12), (⟨"ModedMill$Machine", "newFrame", "(LModedMill$Mode;LModedMill$Frame;)LModedMill$Frame;"⟩, 12), (⟨"ModedMill$Machine", "enter", "(LModedMill$Frame;)V"⟩, 12), (⟨"ModedMill$Machine", "firstClause", "(LModedMill$Frame;)LModedMill$Clause;"⟩, 12), (⟨"ModedMill$Machine", "tryClause", "(LModedMill$Frame;LModedMill$Clause;)V"⟩, 12), (⟨"ModedMill$Machine", "goBack", "()V"⟩, 12), (⟨"ModedMill$Machine", "frameAt", "(I)LModedMill$Frame;"⟩, 12), (⟨"ModedMill$Machine", "finish", "(C)V"⟩, 12), (⟨"ModedMill$Machine", "undo", "(I)V"⟩, 12), (⟨"ModedMill$Machine", "leave", "(LModedMill$Frame;)V"⟩, 12)]
theorem lw_r2 : ∀ q ∈ lw_privs_2, lw_okq q := List.forall_mem_cons.mpr ⟨lw_p16, List.forall_mem_cons.mpr ⟨lw_p17, List.forall_mem_cons.mpr ⟨lw_p18, List.forall_mem_cons.mpr ⟨lw_p19, List.forall_mem_cons.mpr ⟨lw_p20, List.forall_mem_cons.mpr ⟨lw_p21, List.forall_mem_cons.mpr ⟨lw_p22, List.forall_mem_cons.mpr ⟨lw_p23, List.forall_mem_cons.mpr ⟨lw_p24, List.forall_mem_cons.mpr ⟨lw_p25, List.forall_mem_cons.mpr ⟨lw_p26, List.forall_mem_cons.mpr ⟨lw_p27, List.forall_mem_cons.mpr ⟨lw_p28, List.forall_mem_cons.mpr ⟨lw_p29, List.forall_mem_cons.mpr ⟨lw_p30, List.forall_mem_cons.mpr ⟨lw_p31, fun _ h => absurd h List.not_mem_nil⟩⟩⟩⟩⟩⟩⟩⟩⟩⟩⟩⟩⟩⟩⟩⟩
theorem lw_p32 : lw_okq (⟨"ModedMill$Machine", "addAnswer", "(LModedMill$Frame;)V"⟩, 12) := ⟨⟨by decide +kernel, by decide +kernel⟩, List.mem_of_getElem? (i := 547) (by decide +kernel), List.mem_of_getElem? (i := 1646) (by decide +kernel), List.mem_of_getElem? (i := 1647) (by decide +kernel)⟩
theorem lw_p33 : lw_okq (⟨"ModedMill$Machine", "handsBack", "(LModedMill$Frame;LModedMill$Frame;)Z"⟩, 12) := ⟨⟨by decide +kernel, by decide +kernel⟩, List.mem_of_getElem? (i := 547) (by decide +kernel), List.mem_of_getElem? (i := 1659) (by decide +kernel), List.mem_of_getElem? (i := 1660) (by decide +kernel)⟩
theorem lw_p34 : lw_okq (⟨"ModedMill$Machine", "agrees", "(LModedMill$Frame;II)Z"⟩, 12) := ⟨⟨by decide +kernel, by decide +kernel⟩, List.mem_of_getElem? (i := 547) (by decide +kernel), List.mem_of_getElem? (i := 1665) (by decide +kernel), List.mem_of_getElem? (i := 1666) (by decide +kernel)⟩
theorem lw_p35 : lw_okq (⟨"ModedMill$Machine", "beginGoal", "(LModedMill$Frame;LModedMill$Goal;)V"⟩, 12) := ⟨⟨by decide +kernel, by decide +kernel⟩, List.mem_of_getElem? (i := 547) (by decide +kernel), List.mem_of_getElem? (i := 1669) (by decide +kernel), List.mem_of_getElem? (i := 1670) (by decide +kernel)⟩
theorem lw_p36 : lw_okq (⟨"ModedMill$Machine", "beginCall", "(LModedMill$Frame;LModedMill$Goal;)V"⟩, 12) := ⟨⟨by decide +kernel, by decide +kernel⟩, List.mem_of_getElem? (i := 547) (by decide +kernel), List.mem_of_getElem? (i := 1674) (by decide +kernel), List.mem_of_getElem? (i := 1675) (by decide +kernel)⟩
theorem lw_p37 : lw_okq (⟨"ModedMill$Machine", "build", "(LModedMill$Frame;LModedMill$Goal;)V"⟩, 12) := ⟨⟨by decide +kernel, by decide +kernel⟩, List.mem_of_getElem? (i := 547) (by decide +kernel), List.mem_of_getElem? (i := 1679) (by decide +kernel), List.mem_of_getElem? (i := 1680) (by decide +kernel)⟩
theorem lw_p38 : lw_okq (⟨"ModedMill$Machine", "comesApart", "(LModedMill$Frame;LModedMill$Goal;I)Z"⟩, 12) := ⟨⟨by decide +kernel, by decide +kernel⟩, List.mem_of_getElem? (i := 547) (by decide +kernel), List.mem_of_getElem? (i := 1684) (by decide +kernel), List.mem_of_getElem? (i := 1685) (by decide +kernel)⟩
theorem lw_p39 : lw_okq (⟨"ModedMill", "refuseUnasked", "()V"⟩, 9) := ⟨⟨by decide +kernel, by decide +kernel⟩, List.mem_of_getElem? (i := 47) (by decide +kernel), List.mem_of_getElem? (i := 1718) (by decide +kernel), List.mem_of_getElem? (i := 1719) (by decide +kernel)⟩
theorem lw_p40 : lw_okq (⟨"ModedMill$Breadth", "begin", "(LModedMill$Predicate;LModedMill$Report;)V"⟩, 15) := ⟨⟨by decide +kernel, by decide +kernel⟩, List.mem_of_getElem? (i := 594) (by decide +kernel), List.mem_of_getElem? (i := 1764) (by decide +kernel), List.mem_of_getElem? (i := 1765) (by decide +kernel)⟩
theorem lw_p41 : lw_okq (⟨"ModedMill$Breadth", "newUnknown", "()I"⟩, 15) := ⟨⟨by decide +kernel, by decide +kernel⟩, List.mem_of_getElem? (i := 594) (by decide +kernel), List.mem_of_getElem? (i := 1776) (by decide +kernel), List.mem_of_getElem? (i := 1777) (by decide +kernel)⟩
theorem lw_p42 : lw_okq (⟨"ModedMill$Breadth", "putQuestion", "(III)V"⟩, 15) := ⟨⟨by decide +kernel, by decide +kernel⟩, List.mem_of_getElem? (i := 594) (by decide +kernel), List.mem_of_getElem? (i := 1780) (by decide +kernel), List.mem_of_getElem? (i := 1781) (by decide +kernel)⟩
theorem lw_p43 : lw_okq (⟨"ModedMill$Breadth", "addToRow", "(IIIII)V"⟩, 15) := ⟨⟨by decide +kernel, by decide +kernel⟩, List.mem_of_getElem? (i := 594) (by decide +kernel), List.mem_of_getElem? (i := 1784) (by decide +kernel), List.mem_of_getElem? (i := 1785) (by decide +kernel)⟩
theorem lw_p44 : lw_okq (⟨"ModedMill$Breadth", "endDenied", "(Z)V"⟩, 15) := ⟨⟨by decide +kernel, by decide +kernel⟩, List.mem_of_getElem? (i := 594) (by decide +kernel), List.mem_of_getElem? (i := 1790) (by decide +kernel), List.mem_of_getElem? (i := 1791) (by decide +kernel)⟩
theorem lw_p45 : lw_okq (⟨"ModedMill$Breadth", "takeOff", "()I"⟩, 15) := ⟨⟨by decide +kernel, by decide +kernel⟩, List.mem_of_getElem? (i := 594) (by decide +kernel), List.mem_of_getElem? (i := 1795) (by decide +kernel), List.mem_of_getElem? (i := 1796) (by decide +kernel)⟩
theorem lw_p46 : lw_okq (⟨"ModedMill$Breadth", "goalOf", "(I)LModedMill$Goal;"⟩, 15) := ⟨⟨by decide +kernel, by decide +kernel⟩, List.mem_of_getElem? (i := 594) (by decide +kernel), List.mem_of_getElem? (i := 1799) (by decide +kernel), List.mem_of_getElem? (i := 1800) (by decide +kernel)⟩
theorem lw_p47 : lw_okq (⟨"ModedMill$Breadth", "openClause", "(LModedMill$Clause;LModedMill$Goal;II)I"⟩, 15) := ⟨⟨by decide +kernel, by decide +kernel⟩, List.mem_of_getElem? (i := 594) (by decide +kernel), List.mem_of_getElem? (i := 1807) (by decide +kernel), List.mem_of_getElem? (i := 1808) (by decide +kernel)⟩
def lw_privs_3 : List (MethodName × Nat) := [(⟨"ModedMill$Machine", "addAnswer", "(LModedMill$Frame;)V"⟩, 12), (⟨"ModedMill$Machine", "handsBack", "(LModedMill$Frame;LModedMill$Frame;)Z"⟩, 12), (⟨"ModedMill$Machine", "agrees", "(LModedMill$Frame;II)Z"⟩, 12), (⟨"ModedMill$Machine", "beginGoal", "(LModedMill$Frame;LModedMill$Goal;)V"⟩, 12), (⟨"ModedMill$Machine", "beginCall", "(LModedMill$Frame;LModedMill$Goal;)V"⟩, 12), (⟨"ModedMill$Machine", "build", "(LModedMill$Frame;LModedMill$Goal;)V"⟩, 12), (⟨"ModedMill$Machine", "comesApart", "(LModedMill$Frame;LModedMill$Goal;I)Z"⟩, 12), (⟨"ModedMill", "refuseUnasked", "()V"⟩, 9), (⟨"ModedMill$Breadth", "begin", "(LModedMill$Predicate;LModedMill$Report;)V"⟩, 15), (⟨"ModedMill$Breadth", "newUnknown", "()I"⟩, 15), (⟨"ModedMill$Breadth", "putQuestion", "(III)V"⟩, 15), (⟨"ModedMill$Breadth", "addToRow", "(IIIII)V"⟩, 15), (⟨"ModedMill$Breadth", "endDenied", "(Z)V"⟩, 15), (⟨"ModedMill$Breadth", "takeOff", "()I"⟩, 15), (⟨"ModedMill$Breadth", "goalOf", "(I)LModedMill$Goal;"⟩, 15), (⟨"ModedMill$Breadth", "openClause", "(LModedMill$Clause;LModedMill$Goal;II)I"⟩, 15)]
theorem lw_r3 : ∀ q ∈ lw_privs_3, lw_okq q := List.forall_mem_cons.mpr ⟨lw_p32, List.forall_mem_cons.mpr ⟨lw_p33, List.forall_mem_cons.mpr ⟨lw_p34, List.forall_mem_cons.mpr ⟨lw_p35, List.forall_mem_cons.mpr ⟨lw_p36, List.forall_mem_cons.mpr ⟨lw_p37, List.forall_mem_cons.mpr ⟨lw_p38, List.forall_mem_cons.mpr ⟨lw_p39, List.forall_mem_cons.mpr ⟨lw_p40, List.forall_mem_cons.mpr ⟨lw_p41, List.forall_mem_cons.mpr ⟨lw_p42, List.forall_mem_cons.mpr ⟨lw_p43, List.forall_mem_cons.mpr ⟨lw_p44, List.forall_mem_cons.mpr ⟨lw_p45, List.forall_mem_cons.mpr ⟨lw_p46, List.forall_mem_cons.mpr ⟨lw_p47, fun _ h => absurd h List.not_mem_nil⟩⟩⟩⟩⟩⟩⟩⟩⟩⟩⟩⟩⟩⟩⟩⟩
theorem lw_p48 : lw_okq (⟨"ModedMill$Breadth", "nodeOf", "(LModedMill$Goal;II)I"⟩, 15) := ⟨⟨by decide +kernel, by decide +kernel⟩, List.mem_of_getElem? (i := 594) (by decide +kernel), List.mem_of_getElem? (i := 1811) (by decide +kernel), List.mem_of_getElem? (i := 1812) (by decide +kernel)⟩
theorem lw_p49 : lw_okq (⟨"ModedMill$Breadth", "resolve", "(I)V"⟩, 15) := ⟨⟨by decide +kernel, by decide +kernel⟩, List.mem_of_getElem? (i := 594) (by decide +kernel), List.mem_of_getElem? (i := 1819) (by decide +kernel), List.mem_of_getElem? (i := 1820) (by decide +kernel)⟩
theorem lw_p50 : lw_okq (⟨"ModedMill$Breadth", "restore", "(I)V"⟩, 15) := ⟨⟨by decide +kernel, by decide +kernel⟩, List.mem_of_getElem? (i := 594) (by decide +kernel), List.mem_of_getElem? (i := 1823) (by decide +kernel), List.mem_of_getElem? (i := 1824) (by decide +kernel)⟩
theorem lw_p51 : lw_okq (⟨"ModedMill$Breadth", "bindPath", "(IZ)V"⟩, 15) := ⟨⟨by decide +kernel, by decide +kernel⟩, List.mem_of_getElem? (i := 594) (by decide +kernel), List.mem_of_getElem? (i := 1827) (by decide +kernel), List.mem_of_getElem? (i := 1828) (by decide +kernel)⟩
theorem lw_p52 : lw_okq (⟨"ModedMill$Breadth", "bind", "(IIZ)V"⟩, 15) := ⟨⟨by decide +kernel, by decide +kernel⟩, List.mem_of_getElem? (i := 594) (by decide +kernel), List.mem_of_getElem? (i := 1831) (by decide +kernel), List.mem_of_getElem? (i := 1832) (by decide +kernel)⟩
theorem lw_p53 : lw_okq (⟨"ModedMill$Breadth", "firstToResolve", "(I)I"⟩, 15) := ⟨⟨by decide +kernel, by decide +kernel⟩, List.mem_of_getElem? (i := 594) (by decide +kernel), List.mem_of_getElem? (i := 1835) (by decide +kernel), List.mem_of_getElem? (i := 1836) (by decide +kernel)⟩
theorem lw_p54 : lw_okq (⟨"ModedMill$Breadth", "isGround", "(LModedMill$Goal;I)Z"⟩, 15) := ⟨⟨by decide +kernel, by decide +kernel⟩, List.mem_of_getElem? (i := 594) (by decide +kernel), List.mem_of_getElem? (i := 1839) (by decide +kernel), List.mem_of_getElem? (i := 1840) (by decide +kernel)⟩
theorem lw_p55 : lw_okq (⟨"ModedMill$Breadth", "find", "(I)I"⟩, 15) := ⟨⟨by decide +kernel, by decide +kernel⟩, List.mem_of_getElem? (i := 594) (by decide +kernel), List.mem_of_getElem? (i := 1843) (by decide +kernel), List.mem_of_getElem? (i := 1844) (by decide +kernel)⟩
theorem lw_p56 : lw_okq (⟨"ModedMill$Breadth", "markOf", "(I)I"⟩, 15) := ⟨⟨by decide +kernel, by decide +kernel⟩, List.mem_of_getElem? (i := 594) (by decide +kernel), List.mem_of_getElem? (i := 1847) (by decide +kernel), List.mem_of_getElem? (i := 1848) (by decide +kernel)⟩
theorem lw_p57 : lw_okq (⟨"ModedMill$Breadth", "scan", "(I)Z"⟩, 15) := ⟨⟨by decide +kernel, by decide +kernel⟩, List.mem_of_getElem? (i := 594) (by decide +kernel), List.mem_of_getElem? (i := 1852) (by decide +kernel), List.mem_of_getElem? (i := 1853) (by decide +kernel)⟩
theorem lw_p58 : lw_okq (⟨"ModedMill$Breadth", "setMark", "(II)V"⟩, 15) := ⟨⟨by decide +kernel, by decide +kernel⟩, List.mem_of_getElem? (i := 594) (by decide +kernel), List.mem_of_getElem? (i := 1857) (by decide +kernel), List.mem_of_getElem? (i := 1858) (by decide +kernel)⟩
theorem lw_p59 : lw_okq (⟨"ModedMill$Breadth", "without", "(II)I"⟩, 15) := ⟨⟨by decide +kernel, by decide +kernel⟩, List.mem_of_getElem? (i := 594) (by decide +kernel), List.mem_of_getElem? (i := 1861) (by decide +kernel), List.mem_of_getElem? (i := 1862) (by decide +kernel)⟩
theorem lw_p60 : lw_okq (⟨"ModedMill$Breadth", "beginDenied", "(IILModedMill$Goal;I)V"⟩, 15) := ⟨⟨by decide +kernel, by decide +kernel⟩, List.mem_of_getElem? (i := 594) (by decide +kernel), List.mem_of_getElem? (i := 1865) (by decide +kernel), List.mem_of_getElem? (i := 1866) (by decide +kernel)⟩
theorem lw_p61 : lw_okq (⟨"ModedMill$Breadth", "rightSide", "(LModedMill$Goal;I)I"⟩, 15) := ⟨⟨by decide +kernel, by decide +kernel⟩, List.mem_of_getElem? (i := 594) (by decide +kernel), List.mem_of_getElem? (i := 1869) (by decide +kernel), List.mem_of_getElem? (i := 1870) (by decide +kernel)⟩
theorem lw_p62 : lw_okq (⟨"ModedMill$Breadth", "unify", "(II)Z"⟩, 15) := ⟨⟨by decide +kernel, by decide +kernel⟩, List.mem_of_getElem? (i := 594) (by decide +kernel), List.mem_of_getElem? (i := 1873) (by decide +kernel), List.mem_of_getElem? (i := 1874) (by decide +kernel)⟩
theorem lw_p63 : lw_okq (⟨"ModedMill$Breadth", "join", "(II)Z"⟩, 15) := ⟨⟨by decide +kernel, by decide +kernel⟩, List.mem_of_getElem? (i := 594) (by decide +kernel), List.mem_of_getElem? (i := 1878) (by decide +kernel), List.mem_of_getElem? (i := 1879) (by decide +kernel)⟩
def lw_privs_4 : List (MethodName × Nat) := [(⟨"ModedMill$Breadth", "nodeOf", "(LModedMill$Goal;II)I"⟩, 15), (⟨"ModedMill$Breadth", "resolve", "(I)V"⟩, 15), (⟨"ModedMill$Breadth", "restore", "(I)V"⟩, 15), (⟨"ModedMill$Breadth", "bindPath", "(IZ)V"⟩, 15), (⟨"ModedMill$Breadth", "bind", "(IIZ)V"⟩, 15), (⟨"ModedMill$Breadth", "firstToResolve", "(I)I"⟩, 15), (⟨"ModedMill$Breadth", "isGround", "(LModedMill$Goal;I)Z"⟩, 15), (⟨"ModedMill$Breadth", "find", "(I)I"⟩, 15), (⟨"ModedMill$Breadth", "markOf", "(I)I"⟩, 15), (⟨"ModedMill$Breadth", "scan", "(I)Z"⟩, 15), (⟨"ModedMill$Breadth", "setMark", "(II)V"⟩, 15), (⟨"ModedMill$Breadth", "without", "(II)I"⟩, 15), (⟨"ModedMill$Breadth", "beginDenied", "(IILModedMill$Goal;I)V"⟩, 15), (⟨"ModedMill$Breadth", "rightSide", "(LModedMill$Goal;I)I"⟩, 15), (⟨"ModedMill$Breadth", "unify", "(II)Z"⟩, 15), (⟨"ModedMill$Breadth", "join", "(II)Z"⟩, 15)]
theorem lw_r4 : ∀ q ∈ lw_privs_4, lw_okq q := List.forall_mem_cons.mpr ⟨lw_p48, List.forall_mem_cons.mpr ⟨lw_p49, List.forall_mem_cons.mpr ⟨lw_p50, List.forall_mem_cons.mpr ⟨lw_p51, List.forall_mem_cons.mpr ⟨lw_p52, List.forall_mem_cons.mpr ⟨lw_p53, List.forall_mem_cons.mpr ⟨lw_p54, List.forall_mem_cons.mpr ⟨lw_p55, List.forall_mem_cons.mpr ⟨lw_p56, List.forall_mem_cons.mpr ⟨lw_p57, List.forall_mem_cons.mpr ⟨lw_p58, List.forall_mem_cons.mpr ⟨lw_p59, List.forall_mem_cons.mpr ⟨lw_p60, List.forall_mem_cons.mpr ⟨lw_p61, List.forall_mem_cons.mpr ⟨lw_p62, List.forall_mem_cons.mpr ⟨lw_p63, fun _ h => absurd h List.not_mem_nil⟩⟩⟩⟩⟩⟩⟩⟩⟩⟩⟩⟩⟩⟩⟩⟩
theorem lw_p64 : lw_okq (⟨"ModedMill$Breadth", "isFinite", "(I)Z"⟩, 15) := ⟨⟨by decide +kernel, by decide +kernel⟩, List.mem_of_getElem? (i := 594) (by decide +kernel), List.mem_of_getElem? (i := 1882) (by decide +kernel), List.mem_of_getElem? (i := 1883) (by decide +kernel)⟩
theorem lw_p65 : lw_okq (⟨"ModedMill", "refuseMissingNote", "(I)V"⟩, 9) := ⟨⟨by decide +kernel, by decide +kernel⟩, List.mem_of_getElem? (i := 47) (by decide +kernel), List.mem_of_getElem? (i := 1925) (by decide +kernel), List.mem_of_getElem? (i := 1926) (by decide +kernel)⟩
theorem lw_p66 : lw_okq (⟨"ModedMillModel", "fails", "(I)I"⟩, 70) := ⟨⟨by decide +kernel, by decide +kernel⟩, List.mem_of_getElem? (i := 1985) (by decide +kernel), List.mem_of_getElem? (i := 2216) (by decide +kernel), List.mem_of_getElem? (i := 2217) (by decide +kernel)⟩
theorem lw_p67 : lw_okq (⟨"ModedMillModel", "parts", "(I)I"⟩, 70) := ⟨⟨by decide +kernel, by decide +kernel⟩, List.mem_of_getElem? (i := 1985) (by decide +kernel), List.mem_of_getElem? (i := 2231) (by decide +kernel), List.mem_of_getElem? (i := 2232) (by decide +kernel)⟩
theorem lw_p68 : lw_okq (⟨"ModedMillModel", "isTerm", "(I)Z"⟩, 70) := ⟨⟨by decide +kernel, by decide +kernel⟩, List.mem_of_getElem? (i := 1985) (by decide +kernel), List.mem_of_getElem? (i := 2235) (by decide +kernel), List.mem_of_getElem? (i := 2236) (by decide +kernel)⟩
theorem lw_p69 : lw_okq (⟨"ModedMillModel", "typeOfTerm", "(I)I"⟩, 70) := ⟨⟨by decide +kernel, by decide +kernel⟩, List.mem_of_getElem? (i := 1985) (by decide +kernel), List.mem_of_getElem? (i := 2239) (by decide +kernel), List.mem_of_getElem? (i := 2240) (by decide +kernel)⟩
theorem lw_p70 : lw_okq (⟨"ModedMillModel", "numbered", "(III)I"⟩, 70) := ⟨⟨by decide +kernel, by decide +kernel⟩, List.mem_of_getElem? (i := 1985) (by decide +kernel), List.mem_of_getElem? (i := 2243) (by decide +kernel), List.mem_of_getElem? (i := 2244) (by decide +kernel)⟩
theorem lw_p71 : lw_okq (⟨"ModedMillModel", "isPredicate", "(I)Z"⟩, 70) := ⟨⟨by decide +kernel, by decide +kernel⟩, List.mem_of_getElem? (i := 1985) (by decide +kernel), List.mem_of_getElem? (i := 2267) (by decide +kernel), List.mem_of_getElem? (i := 2268) (by decide +kernel)⟩
theorem lw_p72 : lw_okq (⟨"ModedMillModel", "isClause", "(I)Z"⟩, 70) := ⟨⟨by decide +kernel, by decide +kernel⟩, List.mem_of_getElem? (i := 1985) (by decide +kernel), List.mem_of_getElem? (i := 2279) (by decide +kernel), List.mem_of_getElem? (i := 2280) (by decide +kernel)⟩
theorem lw_p73 : lw_okq (⟨"ModedMillModel", "tries", "(I)V"⟩, 70) := ⟨⟨by decide +kernel, by decide +kernel⟩, List.mem_of_getElem? (i := 1985) (by decide +kernel), List.mem_of_getElem? (i := 2283) (by decide +kernel), List.mem_of_getElem? (i := 2284) (by decide +kernel)⟩
theorem lw_p74 : lw_okq (⟨"ModedMillModel", "fits", "(II)Z"⟩, 70) := ⟨⟨by decide +kernel, by decide +kernel⟩, List.mem_of_getElem? (i := 1985) (by decide +kernel), List.mem_of_getElem? (i := 2287) (by decide +kernel), List.mem_of_getElem? (i := 2288) (by decide +kernel)⟩
theorem lw_p75 : lw_okq (⟨"ModedMillModel", "adds", "(ICIIII)I"⟩, 70) := ⟨⟨by decide +kernel, by decide +kernel⟩, List.mem_of_getElem? (i := 1985) (by decide +kernel), List.mem_of_getElem? (i := 2291) (by decide +kernel), List.mem_of_getElem? (i := 2292) (by decide +kernel)⟩
theorem lw_p76 : lw_okq (⟨"ModedMillModel", "orders", "()V"⟩, 70) := ⟨⟨by decide +kernel, by decide +kernel⟩, List.mem_of_getElem? (i := 1985) (by decide +kernel), List.mem_of_getElem? (i := 2307) (by decide +kernel), List.mem_of_getElem? (i := 2308) (by decide +kernel)⟩
theorem lw_p77 : lw_okq (⟨"ModedMillModel", "orders", "(II)Z"⟩, 70) := ⟨⟨by decide +kernel, by decide +kernel⟩, List.mem_of_getElem? (i := 1985) (by decide +kernel), List.mem_of_getElem? (i := 2311) (by decide +kernel), List.mem_of_getElem? (i := 2312) (by decide +kernel)⟩
theorem lw_p78 : lw_okq (⟨"ModedMillModel", "canBeTaken", "(II)Z"⟩, 70) := ⟨⟨by decide +kernel, by decide +kernel⟩, List.mem_of_getElem? (i := 1985) (by decide +kernel), List.mem_of_getElem? (i := 2315) (by decide +kernel), List.mem_of_getElem? (i := 2316) (by decide +kernel)⟩
theorem lw_p79 : lw_okq (⟨"ModedMillModel", "variables", "(I)I"⟩, 70) := ⟨⟨by decide +kernel, by decide +kernel⟩, List.mem_of_getElem? (i := 1985) (by decide +kernel), List.mem_of_getElem? (i := 2319) (by decide +kernel), List.mem_of_getElem? (i := 2320) (by decide +kernel)⟩
def lw_privs_5 : List (MethodName × Nat) := [(⟨"ModedMill$Breadth", "isFinite", "(I)Z"⟩, 15), (⟨"ModedMill", "refuseMissingNote", "(I)V"⟩, 9), (⟨"ModedMillModel", "fails", "(I)I"⟩, 70), (⟨"ModedMillModel", "parts", "(I)I"⟩, 70), (⟨"ModedMillModel", "isTerm", "(I)Z"⟩, 70), (⟨"ModedMillModel", "typeOfTerm", "(I)I"⟩, 70), (⟨"ModedMillModel", "numbered", "(III)I"⟩, 70), (⟨"ModedMillModel", "isPredicate", "(I)Z"⟩, 70), (⟨"ModedMillModel", "isClause", "(I)Z"⟩, 70), (⟨"ModedMillModel", "tries", "(I)V"⟩, 70), (⟨"ModedMillModel", "fits", "(II)Z"⟩, 70), (⟨"ModedMillModel", "adds", "(ICIIII)I"⟩, 70), (⟨"ModedMillModel", "orders", "()V"⟩, 70), (⟨"ModedMillModel", "orders", "(II)Z"⟩, 70), (⟨"ModedMillModel", "canBeTaken", "(II)Z"⟩, 70), (⟨"ModedMillModel", "variables", "(I)I"⟩, 70)]
theorem lw_r5 : ∀ q ∈ lw_privs_5, lw_okq q := List.forall_mem_cons.mpr ⟨lw_p64, List.forall_mem_cons.mpr ⟨lw_p65, List.forall_mem_cons.mpr ⟨lw_p66, List.forall_mem_cons.mpr ⟨lw_p67, List.forall_mem_cons.mpr ⟨lw_p68, List.forall_mem_cons.mpr ⟨lw_p69, List.forall_mem_cons.mpr ⟨lw_p70, List.forall_mem_cons.mpr ⟨lw_p71, List.forall_mem_cons.mpr ⟨lw_p72, List.forall_mem_cons.mpr ⟨lw_p73, List.forall_mem_cons.mpr ⟨lw_p74, List.forall_mem_cons.mpr ⟨lw_p75, List.forall_mem_cons.mpr ⟨lw_p76, List.forall_mem_cons.mpr ⟨lw_p77, List.forall_mem_cons.mpr ⟨lw_p78, List.forall_mem_cons.mpr ⟨lw_p79, fun _ h => absurd h List.not_mem_nil⟩⟩⟩⟩⟩⟩⟩⟩⟩⟩⟩⟩⟩⟩⟩⟩
theorem lw_p80 : lw_okq (⟨"ModedMillModel", "chosen", "(II)I"⟩, 70) := ⟨⟨by decide +kernel, by decide +kernel⟩, List.mem_of_getElem? (i := 1985) (by decide +kernel), List.mem_of_getElem? (i := 2323) (by decide +kernel), List.mem_of_getElem? (i := 2324) (by decide +kernel)⟩
theorem lw_p81 : lw_okq (⟨"ModedMillModel", "switchFound", "(II)I"⟩, 70) := ⟨⟨by decide +kernel, by decide +kernel⟩, List.mem_of_getElem? (i := 1985) (by decide +kernel), List.mem_of_getElem? (i := 2327) (by decide +kernel), List.mem_of_getElem? (i := 2328) (by decide +kernel)⟩
theorem lw_p82 : lw_okq (⟨"ModedMillModel", "hasBad", "(II)Z"⟩, 70) := ⟨⟨by decide +kernel, by decide +kernel⟩, List.mem_of_getElem? (i := 1985) (by decide +kernel), List.mem_of_getElem? (i := 2331) (by decide +kernel), List.mem_of_getElem? (i := 2332) (by decide +kernel)⟩
theorem lw_p83 : lw_okq (⟨"ModedMillModel", "looksAgain", "(II)Z"⟩, 70) := ⟨⟨by decide +kernel, by decide +kernel⟩, List.mem_of_getElem? (i := 1985) (by decide +kernel), List.mem_of_getElem? (i := 2335) (by decide +kernel), List.mem_of_getElem? (i := 2336) (by decide +kernel)⟩
theorem lw_p84 : lw_okq (⟨"ModedMillModel", "clauseCanFail", "(IIZ)Z"⟩, 70) := ⟨⟨by decide +kernel, by decide +kernel⟩, List.mem_of_getElem? (i := 1985) (by decide +kernel), List.mem_of_getElem? (i := 2339) (by decide +kernel), List.mem_of_getElem? (i := 2340) (by decide +kernel)⟩
theorem lw_p85 : lw_okq (⟨"ModedMillModel", "goalCanFail", "(IIIZ)Z"⟩, 70) := ⟨⟨by decide +kernel, by decide +kernel⟩, List.mem_of_getElem? (i := 1985) (by decide +kernel), List.mem_of_getElem? (i := 2343) (by decide +kernel), List.mem_of_getElem? (i := 2344) (by decide +kernel)⟩
theorem lw_p86 : lw_okq (⟨"ModedMillModel", "isMet", "(IIII)Z"⟩, 70) := ⟨⟨by decide +kernel, by decide +kernel⟩, List.mem_of_getElem? (i := 1985) (by decide +kernel), List.mem_of_getElem? (i := 2347) (by decide +kernel), List.mem_of_getElem? (i := 2348) (by decide +kernel)⟩
theorem lw_p87 : lw_okq (⟨"ModedMillModel", "outputIsMet", "(IIII)Z"⟩, 70) := ⟨⟨by decide +kernel, by decide +kernel⟩, List.mem_of_getElem? (i := 1985) (by decide +kernel), List.mem_of_getElem? (i := 2351) (by decide +kernel), List.mem_of_getElem? (i := 2352) (by decide +kernel)⟩
theorem lw_p88 : lw_okq (⟨"ModedMillModel", "clauseCanMore", "(II)Z"⟩, 70) := ⟨⟨by decide +kernel, by decide +kernel⟩, List.mem_of_getElem? (i := 1985) (by decide +kernel), List.mem_of_getElem? (i := 2355) (by decide +kernel), List.mem_of_getElem? (i := 2356) (by decide +kernel)⟩
theorem lw_p89 : lw_okq (⟨"ModedMillModel", "faultOf", "(I)C"⟩, 70) := ⟨⟨by decide +kernel, by decide +kernel⟩, List.mem_of_getElem? (i := 1985) (by decide +kernel), List.mem_of_getElem? (i := 2359) (by decide +kernel), List.mem_of_getElem? (i := 2360) (by decide +kernel)⟩
theorem lw_p90 : lw_okq (⟨"ModedMillModel", "looks", "(II)Z"⟩, 70) := ⟨⟨by decide +kernel, by decide +kernel⟩, List.mem_of_getElem? (i := 1985) (by decide +kernel), List.mem_of_getElem? (i := 2371) (by decide +kernel), List.mem_of_getElem? (i := 2372) (by decide +kernel)⟩
theorem lw_p91 : lw_okq (⟨"ModedMillModel", "spot", "(III)I"⟩, 70) := ⟨⟨by decide +kernel, by decide +kernel⟩, List.mem_of_getElem? (i := 1985) (by decide +kernel), List.mem_of_getElem? (i := 2391) (by decide +kernel), List.mem_of_getElem? (i := 2392) (by decide +kernel)⟩
theorem lw_p92 : lw_okq (⟨"ModedMillModel", "isInput", "(III)Z"⟩, 70) := ⟨⟨by decide +kernel, by decide +kernel⟩, List.mem_of_getElem? (i := 1985) (by decide +kernel), List.mem_of_getElem? (i := 2403) (by decide +kernel), List.mem_of_getElem? (i := 2404) (by decide +kernel)⟩
theorem lw_p93 : lw_okq (⟨"ModedMillModel", "runs", "(II[II[I)Z"⟩, 70) := ⟨⟨by decide +kernel, by decide +kernel⟩, List.mem_of_getElem? (i := 1985) (by decide +kernel), List.mem_of_getElem? (i := 2407) (by decide +kernel), List.mem_of_getElem? (i := 2408) (by decide +kernel)⟩
theorem lw_p94 : lw_okq (⟨"ModedMillModel", "calls", "(II[ILModedMillModel$Frame;II)Z"⟩, 70) := ⟨⟨by decide +kernel, by decide +kernel⟩, List.mem_of_getElem? (i := 1985) (by decide +kernel), List.mem_of_getElem? (i := 2411) (by decide +kernel), List.mem_of_getElem? (i := 2412) (by decide +kernel)⟩
theorem lw_p95 : lw_okq (⟨"ModedMillModel", "puts", "(CII)V"⟩, 70) := ⟨⟨by decide +kernel, by decide +kernel⟩, List.mem_of_getElem? (i := 1985) (by decide +kernel), List.mem_of_getElem? (i := 2415) (by decide +kernel), List.mem_of_getElem? (i := 2416) (by decide +kernel)⟩
def lw_privs_6 : List (MethodName × Nat) := [(⟨"ModedMillModel", "chosen", "(II)I"⟩, 70), (⟨"ModedMillModel", "switchFound", "(II)I"⟩, 70), (⟨"ModedMillModel", "hasBad", "(II)Z"⟩, 70), (⟨"ModedMillModel", "looksAgain", "(II)Z"⟩, 70), (⟨"ModedMillModel", "clauseCanFail", "(IIZ)Z"⟩, 70), (⟨"ModedMillModel", "goalCanFail", "(IIIZ)Z"⟩, 70), (⟨"ModedMillModel", "isMet", "(IIII)Z"⟩, 70), (⟨"ModedMillModel", "outputIsMet", "(IIII)Z"⟩, 70), (⟨"ModedMillModel", "clauseCanMore", "(II)Z"⟩, 70), (⟨"ModedMillModel", "faultOf", "(I)C"⟩, 70), (⟨"ModedMillModel", "looks", "(II)Z"⟩, 70), (⟨"ModedMillModel", "spot", "(III)I"⟩, 70), (⟨"ModedMillModel", "isInput", "(III)Z"⟩, 70), (⟨"ModedMillModel", "runs", "(II[II[I)Z"⟩, 70), (⟨"ModedMillModel", "calls", "(II[ILModedMillModel$Frame;II)Z"⟩, 70), (⟨"ModedMillModel", "puts", "(CII)V"⟩, 70)]
theorem lw_r6 : ∀ q ∈ lw_privs_6, lw_okq q := List.forall_mem_cons.mpr ⟨lw_p80, List.forall_mem_cons.mpr ⟨lw_p81, List.forall_mem_cons.mpr ⟨lw_p82, List.forall_mem_cons.mpr ⟨lw_p83, List.forall_mem_cons.mpr ⟨lw_p84, List.forall_mem_cons.mpr ⟨lw_p85, List.forall_mem_cons.mpr ⟨lw_p86, List.forall_mem_cons.mpr ⟨lw_p87, List.forall_mem_cons.mpr ⟨lw_p88, List.forall_mem_cons.mpr ⟨lw_p89, List.forall_mem_cons.mpr ⟨lw_p90, List.forall_mem_cons.mpr ⟨lw_p91, List.forall_mem_cons.mpr ⟨lw_p92, List.forall_mem_cons.mpr ⟨lw_p93, List.forall_mem_cons.mpr ⟨lw_p94, List.forall_mem_cons.mpr ⟨lw_p95, fun _ h => absurd h List.not_mem_nil⟩⟩⟩⟩⟩⟩⟩⟩⟩⟩⟩⟩⟩⟩⟩⟩
theorem lw_p96 : lw_okq (⟨"ModedMillModel", "candidate", "(II[II)I"⟩, 70) := ⟨⟨by decide +kernel, by decide +kernel⟩, List.mem_of_getElem? (i := 1985) (by decide +kernel), List.mem_of_getElem? (i := 2420) (by decide +kernel), List.mem_of_getElem? (i := 2421) (by decide +kernel)⟩
theorem lw_p97 : lw_okq (⟨"ModedMillModel", "tries", "(II[ILModedMillModel$Frame;II)V"⟩, 70) := ⟨⟨by decide +kernel, by decide +kernel⟩, List.mem_of_getElem? (i := 1985) (by decide +kernel), List.mem_of_getElem? (i := 2466) (by decide +kernel), List.mem_of_getElem? (i := 2467) (by decide +kernel)⟩
theorem lw_p98 : lw_okq (⟨"ModedMillModel", "retries", "()V"⟩, 70) := ⟨⟨by decide +kernel, by decide +kernel⟩, List.mem_of_getElem? (i := 1985) (by decide +kernel), List.mem_of_getElem? (i := 2500) (by decide +kernel), List.mem_of_getElem? (i := 2501) (by decide +kernel)⟩
theorem lw_p99 : lw_okq (⟨"ModedMillModel", "unbinds", "(I)V"⟩, 70) := ⟨⟨by decide +kernel, by decide +kernel⟩, List.mem_of_getElem? (i := 1985) (by decide +kernel), List.mem_of_getElem? (i := 2504) (by decide +kernel), List.mem_of_getElem? (i := 2505) (by decide +kernel)⟩
theorem lw_p100 : lw_okq (⟨"ModedMillModel", "begins", "()Z"⟩, 70) := ⟨⟨by decide +kernel, by decide +kernel⟩, List.mem_of_getElem? (i := 1985) (by decide +kernel), List.mem_of_getElem? (i := 2508) (by decide +kernel), List.mem_of_getElem? (i := 2509) (by decide +kernel)⟩
theorem lw_p101 : lw_okq (⟨"ModedMillModel", "arguments", "(LModedMillModel$Frame;I)[I"⟩, 70) := ⟨⟨by decide +kernel, by decide +kernel⟩, List.mem_of_getElem? (i := 1985) (by decide +kernel), List.mem_of_getElem? (i := 2512) (by decide +kernel), List.mem_of_getElem? (i := 2513) (by decide +kernel)⟩
theorem lw_p102 : lw_okq (⟨"ModedMillModel", "builds", "(I)Z"⟩, 70) := ⟨⟨by decide +kernel, by decide +kernel⟩, List.mem_of_getElem? (i := 1985) (by decide +kernel), List.mem_of_getElem? (i := 2516) (by decide +kernel), List.mem_of_getElem? (i := 2517) (by decide +kernel)⟩
theorem lw_p103 : lw_okq (⟨"ModedMillModel", "binds", "(LModedMillModel$Frame;II)V"⟩, 70) := ⟨⟨by decide +kernel, by decide +kernel⟩, List.mem_of_getElem? (i := 1985) (by decide +kernel), List.mem_of_getElem? (i := 2520) (by decide +kernel), List.mem_of_getElem? (i := 2521) (by decide +kernel)⟩
theorem lw_p104 : lw_okq (⟨"ModedMillModel", "gives", "(LModedMillModel$Frame;II)Z"⟩, 70) := ⟨⟨by decide +kernel, by decide +kernel⟩, List.mem_of_getElem? (i := 1985) (by decide +kernel), List.mem_of_getElem? (i := 2524) (by decide +kernel), List.mem_of_getElem? (i := 2525) (by decide +kernel)⟩
theorem lw_p105 : lw_okq (⟨"ModedMillModel", "sames", "(I)Z"⟩, 70) := ⟨⟨by decide +kernel, by decide +kernel⟩, List.mem_of_getElem? (i := 1985) (by decide +kernel), List.mem_of_getElem? (i := 2528) (by decide +kernel), List.mem_of_getElem? (i := 2529) (by decide +kernel)⟩
theorem lw_p106 : lw_okq (⟨"ModedMillModel", "denied", "(II)Z"⟩, 70) := ⟨⟨by decide +kernel, by decide +kernel⟩, List.mem_of_getElem? (i := 1985) (by decide +kernel), List.mem_of_getElem? (i := 2532) (by decide +kernel), List.mem_of_getElem? (i := 2533) (by decide +kernel)⟩
theorem lw_p107 : lw_okq (⟨"ModedMillModel", "handsOver", "()Z"⟩, 70) := ⟨⟨by decide +kernel, by decide +kernel⟩, List.mem_of_getElem? (i := 1985) (by decide +kernel), List.mem_of_getElem? (i := 2536) (by decide +kernel), List.mem_of_getElem? (i := 2537) (by decide +kernel)⟩
theorem lw_p108 : lw_okq (⟨"ModedMillModel", "answers", "()V"⟩, 70) := ⟨⟨by decide +kernel, by decide +kernel⟩, List.mem_of_getElem? (i := 1985) (by decide +kernel), List.mem_of_getElem? (i := 2540) (by decide +kernel), List.mem_of_getElem? (i := 2541) (by decide +kernel)⟩
theorem lw_p109 : lw_okq (⟨"ModedMillModel", "isWanted", "(LModedMillModel$Frame;[I)Z"⟩, 70) := ⟨⟨by decide +kernel, by decide +kernel⟩, List.mem_of_getElem? (i := 1985) (by decide +kernel), List.mem_of_getElem? (i := 2544) (by decide +kernel), List.mem_of_getElem? (i := 2545) (by decide +kernel)⟩
theorem lw_p110 : lw_okq (⟨"ModedMillModel", "wasAsked", "()Z"⟩, 70) := ⟨⟨by decide +kernel, by decide +kernel⟩, List.mem_of_getElem? (i := 1985) (by decide +kernel), List.mem_of_getElem? (i := 2552) (by decide +kernel), List.mem_of_getElem? (i := 2553) (by decide +kernel)⟩
theorem lw_p111 : lw_okq (⟨"ModedMillModel", "breadth", "(LModedMillModel$Listed;Z)I"⟩, 70) := ⟨⟨by decide +kernel, by decide +kernel⟩, List.mem_of_getElem? (i := 1985) (by decide +kernel), List.mem_of_getElem? (i := 2674) (by decide +kernel), List.mem_of_getElem? (i := 2675) (by decide +kernel)⟩
def lw_privs_7 : List (MethodName × Nat) := [(⟨"ModedMillModel", "candidate", "(II[II)I"⟩, 70), (⟨"ModedMillModel", "tries", "(II[ILModedMillModel$Frame;II)V"⟩, 70), (⟨"ModedMillModel", "retries", "()V"⟩, 70), (⟨"ModedMillModel", "unbinds", "(I)V"⟩, 70), (⟨"ModedMillModel", "begins", "()Z"⟩, 70), (⟨"ModedMillModel", "arguments", "(LModedMillModel$Frame;I)[I"⟩, 70), (⟨"ModedMillModel", "builds", "(I)Z"⟩, 70), (⟨"ModedMillModel", "binds", "(LModedMillModel$Frame;II)V"⟩, 70), (⟨"ModedMillModel", "gives", "(LModedMillModel$Frame;II)Z"⟩, 70), (⟨"ModedMillModel", "sames", "(I)Z"⟩, 70), (⟨"ModedMillModel", "denied", "(II)Z"⟩, 70), (⟨"ModedMillModel", "handsOver", "()Z"⟩, 70), (⟨"ModedMillModel", "answers", "()V"⟩, 70), (⟨"ModedMillModel", "isWanted", "(LModedMillModel$Frame;[I)Z"⟩, 70), (⟨"ModedMillModel", "wasAsked", "()Z"⟩, 70), (⟨"ModedMillModel", "breadth", "(LModedMillModel$Listed;Z)I"⟩, 70)]
theorem lw_r7 : ∀ q ∈ lw_privs_7, lw_okq q := List.forall_mem_cons.mpr ⟨lw_p96, List.forall_mem_cons.mpr ⟨lw_p97, List.forall_mem_cons.mpr ⟨lw_p98, List.forall_mem_cons.mpr ⟨lw_p99, List.forall_mem_cons.mpr ⟨lw_p100, List.forall_mem_cons.mpr ⟨lw_p101, List.forall_mem_cons.mpr ⟨lw_p102, List.forall_mem_cons.mpr ⟨lw_p103, List.forall_mem_cons.mpr ⟨lw_p104, List.forall_mem_cons.mpr ⟨lw_p105, List.forall_mem_cons.mpr ⟨lw_p106, List.forall_mem_cons.mpr ⟨lw_p107, List.forall_mem_cons.mpr ⟨lw_p108, List.forall_mem_cons.mpr ⟨lw_p109, List.forall_mem_cons.mpr ⟨lw_p110, List.forall_mem_cons.mpr ⟨lw_p111, fun _ h => absurd h List.not_mem_nil⟩⟩⟩⟩⟩⟩⟩⟩⟩⟩⟩⟩⟩⟩⟩⟩
theorem lw_p112 : lw_okq (⟨"ModedMillModel", "isUnknown", "(LModedMillModel$Item;LModedMillModel$Binding;)Z"⟩, 70) := ⟨⟨by decide +kernel, by decide +kernel⟩, List.mem_of_getElem? (i := 1985) (by decide +kernel), List.mem_of_getElem? (i := 2678) (by decide +kernel), List.mem_of_getElem? (i := 2679) (by decide +kernel)⟩
theorem lw_p113 : lw_okq (⟨"ModedMillModel", "has", "(LModedMillModel$Node;LModedMillModel$Node;LModedMillModel$Binding;)Z"⟩, 70) := ⟨⟨by decide +kernel, by decide +kernel⟩, List.mem_of_getElem? (i := 1985) (by decide +kernel), List.mem_of_getElem? (i := 2682) (by decide +kernel), List.mem_of_getElem? (i := 2683) (by decide +kernel)⟩
theorem lw_p114 : lw_okq (⟨"ModedMillModel", "clauseFor", "(LModedMillModel$Item;ILModedMillModel$Item;)LModedMillModel$Item;"⟩, 70) := ⟨⟨by decide +kernel, by decide +kernel⟩, List.mem_of_getElem? (i := 1985) (by decide +kernel), List.mem_of_getElem? (i := 2692) (by decide +kernel), List.mem_of_getElem? (i := 2693) (by decide +kernel)⟩
theorem lw_p115 : lw_okq (⟨"ModedMillModel", "goalsOf", "(II[LModedMillModel$Node;LModedMillModel$Item;)LModedMillModel$Item;"⟩, 70) := ⟨⟨by decide +kernel, by decide +kernel⟩, List.mem_of_getElem? (i := 1985) (by decide +kernel), List.mem_of_getElem? (i := 2696) (by decide +kernel), List.mem_of_getElem? (i := 2697) (by decide +kernel)⟩
theorem lw_p116 : lw_okq (⟨"ModedMillModel", "resolves", "(LModedMillModel$Item;LModedMillModel$Binding;)I"⟩, 70) := ⟨⟨by decide +kernel, by decide +kernel⟩, List.mem_of_getElem? (i := 1985) (by decide +kernel), List.mem_of_getElem? (i := 2700) (by decide +kernel), List.mem_of_getElem? (i := 2701) (by decide +kernel)⟩
theorem lw_p117 : lw_okq (⟨"ModedMillModel", "equal", "(LModedMillModel$Node;LModedMillModel$Node;)Z"⟩, 70) := ⟨⟨by decide +kernel, by decide +kernel⟩, List.mem_of_getElem? (i := 1985) (by decide +kernel), List.mem_of_getElem? (i := 2704) (by decide +kernel), List.mem_of_getElem? (i := 2705) (by decide +kernel)⟩
theorem lw_p118 : lw_okq (⟨"ModedMillModel", "wasPaired", "(LModedMillModel$Node;LModedMillModel$Node;)Z"⟩, 70) := ⟨⟨by decide +kernel, by decide +kernel⟩, List.mem_of_getElem? (i := 1985) (by decide +kernel), List.mem_of_getElem? (i := 2727) (by decide +kernel), List.mem_of_getElem? (i := 2728) (by decide +kernel)⟩
def lw_privs_8 : List (MethodName × Nat) := [(⟨"ModedMillModel", "isUnknown", "(LModedMillModel$Item;LModedMillModel$Binding;)Z"⟩, 70), (⟨"ModedMillModel", "has", "(LModedMillModel$Node;LModedMillModel$Node;LModedMillModel$Binding;)Z"⟩, 70), (⟨"ModedMillModel", "clauseFor", "(LModedMillModel$Item;ILModedMillModel$Item;)LModedMillModel$Item;"⟩, 70), (⟨"ModedMillModel", "goalsOf", "(II[LModedMillModel$Node;LModedMillModel$Item;)LModedMillModel$Item;"⟩, 70), (⟨"ModedMillModel", "resolves", "(LModedMillModel$Item;LModedMillModel$Binding;)I"⟩, 70), (⟨"ModedMillModel", "equal", "(LModedMillModel$Node;LModedMillModel$Node;)Z"⟩, 70), (⟨"ModedMillModel", "wasPaired", "(LModedMillModel$Node;LModedMillModel$Node;)Z"⟩, 70)]
theorem lw_r8 : ∀ q ∈ lw_privs_8, lw_okq q := List.forall_mem_cons.mpr ⟨lw_p112, List.forall_mem_cons.mpr ⟨lw_p113, List.forall_mem_cons.mpr ⟨lw_p114, List.forall_mem_cons.mpr ⟨lw_p115, List.forall_mem_cons.mpr ⟨lw_p116, List.forall_mem_cons.mpr ⟨lw_p117, List.forall_mem_cons.mpr ⟨lw_p118, fun _ h => absurd h List.not_mem_nil⟩⟩⟩⟩⟩⟩⟩
def lw_privs : List (MethodName × Nat) := lw_privs_1 ++ (lw_privs_2 ++ (lw_privs_3 ++ (lw_privs_4 ++ (lw_privs_5 ++ (lw_privs_6 ++ (lw_privs_7 ++ (lw_privs_8)))))))
def lw_tbl : List Cond := k2_sels lw_privs ++ tables_1
theorem lw_privs_ok : ∀ q ∈ lw_privs, lw_okq q := by
  show ∀ q ∈ lw_privs_1 ++ (lw_privs_2 ++ (lw_privs_3 ++ (lw_privs_4 ++ (lw_privs_5 ++ (lw_privs_6 ++ (lw_privs_7 ++ (lw_privs_8))))))), lw_okq q
  exact List.forall_mem_append.mpr ⟨lw_r1, List.forall_mem_append.mpr ⟨lw_r2, List.forall_mem_append.mpr ⟨lw_r3, List.forall_mem_append.mpr ⟨lw_r4, List.forall_mem_append.mpr ⟨lw_r5, List.forall_mem_append.mpr ⟨lw_r6, List.forall_mem_append.mpr ⟨lw_r7, lw_r8⟩⟩⟩⟩⟩⟩⟩
/-- the streams that the claim lets the run draw from -/
abbrev lw_cs : List Choice := [Jvm.Choice.named "NaN.bits"]
theorem lw_bits : nanBits ∈ lw_cs := by first | decide | exact List.mem_cons_self | simp [lw_cs, nanBits]
end
section
/-! ===== BEGIN words of one list among another's, by their places ===== -/
theorem goodIn_r {big : List Cond} (ws : List Cond) (ps : List Nat) (hp : ws = ps.filterMap (fun i => big[i]?)) (h : ws.all goodWord = true) : GoodIn big ws := by
  intro w hw
  have h1 := List.all_eq_true.mp h w hw
  rw [hp] at hw
  obtain ⟨i, -, hi⟩ := List.mem_filterMap.mp hw
  have hm : w ∈ big := by first | exact List.mem_of_getElem? hi | exact List.getElem?_mem hi
  exact ⟨hm, good_of_word h1⟩
theorem goodIn_app {big a b : List Cond} (ha : GoodIn big a) (hb : GoodIn big b) : GoodIn big (a ++ b) := fun w h => (List.mem_append.mp h).elim (ha w) (hb w)
theorem goodIn_ca {big a b : List Cond} {c : Cond} (ha : GoodIn big (c :: a)) (hb : GoodIn big b) : GoodIn big (c :: (a ++ b)) := fun w h => (List.mem_cons.mp h).elim (fun e => ha w (List.mem_cons.mpr (Or.inl e))) (fun h => (List.mem_append.mp h).elim (fun h => ha w (List.mem_cons.mpr (Or.inr h))) (hb w))
theorem goodIn_sub {big ws : List Cond} (hm : ∀ w ∈ ws, w ∈ big) (h : ws.all goodWord = true) : GoodIn big ws := fun w hw => ⟨hm w hw, good_of_word (List.all_eq_true.mp h w hw)⟩
/-! ===== END ===== -/
/-! ===== BEGIN exceptions that leave a method, and their catching by the caller (launches without stack traces) ===== -/
section VXA
/-! The laws vx_back, vx_callV, vx_callS, vx_callSW, vx_throw0, vx_throwS follow proofs of the library, with one case more: JvmDerived/Free/Laws.lean (Back.of_free), Shelf42/LK1.lean (callV, callS), Shelf/KitTraced.lean (throwNew0V, throwNewS). -/
/-- where a method has thrown q: the class by its name, the cell, what was written, the world -/
def vx_T (XC : String → State → State → Prop) (st : State) (q : Addr) (t : State) (mc ms : Nat) (free : Addr → Prop) : Prop :=
  ∃ (E : String) (ce : Cell) (L : List Loc), XC E st t ∧ t.heap[q]? = some ce ∧ ce.vm = .none ∧ st.vm.findClass E = some ce.cls ∧ st.WarmedH t.vm ∧ st.sameButNew ({ t with vm := st.vm } : State) L mc ms ∧ ∀ z ∈ L, free z.base
def vx_Q (Qc : Array Value → State → Outcome → State → Prop) (XC : String → State → State → Prop) (mc ms : Nat) (free : Addr → Prop) : Array Value → State → Outcome → State → Prop := fun a st o t =>
  (Qc a st o t ∧ ∃ L, FrameEnd st o t L mc ms ∧ ∀ q ∈ L, free q.base) ∨ ∃ q, o = .threw q ∧ vx_T XC st q t mc ms free
/-- a callee that returns or throws -/
def vx_Met (l : Launch) (y : MethodName) (ws : List Cond) (rm : Room) (Pc : Array Value → State → Prop) (Qc : Array Value → State → Outcome → State → Prop) (XC : String → State → State → Prop) (mc ms : Nat) (free : Addr → Prop) : Prop :=
  MetFree l y (headSpec ws rm) Pc (fun _ _ _ _ _ => True) (vx_Q Qc XC mc ms free)
def vx_Post (XC : String → State → State → Prop) (mc ms : Nat) (free : Addr → Prop) : Pt → Array Value → Addr → Pt → Prop := fun A a q B =>
  ∃ (g : JFrame) (mk : MethodId) (t : State) (L : List Loc) (E : String) (ce : Cell), B.U.heap = t.heap ∧ B.U.vm = t.vm ∧ XC E (A.U.calling g mk a) t ∧ t.heap[q]? = some ce ∧ ce.vm = .none ∧ A.U.vm.findClass E = some ce.cls ∧ B.locs = A.locs ++ L ∧ (∀ z ∈ L, free z.base) ∧ B.cells = A.cells + mc ∧ B.slots = A.slots + ms
def vx_Back (l : Launch) (R : Room) (p : Program) (e : Env) (below : List Frame) (s : State) (sargs : Array Value) (y : MethodName) (len W9 : Nat)
    (Pre : Pt → Array Value → Prop) (Post : Pt → Array Value → Option Value → Pt → Prop) (PostX : Pt → Array Value → Addr → Pt → Prop) : Prop :=
  ∀ (m : MethodId) (meth : Method) (c : Code) (A : Pt) (g : JFrame) (ig : Instr) (mk : MethodId) (a : Array Value),
    Stand p l e R s m sargs below meth c A.U A.locs A.cells A.slots → g.method = m → g.locals.size = c.maxLocals → decode c.code g.pc = .ok (ig, len) →
    2 * g.monitorRoom + (g.stack.map fun v => v.category).sum ≤ W9 → A.U.methodNamed? y = some mk → Pre A a →
    (∃ (v : Option Value) (B : Pt), Stand p l e R s m sargs below meth c B.U B.locs B.cells B.slots ∧ Post A a v B ∧
      Steps p.tables e below (doInvoke e (A.U.setTop g) [] mk a).1 (B.U.setTop { g with pc := g.pc + len, stack := v.toList ++ g.stack })) ∨
    (∃ (q : Addr) (B : Pt), Stand p l e R s m sargs below meth c B.U B.locs B.cells B.slots ∧ PostX A a q B ∧
      Steps p.tables e below (doInvoke e (A.U.setTop g) [] mk a).1 ((B.U.setTop g).pushFrame (.throwing q)))
section Payer
variable {l : Launch} {R : Room} {p : Program} {e : Env} {below : List Frame} {s : State} {sargs : Array Value} {y : MethodName} {len W9 : Nat}
theorem vx_back {ws : List Cond} {rm : Room} {Pc : Array Value → State → Prop} {Qc : Array Value → State → Outcome → State → Prop} {XC : String → State → State → Prop} {mc ms : Nat} {free : Addr → Prop} {bytes : ByteArray} {maxL : Nat} {ret : Option FieldType}
    (hM : vx_Met l y ws rm Pc Qc XC mc ms free) (hblind : FrameBlind Pc) (hrc : rm.cells = mc) (hrs : rm.slots = ms)
    (hframes : rm.frames + 1 ≤ R.frames) (hlocals : W9 + (maxL + 11) + rm.locals ≤ R.locals)
    (hws : ∀ w ∈ ws, ∀ a' U, s.WarmedH U.vm → w.before a' U = true) (hcode : Cond.code y bytes maxL ret ∈ ws) (hinit : ∀ a' U, s.WarmedH U.vm → (Cond.initialized y.cls).before a' U = true) :
    vx_Back l R p e below s sargs y len W9 (PreOf R mc ms Pc) (PostOf Qc mc ms free) (vx_Post XC mc ms free) := by
  intro m meth c A g ig mk a X hg hsize hdg hW hn hp
  have h1 : (headSpec ws rm).pre.before a A.U = true := atoms_intro fun w hw => hws w hw _ _ X.warmed
  have h2 : (Cond.code y bytes maxL ret).before a A.U = true := hws _ hcode _ _ X.warmed
  have h3 : (Cond.initialized y.cls).before a A.U = true := hinit _ _ X.warmed
  have h4 : A.cells + (headSpec ws rm).room.cells ≤ R.cells := by rw [show (headSpec ws rm).room.cells = mc from hrc]; exact hp.1
  have h5 : A.slots + (headSpec ws rm).room.slots ≤ R.slots := by rw [show (headSpec ws rm).room.slots = ms from hrs]; exact hp.2.1
  have hPc : Pc a (A.U.calling g mk a) := hblind _ _ _ _ hp.2.2
  obtain ⟨U, Ls, c0, s0⟩ := A
  dsimp only [Pt.U, Pt.locs, Pt.cells, Pt.slots] at h1 h2 h3 h4 h5 X hn hPc ⊢
  obtain ⟨methY, cY, hmY, hcY, -, hlY, -, -, -, -⟩ := Cond.code_spec hn h2
  obtain ⟨kY, hkY, -⟩ := className_of_methodNamed hn
  have hinitY : kY.init = .initialized := Cond.initialized_spec (findClass_of_methodNamed hn) hkY h3
  have h : At U g.method c below := by rw [hg]; exact X.here
  have hlocals9 : W9 + (maxL + 11) + (headSpec ws rm).room.locals ≤ R.locals := hlocals
  have happ : (headSpec ws rm).appliesLoose y e.platform (U.calling g mk a) = true :=
    Spec.appliesLoose_calling (g := g) h hdg hn hkY hinitY
      (X.room_calling (g := g) (R' := (headSpec ws rm).room) hsize hmY hcY hframes (by rw [hlY]; omega) h4 h5) h1
  obtain ⟨mid, hmid⟩ := h.above
  have hfr : (U.setTop g).frames = (.java g :: mid) ++ below := by rw [State.frames_setTop' g h.top, hmid]; rfl
  obtain ⟨o, s₂, hsteps, -, hend, hq⟩ := Steps.callFree hM p X.admits X.cas X.clock (acts := []) hfr happ hPc trivial
  have hq' : vx_Q Qc XC mc ms free a (U.calling g mk a) o s₂ := hq
  rw [State.frames_setTop' g h.top] at hend
  obtain ⟨g₀, hg0⟩ := Option.isSome_iff_exists.mp h.top
  obtain ⟨r, hr⟩ := State.topJava?_eq_some.mp hg0
  have hr' : (({ U with heap := s₂.heap, slotsUsed := s₂.slotsUsed } : State).setVm s₂.vm).frames = .java g₀ :: r := hr
  rcases hq' with ⟨hqc, L, hfe, hL⟩ | ⟨q, rfl, E, ce, L, hx, hce, hcv, hcl, hW₂, hsm, hL⟩
  · obtain ⟨⟨v, rfl⟩, hW₂, e2, q2, q3, q4, q5, q6⟩ := id hfe
    have e3 : s₂ = ({ (U.calling g mk a).setFrames s₂.frames with heap := s₂.heap, slotsUsed := s₂.slotsUsed } : State).setVm s₂.vm := by
      have : s₂ = ({ s₂ with vm := (U.calling g mk a).vm } : State).setVm s₂.vm := rfl
      rw [e2] at this
      exact this
    obtain ⟨c₂, i₂, len₂, hc₂, hd₂, hf₂⟩ := hend
    have hW' : U.WarmedH s₂.vm := hW₂
    have hcc : c₂ = c := by
      have h1 : s₂.code? g.method = U.code? g.method := by
        rw [State.code?_eq, State.code?_eq, hW'.alike.method?]
      exact Option.some.inj (hc₂.symm.trans (h1.trans h.code))
    subst hcc
    have hlen : len₂ = len := by rw [hdg] at hd₂; cases hd₂; rfl
    subst hlen
    have hs₂ : s₂ = (({ U with heap := s₂.heap, slotsUsed := s₂.slotsUsed } : State).setVm s₂.vm).setTop { g with pc := g.pc + len₂, stack := v.toList ++ g.stack } := by
      refine e3.trans ?_
      rw [hf₂, State.calling_eq h.top, State.setFrames_setFrames, State.setTop_of_frames _ hr', hr]
      rfl
    have hsame : U.sameButNew ({ U with heap := s₂.heap, slotsUsed := s₂.slotsUsed } : State) L mc ms := by
      refine ⟨?_, q2, q3, q4, q5, q6⟩
      obtain ⟨t, ht, -⟩ := State.frames_cons hr
      show ({ U with heap := s₂.heap, slotsUsed := s₂.slotsUsed } : State) = { U.setFrames U.frames with heap := s₂.heap, slotsUsed := s₂.slotsUsed }
      rw [State.setFrames_self ht]
    subst hg
    refine Or.inl ⟨v, ⟨(({ U with heap := s₂.heap, slotsUsed := s₂.slotsUsed } : State).setVm s₂.vm), Ls ++ L, c0 + mc, s0 + ms⟩,
      ⟨X.admits, X.cas, X.clock, X.frames, X.room, X.hears, X.method, X.code, (X.here.setHeapUsed s₂.heap s₂.slotsUsed).setVm hW'.alike, X.tail, State.WarmedH.trans X.warmed hW', X.limits, X.bytes, X.same.trans (hsame.setVm s.vm)⟩,
      ⟨g, mk, s₂, L, rfl, rfl, hqc, rfl, hL, rfl, rfl⟩, ?_⟩
    show Steps p.tables e below _ ((({ U with heap := s₂.heap, slotsUsed := s₂.slotsUsed } : State).setVm s₂.vm).setTop { g with pc := g.pc + len₂, stack := v.toList ++ g.stack })
    rw [← hs₂]
    exact hsteps
  · obtain ⟨e2, q2, q3, q4, q5, q6⟩ := id hsm
    have e3 : s₂ = ({ (U.calling g mk a).setFrames s₂.frames with heap := s₂.heap, slotsUsed := s₂.slotsUsed } : State).setVm s₂.vm := by
      have : s₂ = ({ s₂ with vm := (U.calling g mk a).vm } : State).setVm s₂.vm := rfl
      rw [e2] at this
      exact this
    have hf₂ : s₂.frames = .throwing q :: .java g :: U.frames.tail := hend
    have hW' : U.WarmedH s₂.vm := hW₂
    have hs₂ : s₂ = ((({ U with heap := s₂.heap, slotsUsed := s₂.slotsUsed } : State).setVm s₂.vm).setTop g).pushFrame (.throwing q) := by
      refine e3.trans ?_
      rw [hf₂, State.calling_eq h.top, State.setFrames_setFrames, State.pushFrame, State.frames_setTop _ hr', State.setTop_of_frames _ hr', State.setFrames_setFrames, hr]
      rfl
    have hsame : U.sameButNew ({ U with heap := s₂.heap, slotsUsed := s₂.slotsUsed } : State) L mc ms := by
      refine ⟨?_, q2, q3, q4, q5, q6⟩
      obtain ⟨t, ht, -⟩ := State.frames_cons hr
      show ({ U with heap := s₂.heap, slotsUsed := s₂.slotsUsed } : State) = { U.setFrames U.frames with heap := s₂.heap, slotsUsed := s₂.slotsUsed }
      rw [State.setFrames_self ht]
    subst hg
    refine Or.inr ⟨q, ⟨(({ U with heap := s₂.heap, slotsUsed := s₂.slotsUsed } : State).setVm s₂.vm), Ls ++ L, c0 + mc, s0 + ms⟩,
      ⟨X.admits, X.cas, X.clock, X.frames, X.room, X.hears, X.method, X.code, (X.here.setHeapUsed s₂.heap s₂.slotsUsed).setVm hW'.alike, X.tail, State.WarmedH.trans X.warmed hW', X.limits, X.bytes, X.same.trans (hsame.setVm s.vm)⟩,
      ⟨g, mk, s₂, L, E, ce, rfl, rfl, hx, hce, hcv, hcl, rfl, hL, rfl, rfl⟩, ?_⟩
    show Steps p.tables e below _ (((({ U with heap := s₂.heap, slotsUsed := s₂.slotsUsed } : State).setVm s₂.vm).setTop g).pushFrame (.throwing q))
    rw [← hs₂]
    exact hsteps
end Payer
section Calls
variable {p : Program} {l : Launch} {e : Env} {R : Room} {s : State} {m : MethodId} {args : Array Value} {below : List Frame} {meth : Method} {c : Code} {T : State} {locs : List Loc} {cells slots : Nat}
theorem vx_callV (X : Stand p l e R s m args below meth c T locs cells slots) (hexec : p.tables.exec = Jvm.exec) {own C : String} {index : Nat} {y : MethodName} {bytes : ByteArray} {maxL : Nat} {ret : Option FieldType}
    (hown : s.vm.findClass own = some m.cls) (hlink : (Cond.methodLink own index y).before args s = true) (hinst : (Cond.instanceMethod y).before args s = true) (hsel : (Cond.selects C y y).before args s = true)
    (hcode : (Cond.code y bytes maxL ret).before args s = true) (hy : y.cls ≠ "java/lang/invoke/MethodHandle" ∧ y.cls ≠ "java/lang/invoke/VarHandle")
    {W9 : Nat} {Pre : Pt → Array Value → Prop} {Post : Pt → Array Value → Option Value → Pt → Prop} {PostX : Pt → Array Value → Addr → Pt → Prop} (hK : vx_Back l R p e below s args y 3 W9 Pre Post PostX)
    {b : Addr} {cellB : Cell} (hcell : T.heap[b]? = some cellB) (hobj : cellB.vm.isStatics = false) (hcls : s.vm.findClass C = some cellB.cls)
    {g : JFrame} (hg : g.method = m) (hsize : g.locals.size = c.maxLocals) {argsL rest : List Value} (hlen : ∀ sig, parseMethodDescriptor y.desc = some sig → argsL.length = sig.parameters.length)
    (hstack : g.stack = argsL.reverse ++ .ref b :: rest) (hW : 2 * g.monitorRoom + (rest.map fun v => v.category).sum ≤ W9) (hdg : decode c.code g.pc = .ok (.invokevirtual index, 3))
    (hpre : ∀ vm₁, s.WarmedH vm₁ → Pre ⟨T.setVm vm₁, locs, cells, slots⟩ (Value.ref b :: argsL).toArray) :
    (∃ (v : Option Value) (vm₁ : Vm) (B : Pt), s.WarmedH vm₁ ∧ Stand p l e R s m args below meth c B.U B.locs B.cells B.slots ∧ Post ⟨T.setVm vm₁, locs, cells, slots⟩ (Value.ref b :: argsL).toArray v B ∧
      ∀ target, Steps p.tables e below (B.U.setTop { g with pc := g.pc + 3, stack := v.toList ++ rest }) target → Steps p.tables e below (T.setTop g) target) ∨
    (∃ (q : Addr) (vm₁ : Vm) (B : Pt), s.WarmedH vm₁ ∧ Stand p l e R s m args below meth c B.U B.locs B.cells B.slots ∧ PostX ⟨T.setVm vm₁, locs, cells, slots⟩ (Value.ref b :: argsL).toArray q B ∧
      Steps p.tables e below (T.setTop g) ((B.U.setTop { g with stack := rest }).pushFrame (.throwing q))) := by
  obtain ⟨mk, methM, hnamed, hmethM, hstM, habM⟩ := Cond.instanceMethod_spec hinst
  obtain ⟨methM', cM, hmethM', -, -, -, -, -, -, hsigM⟩ := Cond.code_spec hnamed hcode
  cases hmethM.symm.trans hmethM'
  obtain ⟨c2, r2, m2, q1, q2, q3, q4, kP, hkP, hkPi⟩ := Cond.selects_spec hsel
  cases hcls.symm.trans q1
  cases (State.methodFound?_of_named hnamed hy).symm.trans q2
  cases hnamed.symm.trans q3
  have hselP : selectMethod e.platform s.vm cellB.cls mk = .method mk := by rw [Launch.admits_selectMethod X.admits]; exact q4
  obtain ⟨vm₁, X₁, hstep₁⟩ := X.invokevirtual hexec hown hlink hnamed hmethM hstM hkP hkPi hy (a := b) (cell := cellB) hcell
    (fun z h => by rw [h] at hobj; cases hobj) hselP hmethM habM hkP hkPi (g := g) hg (argsL := argsL) (rest := rest) (hlen _ hsigM) hstack hdg
  rcases hK m meth c ⟨T.setVm vm₁, locs, cells, slots⟩ { g with stack := rest } (.invokevirtual index) mk (Value.ref b :: argsL).toArray X₁ hg hsize hdg hW (X₁.named hnamed) (hpre vm₁ X₁.warmed) with ⟨v, B, X', hpost, hsteps⟩ | ⟨q, B, X', hpost, hsteps⟩
  · exact Or.inl ⟨v, vm₁, B, X₁.warmed, X', hpost, fun target h => hstep₁ _ fun acts => by rw [doInvoke_state]; exact hsteps.trans h⟩
  · exact Or.inr ⟨q, vm₁, B, X₁.warmed, X', hpost, hstep₁ _ fun acts => by rw [doInvoke_state]; exact hsteps⟩
theorem vx_callS (X : Stand p l e R s m args below meth c T locs cells slots) (hexec : p.tables.exec = Jvm.exec) {own : String} {index : Nat} {y : MethodName} {bytes : ByteArray} {maxL : Nat} {ret : Option FieldType}
    (hown : s.vm.findClass own = some m.cls) (hlink : (Cond.methodLink own index y).before args s = true) (hstat : (Cond.static y).before args s = true) (hinit : (Cond.initialized y.cls).before args s = true)
    (hcode : (Cond.code y bytes maxL ret).before args s = true) (hy : y.cls ≠ "java/lang/invoke/MethodHandle" ∧ y.cls ≠ "java/lang/invoke/VarHandle")
    {W9 : Nat} {Pre : Pt → Array Value → Prop} {Post : Pt → Array Value → Option Value → Pt → Prop} {PostX : Pt → Array Value → Addr → Pt → Prop} (hK : vx_Back l R p e below s args y 3 W9 Pre Post PostX)
    {g : JFrame} (hg : g.method = m) (hsize : g.locals.size = c.maxLocals) {argsL rest : List Value} (hlen : ∀ sig, parseMethodDescriptor y.desc = some sig → argsL.length = sig.parameters.length)
    (hstack : g.stack = argsL.reverse ++ rest) (hW : 2 * g.monitorRoom + (rest.map fun v => v.category).sum ≤ W9) (hdg : decode c.code g.pc = .ok (.invokestatic index, 3))
    (hpre : ∀ vm₁, s.WarmedH vm₁ → Pre ⟨T.setVm vm₁, locs, cells, slots⟩ argsL.toArray) :
    (∃ (v : Option Value) (vm₁ : Vm) (B : Pt), s.WarmedH vm₁ ∧ Stand p l e R s m args below meth c B.U B.locs B.cells B.slots ∧ Post ⟨T.setVm vm₁, locs, cells, slots⟩ argsL.toArray v B ∧
      ∀ target, Steps p.tables e below (B.U.setTop { g with pc := g.pc + 3, stack := v.toList ++ rest }) target → Steps p.tables e below (T.setTop g) target) ∨
    (∃ (q : Addr) (vm₁ : Vm) (B : Pt), s.WarmedH vm₁ ∧ Stand p l e R s m args below meth c B.U B.locs B.cells B.slots ∧ PostX ⟨T.setVm vm₁, locs, cells, slots⟩ argsL.toArray q B ∧
      Steps p.tables e below (T.setTop g) ((B.U.setTop { g with stack := rest }).pushFrame (.throwing q))) := by
  obtain ⟨mk, hnamed⟩ := Cond.code_named hcode
  obtain ⟨methM, cM, hmethM, -, -, -, -, -, -, hsigM⟩ := Cond.code_spec hnamed hcode
  have hstatic : methM.isStatic = true := Cond.static_spec hnamed hmethM hstat
  obtain ⟨kP, hkP, -⟩ := className_of_methodNamed hnamed
  have hinitP : kP.init = .initialized := Cond.initialized_spec (findClass_of_methodNamed hnamed) hkP hinit
  obtain ⟨vm₁, X₁, hstep₁⟩ := X.invokestatic hexec hown hlink hnamed hmethM hstatic hkP hinitP hy (g := g) hg (argsL := argsL) (rest := rest) (hlen _ hsigM) hstack hdg
  rcases hK m meth c ⟨T.setVm vm₁, locs, cells, slots⟩ { g with stack := rest } (.invokestatic index) mk argsL.toArray X₁ hg hsize hdg hW (X₁.named hnamed) (hpre vm₁ X₁.warmed) with ⟨v, B, X', hpost, hsteps⟩ | ⟨q, B, X', hpost, hsteps⟩
  · exact Or.inl ⟨v, vm₁, B, X₁.warmed, X', hpost, fun target h => hstep₁ _ fun acts => by rw [doInvoke_state]; exact hsteps.trans h⟩
  · exact Or.inr ⟨q, vm₁, B, X₁.warmed, X', hpost, hstep₁ _ fun acts => by rw [doInvoke_state]; exact hsteps⟩
end Calls
theorem vx_cls {s : State} {T : State} {vm₁ : Vm} {E : String} {k : ClassId} (hW : s.WarmedH vm₁) (h : (T.setVm vm₁).vm.findClass E = some k) : s.vm.findClass E = some k := by
  have h1 : vm₁.findClass E = some k := h
  rw [hW.alike.findClass] at h1
  exact h1
/-- the method's frame g, with q thrown over it -/
def vx_W (p : Program) (l : Launch) (e : Env) (R : Room) (s : State) (m : MethodId) (args : Array Value) (below : List Frame) (meth : Method) (c : Code) (H : Heap) (locs : List Loc) (cells slots : Nat) (Q : State → Prop) (g : JFrame) (q : Addr) : Prop :=
  ∀ T : State, T.heap = H → Stand p l e R s m args below meth c T locs cells slots → ∃ t, Steps p.tables e below ((T.setTop g).pushFrame (.throwing q)) t ∧ Q t
def vx_Run (p : Program) (l : Launch) (e : Env) (R : Room) (s : State) (m : MethodId) (args : Array Value) (below : List Frame) (meth : Method) (c : Code) (H : Heap) (locs : List Loc) (cells slots mc ms : Nat) (g : JFrame) (rest : List Value) (Qa : State → Outcome → State → Prop) (XC : String → State → State → Prop) (free : Addr → Prop) : Prop :=
  ∀ T : State, T.heap = H → Stand p l e R s m args below meth c T locs cells slots →
    (∃ (v : Option Value) (st₀ t T' : State) (L : List Loc), st₀.heap = H ∧ Stand p l e R s m args below meth c T' (locs ++ L) (cells + mc) (slots + ms) ∧ (∀ q ∈ L, free q.base) ∧ T'.heap = t.heap ∧ T'.vm = t.vm ∧ Qa st₀ (.returned v) t ∧
      Goes p e below T g T' { g with pc := g.pc + 3, stack := v.toList ++ rest }) ∨
    (∃ (q : Addr) (st₀ t T' : State) (L : List Loc) (E : String) (ce : Cell), st₀.heap = H ∧ Stand p l e R s m args below meth c T' (locs ++ L) (cells + mc) (slots + ms) ∧ (∀ z ∈ L, free z.base) ∧ T'.heap = t.heap ∧ T'.vm = t.vm ∧ XC E st₀ t ∧ t.heap[q]? = some ce ∧ ce.vm = .none ∧ s.vm.findClass E = some ce.cls ∧
      Steps p.tables e below (T.setTop g) ((T'.setTop { g with stack := rest }).pushFrame (.throwing q)))
def vx_X {S : Type} (px : S → Prop) (B : String → S → State → Prop) (A : Nat → Prop) : String → State → State → Prop := fun E st t => ∃ u : S, px u ∧ B E u t ∧ va_F A st t
section Runs
variable {p : Program} {l : Launch} {e : Env} {R : Room} {s : State} {m : MethodId} {args : Array Value} {below : List Frame} {meth : Method} {c : Code} {H : Heap} {locs : List Loc} {cells slots : Nat}
variable {y : MethodName} {bytes cc : ByteArray} {maxL nL mc ms n index : Nat} {ret : Option FieldType} {ws : List Cond} {rm : Room} {Pc : Array Value → State → Prop} {Qc : Array Value → State → Outcome → State → Prop} {XC : String → State → State → Prop} {free : Addr → Prop} {Ts : List Cond} {own C : String} {b : Addr} {As rest : List Value} {g : JFrame}
theorem vx_callBack (cb : CallB R s args own index y bytes maxL ret ws rm mc ms n) (hM : vx_Met l y ws rm Pc Qc XC mc ms free) (hbl : FrameBlind Pc) : vx_Back l R p e below s args y 3 8 (PreOf R mc ms Pc) (PostOf Qc mc ms free) (vx_Post XC mc ms free) := by
  obtain ⟨hrc, hrs, hfr, hlo, hws, hcw, -, hini, -⟩ := cb
  exact vx_back (bytes := bytes) (maxL := maxL) (ret := ret) hM hbl hrc hrs hfr hlo hws hcw (fun a' U hW => word_at hW (Or.inl (by first | rfl | simp [Cond.onTables, Cond.keeps, Cond.steady])) hini)
theorem vx_runV (S : CallFix p m c cc nL s args Ts own) (hM : vx_Met l y ws rm Pc Qc XC mc ms free) (cw : CallW R s args own C index y bytes maxL ret ws rm mc ms n) (hp : PreV s H C b Pc As)
    (hg : g.method = m) (hn : As.length = n) (hsize : g.locals.size = nL) (hstack : g.stack = As.reverse ++ .ref b :: rest) (hW : 2 * g.monitorRoom + (rest.map fun v => v.category).sum ≤ 8) (hdg : decode cc g.pc = .ok (.invokevirtual index, 3)) (hf : cells + mc ≤ R.cells ∧ slots + ms ≤ R.slots) :
    vx_Run p l e R s m args below meth c H locs cells slots mc ms g rest (Qc (Value.ref b :: As).toArray) XC free := by
  have hK : vx_Back l R p e below s args y 3 8 (PreOf R mc ms Pc) (PostOf Qc mc ms free) (vx_Post XC mc ms free) := vx_callBack cw.1 hM hp.1
  obtain ⟨⟨-, -, -, -, -, -, hcode, -, hy, hlen, hl⟩, hin, hse⟩ := cw
  obtain ⟨hx, hb, hml, ho, -⟩ := S
  obtain ⟨-, ⟨cellB, hcB, hoB, hclB⟩, hPc⟩ := hp
  intro T hT X
  rcases vx_callV X hx (C := C) (bytes := bytes) (maxL := maxL) (ret := ret) ho hl hin hse hcode hy hK (by rw [hT]; exact hcB) hoB hclB hg (hsize.trans hml.symm) (argsL := As) (rest := rest) (fun sig h => hn.trans (hlen sig h)) hstack hW (by rw [hb]; exact hdg)
    (fun vm₁ hW₁ => ⟨hf.1, hf.2, hPc (T.setVm vm₁) hT hW₁⟩) with ⟨v, vm₁, ⟨U', l2, c2, s2⟩, hW₁, X', ⟨g', mk, t, L, e1, e2, hq, h1, hL, h2, h3⟩, st⟩ | ⟨q, vm₁, ⟨U', l2, c2, s2⟩, hW₁, X', ⟨g', mk, t, L, E, ce, e1, e2, hq, hce, hcv, hcl, h1, hL, h2, h3⟩, st⟩
  · dsimp only [Pt.U, Pt.locs, Pt.cells, Pt.slots] at X' e1 e2 h1 h2 h3 st
    subst h1; subst h2; subst h3
    exact Or.inl ⟨v, (T.setVm vm₁).calling g' mk (Value.ref b :: As).toArray, t, U', L, hT, X', hL, e1, e2, hq, st⟩
  · dsimp only [Pt.U, Pt.locs, Pt.cells, Pt.slots] at X' e1 e2 h1 h2 h3 st hcl
    subst h1; subst h2; subst h3
    exact Or.inr ⟨q, (T.setVm vm₁).calling g' mk (Value.ref b :: As).toArray, t, U', L, E, ce, hT, X', hL, e1, e2, hq, hce, hcv, vx_cls hW₁ hcl, st⟩
theorem vx_runS (S : CallFix p m c cc nL s args Ts own) (hM : vx_Met l y ws rm Pc Qc XC mc ms free) (cw : CallB R s args own index y bytes maxL ret ws rm mc ms n ∧ (Cond.static y).before args s = true) (hp : PreS s H Pc As)
    (hg : g.method = m) (hn : As.length = n) (hsize : g.locals.size = nL) (hstack : g.stack = As.reverse ++ rest) (hW : 2 * g.monitorRoom + (rest.map fun v => v.category).sum ≤ 8) (hdg : decode cc g.pc = .ok (.invokestatic index, 3)) (hf : cells + mc ≤ R.cells ∧ slots + ms ≤ R.slots) :
    vx_Run p l e R s m args below meth c H locs cells slots mc ms g rest (Qc As.toArray) XC free := by
  have hK : vx_Back l R p e below s args y 3 8 (PreOf R mc ms Pc) (PostOf Qc mc ms free) (vx_Post XC mc ms free) := vx_callBack cw.1 hM hp.1
  obtain ⟨⟨-, -, -, -, -, -, hcode, hini, hy, hlen, hl⟩, hstt⟩ := cw
  obtain ⟨hx, hb, hml, ho, -⟩ := S
  intro T hT X
  rcases vx_callS X hx (bytes := bytes) (maxL := maxL) (ret := ret) ho hl hstt hini hcode hy hK hg (hsize.trans hml.symm) (argsL := As) (rest := rest) (fun sig h => hn.trans (hlen sig h)) hstack hW (by rw [hb]; exact hdg)
    (fun vm₁ hW₁ => ⟨hf.1, hf.2, hp.2 (T.setVm vm₁) hT hW₁⟩) with ⟨v, vm₁, ⟨U', l2, c2, s2⟩, hW₁, X', ⟨g', mk, t, L, e1, e2, hq, h1, hL, h2, h3⟩, st⟩ | ⟨q, vm₁, ⟨U', l2, c2, s2⟩, hW₁, X', ⟨g', mk, t, L, E, ce, e1, e2, hq, hce, hcv, hcl, h1, hL, h2, h3⟩, st⟩
  · dsimp only [Pt.U, Pt.locs, Pt.cells, Pt.slots] at X' e1 e2 h1 h2 h3 st
    subst h1; subst h2; subst h3
    exact Or.inl ⟨v, (T.setVm vm₁).calling g' mk As.toArray, t, U', L, hT, X', hL, e1, e2, hq, st⟩
  · dsimp only [Pt.U, Pt.locs, Pt.cells, Pt.slots] at X' e1 e2 h1 h2 h3 st hcl
    subst h1; subst h2; subst h3
    exact Or.inr ⟨q, (T.setVm vm₁).calling g' mk As.toArray, t, U', L, E, ce, hT, X', hL, e1, e2, hq, hce, hcv, vx_cls hW₁ hcl, st⟩
end Runs
section Rows
variable {p : Program} {l : Launch} {e : Env} {R : Room} {s : State} {m : MethodId} {args : Array Value} {below : List Frame} {meth : Method} {c : Code} {H : Heap} {locs : List Loc} {cells slots : Nat} {Q : State → Prop}
variable {mc ms : Nat} {free : Addr → Prop} {A0 A1 : Nat → Prop} {H0 : Heap} {a : Array Value} {pc : Nat} {ls : Array Slot} {st0 rest : List Value}
theorem vx_keep {st₀ t T' : State} {L : List Loc} (h0 : st₀.heap = H) (e1 : T'.heap = t.heap) (hS : va_S A0 H0 H locs) (hA : ∀ q, q < H.size → A1 q → A0 q) (hf : ∀ q, free q → A0 q) (hL : ∀ q ∈ L, free q.base) (hF : va_F A1 st₀ t) :
    H.size ≤ T'.heap.size ∧ (∀ q : Nat, q < H.size → ¬ A1 q → T'.heap[q]? = H[q]?) ∧ va_S A0 H0 T'.heap (locs ++ L) := by
  obtain ⟨hz, hk⟩ := hF
  rw [h0] at hz hk
  exact ⟨by rw [e1]; exact hz, fun q h1 h2 => by rw [e1]; exact hk q h1 h2,
    ⟨Nat.le_trans hS.1 (by rw [e1]; exact hz), fun q h1 h2 => by rw [e1, hk q (Nat.lt_of_lt_of_le h1 hS.1) (fun z => h2 (hA q (Nat.lt_of_lt_of_le h1 hS.1) z))]; exact hS.2.1 q h1 h2, fun q hq => by
      rcases List.mem_append.mp hq with h | h
      · exact hS.2.2 q h
      · exact hf _ (hL q h)⟩⟩
theorem vx_calli {S SX : Type} {post : Int32 → S → Prop} {px : SX → Prop} {B : S → State → Prop} {BX : String → SX → State → Prop} {AX : Nat → Prop} (hr : vx_Run p l e R s m args below meth c H locs cells slots mc ms (F0 m pc ls st0) rest (va_Qi post B A1 a) (vx_X px BX AX) free) (hS : va_S A0 H0 H locs) (hA : ∀ q, q < H.size → A1 q → A0 q) (hf : ∀ q, free q → A0 q) (hAX : ∀ q, q < H.size → AX q → A0 q)
    (kx : ∀ (E : String) (ce : Cell) (q9 : Addr) (u : SX) (t : State) (H1 : Heap) (locs1 : List Loc), t.heap = H1 → s.vm.Alike t.vm → px u → BX E u t → H.size ≤ H1.size → (∀ q : Nat, q < H.size → ¬ AX q → H1[q]? = H[q]?) → va_S A0 H0 H1 locs1 → H1[q9]? = some ce → ce.vm = .none → s.vm.findClass E = some ce.cls → vx_W p l e R s m args below meth c H1 locs1 (cells + mc) (slots + ms) Q (F0 m pc ls rest) q9)
    (kk : ∀ (r : Int32) (u : S) (t : State) (H1 : Heap) (locs1 : List Loc), t.heap = H1 → s.vm.Alike t.vm → post r u → B u t → H.size ≤ H1.size → (∀ q : Nat, q < H.size → ¬ A1 q → H1[q]? = H[q]?) → va_S A0 H0 H1 locs1 → W p l e R s m args below meth c H1 locs1 (cells + mc) (slots + ms) Q (F0 m (pc + 3) ls (.int r :: rest))) : W p l e R s m args below meth c H locs cells slots Q (F0 m pc ls st0) := by
  intro T hT X
  rcases hr T hT X with ⟨v, st₀, t, T', L, h0, X', hL, e1, e2, ⟨⟨r, u, hv, hp, hb⟩, hF⟩, st⟩ | ⟨q, st₀, t, T', L, E, ce, h0, X', hL, e1, e2, ⟨u, hp, hb, hF⟩, hce, hcv, hcl, st⟩
  · cases hv
    obtain ⟨k1, k2, k3⟩ := vx_keep h0 e1 hS hA hf hL hF
    obtain ⟨t2, a1, b1⟩ := kk r u t T'.heap (locs ++ L) e1.symm (by rw [← e2]; exact X'.warmed.alike) hp hb k1 k2 k3 T' rfl X'
    exact ⟨t2, st t2 a1, b1⟩
  · obtain ⟨k1, k2, k3⟩ := vx_keep h0 e1 hS hAX hf hL hF
    obtain ⟨t2, a1, b1⟩ := kx E ce q u t T'.heap (locs ++ L) e1.symm (by rw [← e2]; exact X'.warmed.alike) hp hb k1 k2 k3 (by rw [e1]; exact hce) hcv hcl T' rfl X'
    exact ⟨t2, st.trans a1, b1⟩
theorem vx_calll {S SX : Type} {post : Int64 → S → Prop} {px : SX → Prop} {B : S → State → Prop} {BX : String → SX → State → Prop} {AX : Nat → Prop} (hr : vx_Run p l e R s m args below meth c H locs cells slots mc ms (F0 m pc ls st0) rest (va_Ql post B A1 a) (vx_X px BX AX) free) (hS : va_S A0 H0 H locs) (hA : ∀ q, q < H.size → A1 q → A0 q) (hf : ∀ q, free q → A0 q) (hAX : ∀ q, q < H.size → AX q → A0 q)
    (kx : ∀ (E : String) (ce : Cell) (q9 : Addr) (u : SX) (t : State) (H1 : Heap) (locs1 : List Loc), t.heap = H1 → s.vm.Alike t.vm → px u → BX E u t → H.size ≤ H1.size → (∀ q : Nat, q < H.size → ¬ AX q → H1[q]? = H[q]?) → va_S A0 H0 H1 locs1 → H1[q9]? = some ce → ce.vm = .none → s.vm.findClass E = some ce.cls → vx_W p l e R s m args below meth c H1 locs1 (cells + mc) (slots + ms) Q (F0 m pc ls rest) q9)
    (kk : ∀ (r : Int64) (u : S) (t : State) (H1 : Heap) (locs1 : List Loc), t.heap = H1 → s.vm.Alike t.vm → post r u → B u t → H.size ≤ H1.size → (∀ q : Nat, q < H.size → ¬ A1 q → H1[q]? = H[q]?) → va_S A0 H0 H1 locs1 → W p l e R s m args below meth c H1 locs1 (cells + mc) (slots + ms) Q (F0 m (pc + 3) ls (.long r :: rest))) : W p l e R s m args below meth c H locs cells slots Q (F0 m pc ls st0) := by
  intro T hT X
  rcases hr T hT X with ⟨v, st₀, t, T', L, h0, X', hL, e1, e2, ⟨⟨r, u, hv, hp, hb⟩, hF⟩, st⟩ | ⟨q, st₀, t, T', L, E, ce, h0, X', hL, e1, e2, ⟨u, hp, hb, hF⟩, hce, hcv, hcl, st⟩
  · cases hv
    obtain ⟨k1, k2, k3⟩ := vx_keep h0 e1 hS hA hf hL hF
    obtain ⟨t2, a1, b1⟩ := kk r u t T'.heap (locs ++ L) e1.symm (by rw [← e2]; exact X'.warmed.alike) hp hb k1 k2 k3 T' rfl X'
    exact ⟨t2, st t2 a1, b1⟩
  · obtain ⟨k1, k2, k3⟩ := vx_keep h0 e1 hS hAX hf hL hF
    obtain ⟨t2, a1, b1⟩ := kx E ce q u t T'.heap (locs ++ L) e1.symm (by rw [← e2]; exact X'.warmed.alike) hp hb k1 k2 k3 (by rw [e1]; exact hce) hcv hcl T' rfl X'
    exact ⟨t2, st.trans a1, b1⟩
theorem vx_callf {S SX : Type} {post : UInt32 → S → Prop} {px : SX → Prop} {B : S → State → Prop} {BX : String → SX → State → Prop} {AX : Nat → Prop} (hr : vx_Run p l e R s m args below meth c H locs cells slots mc ms (F0 m pc ls st0) rest (va_Qf post B A1 a) (vx_X px BX AX) free) (hS : va_S A0 H0 H locs) (hA : ∀ q, q < H.size → A1 q → A0 q) (hf : ∀ q, free q → A0 q) (hAX : ∀ q, q < H.size → AX q → A0 q)
    (kx : ∀ (E : String) (ce : Cell) (q9 : Addr) (u : SX) (t : State) (H1 : Heap) (locs1 : List Loc), t.heap = H1 → s.vm.Alike t.vm → px u → BX E u t → H.size ≤ H1.size → (∀ q : Nat, q < H.size → ¬ AX q → H1[q]? = H[q]?) → va_S A0 H0 H1 locs1 → H1[q9]? = some ce → ce.vm = .none → s.vm.findClass E = some ce.cls → vx_W p l e R s m args below meth c H1 locs1 (cells + mc) (slots + ms) Q (F0 m pc ls rest) q9)
    (kk : ∀ (r : UInt32) (u : S) (t : State) (H1 : Heap) (locs1 : List Loc), t.heap = H1 → s.vm.Alike t.vm → post r u → B u t → H.size ≤ H1.size → (∀ q : Nat, q < H.size → ¬ A1 q → H1[q]? = H[q]?) → va_S A0 H0 H1 locs1 → W p l e R s m args below meth c H1 locs1 (cells + mc) (slots + ms) Q (F0 m (pc + 3) ls (.float r :: rest))) : W p l e R s m args below meth c H locs cells slots Q (F0 m pc ls st0) := by
  intro T hT X
  rcases hr T hT X with ⟨v, st₀, t, T', L, h0, X', hL, e1, e2, ⟨⟨r, u, hv, hp, hb⟩, hF⟩, st⟩ | ⟨q, st₀, t, T', L, E, ce, h0, X', hL, e1, e2, ⟨u, hp, hb, hF⟩, hce, hcv, hcl, st⟩
  · cases hv
    obtain ⟨k1, k2, k3⟩ := vx_keep h0 e1 hS hA hf hL hF
    obtain ⟨t2, a1, b1⟩ := kk r u t T'.heap (locs ++ L) e1.symm (by rw [← e2]; exact X'.warmed.alike) hp hb k1 k2 k3 T' rfl X'
    exact ⟨t2, st t2 a1, b1⟩
  · obtain ⟨k1, k2, k3⟩ := vx_keep h0 e1 hS hAX hf hL hF
    obtain ⟨t2, a1, b1⟩ := kx E ce q u t T'.heap (locs ++ L) e1.symm (by rw [← e2]; exact X'.warmed.alike) hp hb k1 k2 k3 (by rw [e1]; exact hce) hcv hcl T' rfl X'
    exact ⟨t2, st.trans a1, b1⟩
theorem vx_calld {S SX : Type} {post : UInt64 → S → Prop} {px : SX → Prop} {B : S → State → Prop} {BX : String → SX → State → Prop} {AX : Nat → Prop} (hr : vx_Run p l e R s m args below meth c H locs cells slots mc ms (F0 m pc ls st0) rest (va_Qd post B A1 a) (vx_X px BX AX) free) (hS : va_S A0 H0 H locs) (hA : ∀ q, q < H.size → A1 q → A0 q) (hf : ∀ q, free q → A0 q) (hAX : ∀ q, q < H.size → AX q → A0 q)
    (kx : ∀ (E : String) (ce : Cell) (q9 : Addr) (u : SX) (t : State) (H1 : Heap) (locs1 : List Loc), t.heap = H1 → s.vm.Alike t.vm → px u → BX E u t → H.size ≤ H1.size → (∀ q : Nat, q < H.size → ¬ AX q → H1[q]? = H[q]?) → va_S A0 H0 H1 locs1 → H1[q9]? = some ce → ce.vm = .none → s.vm.findClass E = some ce.cls → vx_W p l e R s m args below meth c H1 locs1 (cells + mc) (slots + ms) Q (F0 m pc ls rest) q9)
    (kk : ∀ (r : UInt64) (u : S) (t : State) (H1 : Heap) (locs1 : List Loc), t.heap = H1 → s.vm.Alike t.vm → post r u → B u t → H.size ≤ H1.size → (∀ q : Nat, q < H.size → ¬ A1 q → H1[q]? = H[q]?) → va_S A0 H0 H1 locs1 → W p l e R s m args below meth c H1 locs1 (cells + mc) (slots + ms) Q (F0 m (pc + 3) ls (.double r :: rest))) : W p l e R s m args below meth c H locs cells slots Q (F0 m pc ls st0) := by
  intro T hT X
  rcases hr T hT X with ⟨v, st₀, t, T', L, h0, X', hL, e1, e2, ⟨⟨r, u, hv, hp, hb⟩, hF⟩, st⟩ | ⟨q, st₀, t, T', L, E, ce, h0, X', hL, e1, e2, ⟨u, hp, hb, hF⟩, hce, hcv, hcl, st⟩
  · cases hv
    obtain ⟨k1, k2, k3⟩ := vx_keep h0 e1 hS hA hf hL hF
    obtain ⟨t2, a1, b1⟩ := kk r u t T'.heap (locs ++ L) e1.symm (by rw [← e2]; exact X'.warmed.alike) hp hb k1 k2 k3 T' rfl X'
    exact ⟨t2, st t2 a1, b1⟩
  · obtain ⟨k1, k2, k3⟩ := vx_keep h0 e1 hS hAX hf hL hF
    obtain ⟨t2, a1, b1⟩ := kx E ce q u t T'.heap (locs ++ L) e1.symm (by rw [← e2]; exact X'.warmed.alike) hp hb k1 k2 k3 (by rw [e1]; exact hce) hcv hcl T' rfl X'
    exact ⟨t2, st.trans a1, b1⟩
theorem vx_callv {S SX : Type} {post : S → Prop} {px : SX → Prop} {B : S → State → Prop} {BX : String → SX → State → Prop} {AX : Nat → Prop} (hr : vx_Run p l e R s m args below meth c H locs cells slots mc ms (F0 m pc ls st0) rest (va_Qv post B A1 a) (vx_X px BX AX) free) (hS : va_S A0 H0 H locs) (hA : ∀ q, q < H.size → A1 q → A0 q) (hf : ∀ q, free q → A0 q) (hAX : ∀ q, q < H.size → AX q → A0 q)
    (kx : ∀ (E : String) (ce : Cell) (q9 : Addr) (u : SX) (t : State) (H1 : Heap) (locs1 : List Loc), t.heap = H1 → s.vm.Alike t.vm → px u → BX E u t → H.size ≤ H1.size → (∀ q : Nat, q < H.size → ¬ AX q → H1[q]? = H[q]?) → va_S A0 H0 H1 locs1 → H1[q9]? = some ce → ce.vm = .none → s.vm.findClass E = some ce.cls → vx_W p l e R s m args below meth c H1 locs1 (cells + mc) (slots + ms) Q (F0 m pc ls rest) q9)
    (kk : ∀ (u : S) (t : State) (H1 : Heap) (locs1 : List Loc), t.heap = H1 → s.vm.Alike t.vm → post u → B u t → H.size ≤ H1.size → (∀ q : Nat, q < H.size → ¬ A1 q → H1[q]? = H[q]?) → va_S A0 H0 H1 locs1 → W p l e R s m args below meth c H1 locs1 (cells + mc) (slots + ms) Q (F0 m (pc + 3) ls (rest))) : W p l e R s m args below meth c H locs cells slots Q (F0 m pc ls st0) := by
  intro T hT X
  rcases hr T hT X with ⟨v, st₀, t, T', L, h0, X', hL, e1, e2, ⟨⟨u, hv, hp, hb⟩, hF⟩, st⟩ | ⟨q, st₀, t, T', L, E, ce, h0, X', hL, e1, e2, ⟨u, hp, hb, hF⟩, hce, hcv, hcl, st⟩
  · cases hv
    obtain ⟨k1, k2, k3⟩ := vx_keep h0 e1 hS hA hf hL hF
    obtain ⟨t2, a1, b1⟩ := kk u t T'.heap (locs ++ L) e1.symm (by rw [← e2]; exact X'.warmed.alike) hp hb k1 k2 k3 T' rfl X'
    exact ⟨t2, st t2 a1, b1⟩
  · obtain ⟨k1, k2, k3⟩ := vx_keep h0 e1 hS hAX hf hL hF
    obtain ⟨t2, a1, b1⟩ := kx E ce q u t T'.heap (locs ++ L) e1.symm (by rw [← e2]; exact X'.warmed.alike) hp hb k1 k2 k3 (by rw [e1]; exact hce) hcv hcl T' rfl X'
    exact ⟨t2, st.trans a1, b1⟩
/-- caught by the row x of this method's table; the rows ahead don't take it -/
theorem vx_catch {own name : String} {E : String} {ce : Cell} {q : Addr} (hown : s.vm.findClass own = some m.cls) (pre : List ExceptionTableEntry) (x : ExceptionTableEntry) (suf : List ExceptionTableEntry) (hsplit : c.exceptionTable.toList = pre ++ x :: suf)
    (hpass : ∀ z ∈ pre, covers z pc = false ∨ (z.catchType ≠ 0 ∧ ∃ nm : String, (Cond.classLink own z.catchType nm).before args s = true ∧ va_Nc E nm s)) (hx : covers x pc = true) (h0 : x.catchType ≠ 0)
    (hlink : (Cond.classLink own x.catchType name).before args s = true) (hcast : (Cond.castable E name).before args s = true) (hcell : H[q]? = some ce) (hv : ce.vm = .none) (hcl : s.vm.findClass E = some ce.cls)
    (kk : W p l e R s m args below meth c H locs cells slots Q (F0 m x.handlerPc ls [.ref q])) : vx_W p l e R s m args below meth c H locs cells slots Q (F0 m pc ls rest) q := by
  intro T hT X
  have hpl : e.platform.magicAccessors = ({} : Platform).magicAccessors := by rw [X.admits.platform]
  obtain ⟨c3, c4, hc3, hc4, hasg⟩ := Cond.castable_spec hcast
  cases Option.some.inj (hc3.symm.trans hcl)
  obtain ⟨c5, hc5, hcl5⟩ := Cond.classLink_spec hown hlink e.platform hpl
  cases Option.some.inj (hc4.symm.trans hc5)
  obtain ⟨vm', X', st⟩ := X.thenCaughtThrough q (g := F0 m pc ls rest) rfl (Steps.refl _) (by rw [hT]; exact hcell) (by rw [hv]; rfl) (by obtain ⟨k9, h9, -⟩ := Vm.findClass_spec hcl; exact ⟨k9, h9⟩) pre x suf hsplit
    (fun z hz => by
      rcases hpass z hz with h | ⟨hz0, nm, hl1, hn1⟩
      · exact Or.inl h
      · obtain ⟨c6, hc6, hcl6⟩ := Cond.classLink_spec hown hl1 e.platform hpl
        obtain ⟨a8, b8, h1, h2, h3⟩ := hn1
        cases Option.some.inj (h1.symm.trans hcl)
        cases Option.some.inj (h2.symm.trans hc6)
        exact Or.inr ⟨hz0, _, hcl6, h3⟩) hx (Or.inr ⟨h0, c4, hcl5, hasg⟩)
  obtain ⟨t, a1, b1⟩ := kk (T.setVm vm') hT X'
  exact ⟨t, st.trans a1, b1⟩
end Rows
section Ends
variable {p : Program} {l : Launch} {e : Env} {R : Room} {s : State} {m : MethodId} {args : Array Value} {below : List Frame} {meth : Method} {c : Code} {H : Heap} {locs : List Loc} {cells slots : Nat} {Q : State → Prop}
variable {mc ms : Nat} {free : Addr → Prop} {A0 A1 : Nat → Prop} {H0 : Heap} {a : Array Value} {ls : Array Slot} {st0 rest : List Value}
variable {Qc : Array Value → State → Outcome → State → Prop} {XC : String → State → State → Prop}
/-- what a body that may throw owes at its end -/
def vx_MQ (below : List Frame) (Qc : Array Value → State → Outcome → State → Prop) (XC : String → State → State → Prop) (a : Array Value) (s : State) (mc ms : Nat) (free : Addr → Prop) : State → Prop := fun t =>
  ∃ o, t.status = .running ∧ Ended t below o ∧ vx_Q Qc XC mc ms free a s o t
theorem vx_ret {g : JFrame} {mc ms : Nat} (k : W p l e R s m args below meth c H locs cells slots (MQ below Qc args s mc ms free) g) : W p l e R s m args below meth c H locs cells slots (vx_MQ below Qc XC args s mc ms free) g := by
  intro T hT X
  obtain ⟨t, a1, o, b1, b2, b3, b4⟩ := k T hT X
  exact ⟨t, a1, o, b1, b2, Or.inl ⟨b3, b4⟩⟩
/-- not caught here: it goes on to the caller -/
theorem vx_widen {g : JFrame} {q : Addr} {k n : Nat} (h1 : cells ≤ k) (h2 : slots ≤ n) (kk : vx_W p l e R s m args below meth c H locs k n Q g q) : vx_W p l e R s m args below meth c H locs cells slots Q g q := fun T hT X => kk T hT (stand_widen X h1 h2)
theorem vx_out {pc : Nat} {E : String} {ce : Cell} {q : Addr} {mc ms : Nat} (hout : ∀ x ∈ c.exceptionTable.toList, covers x pc = false) (hlocks : meth.locks = false) (hcell : H[q]? = some ce) (hv : ce.vm = .none) (hcl : s.vm.findClass E = some ce.cls)
    (hx : ∀ t : State, t.heap = H → s.vm.Alike t.vm → XC E s t) (hf : ∀ z ∈ locs, free z.base) (hc : cells ≤ mc) (hs : slots ≤ ms) :
    vx_W p l e R s m args below meth c H locs cells slots (vx_MQ below Qc XC args s mc ms free) (F0 m pc ls rest) q := by
  intro T hT X
  obtain ⟨st1, hrun, hend, hW, hsm⟩ := X.leaveThrown q (g := F0 m pc ls rest) rfl rfl rfl hout hlocks
  have hcell9 : (T.setFrames (.throwing q :: below)).heap[q]? = some ce := by
    show T.heap[q]? = some ce
    rw [hT]; exact hcell
  exact ⟨_, st1, .threw q, hrun, hend, Or.inr ⟨q, rfl, E, ce, locs, hx _ hT hW.alike, hcell9, hv, hcl, hW, hsm.mono hc hs, hf⟩⟩
theorem vx_frame {U : State} {k n : Nat} (h : s.sameButNew ({ U with vm := s.vm } : State) locs k n) : s.heap.size ≤ U.heap.size ∧ ∀ q : Nat, q < s.heap.size → (∀ z ∈ locs, z.base ≠ q) → U.heap[q]? = s.heap[q]? := by
  obtain ⟨-, h2, -, -, -, h6⟩ := h
  refine ⟨h2, fun q hq hz => ?_⟩
  obtain ⟨c9, e1, e2, e3, e4⟩ := h6 q _ (Array.getElem?_eq_getElem hq)
  have hs : c9.slots = (s.heap[q]).slots := Array.ext_getElem? fun i => e4 i fun hm => hz _ hm rfl
  have h9 : c9 = s.heap[q] := by
    rw [hs] at e2
    exact e2
  have e5 : U.heap[q]? = some c9 := e1
  rw [e5, h9, Array.getElem?_eq_getElem hq]
/-- the words of a throw but the four that speak of the heap -/
def vx_no (w : Cond) : Bool := decide (w ≠ .isRef (.static Bundle.tN "UNASSIGNED_STACK" Bundle.steD)) && decide (w ≠ .isRef (.static Bundle.tN "SUPPRESSED_SENTINEL" Bundle.listD)) && decide (w ≠ .laysStatic Bundle.tN "UNASSIGNED_STACK" Bundle.steD) && decide (w ≠ .laysStatic Bundle.tN "SUPPRESSED_SENTINEL" Bundle.listD)
def vx_at0 (own : String) (ic : Nat) (X : String) (names : List String) : List Cond := (Bundle.ownAtoms0 own ic X names).filter vx_no
def vx_atS (own : String) (ic : Nat) (X : String) (names : List String) : List Cond := (Bundle.ownAtoms own ic X names).filter vx_no
/-- a word that the tables alone decide, or a good one -/
def vx_ot (w : Cond) : Bool := w.onTables || goodWord w
theorem vx_ot_at {args a' : Array Value} {s U : State} {w : Cond} (hW : s.WarmedH U.vm) (hvm : s.vm = U.vm) (hg : vx_ot w = true) (h : w.before args s = true) : w.before a' U = true := by
  simp only [vx_ot, Bool.or_eq_true] at hg
  rcases hg with hg | hg
  · exact va_tabs hg hvm h
  · exact word_at hW (good_of_word hg) h
/-- a list's words: the good ones out of the method's own list, the others by premises of their own -/
theorem vx_hat {args : Array Value} {s : State} {L B : List Cond} (h1 : ∀ w ∈ L.filter goodWord, w.before args s = true) (h2 : ∀ w ∈ L.filter (fun w => !goodWord w), w ∈ B) (h3 : ∀ w ∈ B, w.before args s = true) : ∀ w ∈ L, w.before args s = true := by
  intro w hw
  by_cases g : goodWord w = true
  · exact h1 w (List.mem_filter.mpr ⟨hw, g⟩)
  · refine h3 w (h2 w (List.mem_filter.mpr ⟨hw, ?_⟩))
    show (!goodWord w) = true
    cases hgw : goodWord w
    · rfl
    · exact absurd hgw g
theorem vx_c {args : Array Value} {s : State} {w : Cond} {B : List Cond} (h : w.before args s = true) (t : ∀ w ∈ B, w.before args s = true) : ∀ w' ∈ w :: B, w'.before args s = true := fun w' h' => (List.mem_cons.mp h').elim (fun e => by rw [e]; exact h) (t w')
theorem vx_n {args : Array Value} {s : State} : ∀ w ∈ ([] : List Cond), w.before args s = true := fun _ h => nomatch h
theorem vx_own {args : Array Value} {s : State} {L : List Cond} (h1 : ∀ w ∈ L.filter vx_no, w.before args s = true)
    (hU : (Cond.isRef (.static Bundle.tN "UNASSIGNED_STACK" Bundle.steD)).before args s = true) (hN : (Cond.isRef (.static Bundle.tN "SUPPRESSED_SENTINEL" Bundle.listD)).before args s = true)
    (lU : (Cond.laysStatic Bundle.tN "UNASSIGNED_STACK" Bundle.steD).before args s = true) (lN : (Cond.laysStatic Bundle.tN "SUPPRESSED_SENTINEL" Bundle.listD).before args s = true) : ∀ w ∈ L, w.before args s = true := by
  intro w hw
  by_cases e1 : w = .isRef (.static Bundle.tN "UNASSIGNED_STACK" Bundle.steD)
  · rw [e1]; exact hU
  · by_cases e2 : w = .isRef (.static Bundle.tN "SUPPRESSED_SENTINEL" Bundle.listD)
    · rw [e2]; exact hN
    · by_cases e3 : w = .laysStatic Bundle.tN "UNASSIGNED_STACK" Bundle.steD
      · rw [e3]; exact lU
      · by_cases e4 : w = .laysStatic Bundle.tN "SUPPRESSED_SENTINEL" Bundle.listD
        · rw [e4]; exact lN
        · exact h1 w (List.mem_filter.mpr ⟨hw, by unfold vx_no; rw [decide_eq_true e1, decide_eq_true e2, decide_eq_true e3, decide_eq_true e4]; rfl⟩)
/-- where a static field lies, its class's statics cell in H -/
def vx_L (C n d : String) (A : Nat → Prop) (U : State) (H : Heap) : Prop := ∃ (c : ClassId) (k : Class) (i : Nat) (f : Field) (a : Nat) (cell : Cell), U.vm.findClass C = some c ∧ U.fieldFound? C n d = some (c, k, i, f) ∧ f.isStatic = true ∧ k.statics = some a ∧ H[a]? = some cell ∧ cell.vm.isStatics = true ∧ cell.cls = c ∧ f.slot < cell.slots.size ∧ k.staticTypes[f.slot]? = some f.type ∧ ¬ A a
theorem vx_L.moved {C n d : String} {A : Nat → Prop} {u U : State} {H : Heap} (hvm : u.vm.Alike U.vm) (h : vx_L C n d A u H) : vx_L C n d A U H := by
  obtain ⟨c, k, i, f, a, cell, h1, h2, h3, h4, h5, h6, h7, h8, h9, h10⟩ := h
  obtain ⟨k', hi', he⟩ := State.fieldFound?_setVm hvm h2
  exact ⟨c, k', i, f, a, cell, by rw [hvm.findClass]; exact h1, hi', h3, by rw [he]; exact h4, h5, h6, h7, h8, by rw [he]; exact h9, h10⟩
theorem vx_L.kept {C n d : String} {A : Nat → Prop} {U : State} {H H1 : Heap} (h : vx_L C n d A U H) (hq : ∀ a : Nat, a < H.size → ¬ A a → H1[a]? = H[a]?) : vx_L C n d A U H1 := by
  obtain ⟨c, k, i, f, a, cell, h1, h2, h3, h4, h5, h6, h7, h8, h9, h10⟩ := h
  exact ⟨c, k, i, f, a, cell, h1, h2, h3, h4, by rw [hq a (Array.getElem?_eq_some_iff.mp h5).1 h10]; exact h5, h6, h7, h8, h9, h10⟩
theorem vx_L.narrow {C n d : String} {A B : Nat → Prop} {U : State} {H : Heap} (h : vx_L C n d A U H) (hAB : ∀ q, B q → A q) : vx_L C n d B U H := by
  obtain ⟨c, k, i, f, a, cell, h1, h2, h3, h4, h5, h6, h7, h8, h9, h10⟩ := h
  exact ⟨c, k, i, f, a, cell, h1, h2, h3, h4, h5, h6, h7, h8, h9, fun z => h10 (hAB _ z)⟩
theorem vx_L.word {C n d : String} {A : Nat → Prop} {s : State} {args : Array Value} (h : vx_L C n d A s s.heap) : (Cond.laysStatic C n d).before args s = true := by
  obtain ⟨c, k, i, f, a, cell, h1, h2, h3, h4, h5, h6, h7, h8, h9, -⟩ := h
  show (Cond.laysStatic C n d).holds args s none s [] = true
  exact Cond.laysStatic_of h1 h2 h3 h4 h5 h6 h7 h8 h9
/-- .. and what it holds: null or some reference -/
def vx_Zq (C n d : String) (A : Nat → Prop) (U : State) (H : Heap) : Prop := va_Zq C n d A U H ∧ vx_L C n d A U H
theorem vx_Zq.moved {C n d : String} {A : Nat → Prop} {u U : State} {H : Heap} (hvm : u.vm.Alike U.vm) (h : vx_Zq C n d A u H) : vx_Zq C n d A U H := ⟨va_Zq.moved hvm h.1, vx_L.moved hvm h.2⟩
theorem vx_Zq.kept {C n d : String} {A : Nat → Prop} {U : State} {H H1 : Heap} (h : vx_Zq C n d A U H) (hq : ∀ a : Nat, a < H.size → ¬ A a → H1[a]? = H[a]?) : vx_Zq C n d A U H1 := ⟨va_Zq.kept h.1 hq, vx_L.kept h.2 hq⟩
theorem vx_Zq.narrow {C n d : String} {A B : Nat → Prop} {U : State} {H : Heap} (h : vx_Zq C n d A U H) (hAB : ∀ q, B q → A q) : vx_Zq C n d B U H := ⟨va_Zq.narrow h.1 hAB, vx_L.narrow h.2 hAB⟩
theorem vx_Zqof {args : Array Value} {s : State} {C n d : String} {A : Nat → Prop} (hl : (Cond.laysStatic C n d).before args s = true) (hini : (Cond.initialized C).before args s = true) (h : (Cond.isRef (.static C n d)).before args s = true) (hA : ∀ a : Nat, a < s.heap.size → ¬ A a) : vx_Zq C n d A s s.heap := by
  refine ⟨va_Zqof hl hini h hA, ?_⟩
  obtain ⟨c, k, i, f, a, cell, h1, h2, h3, h4, h5, h6, h7, h8, h9⟩ := Cond.laysStatic_spec hl
  exact ⟨c, k, i, f, a, cell, h1, h2, h3, h4, h5, h6, h7, h8, h9, hA a (Array.getElem?_eq_some_iff.mp h5).1⟩
theorem vx_isRef {C n d : String} {v : Value} {A : Nat → Prop} {s : State} {args : Array Value} (h : va_Z C n d v A s s.heap) (hv : v.isRef = true) : (Cond.isRef (.static C n d)).before args s = true := by
  obtain ⟨cf, kf, fi, f, a, cell, h1, h2, h3, h4, h5, h6, h7, -⟩ := h
  have he : (Term.static C n d).eval args s none [] s = some v := by
    simp [Term.eval, State.fieldNamed?, h1, h2, h4, h5, h6, h7]
  simp only [Cond.before, Cond.holds, Cond.value, he]
  cases v <;> simp_all [Value.isRef]
theorem vx_isRefq {C n d : String} {A : Nat → Prop} {s : State} {args : Array Value} (h : va_Zq C n d A s s.heap) : (Cond.isRef (.static C n d)).before args s = true := by
  rcases h with h | ⟨t, h⟩
  · exact vx_isRef h rfl
  · exact vx_isRef h rfl
/-- the same frame, seen from here: as if the method were called anew in this heap -/
theorem vx_rebase {T : State} (X : Stand p l e R s m args below meth c T locs cells slots) {R' : Room} (hf : R'.frames ≤ R.frames) (hl : R'.locals ≤ R.locals) (hc : cells + R'.cells ≤ R.cells) (hs : slots + R'.slots ≤ R.slots) :
    Stand p l e R' ((T.setVm s.vm).setFrames (.invoking m args :: below)) m args below meth c T [] 0 0 := by
  have htop : (T.setVm s.vm).topJava?.isSome := X.here.top
  have hF : ((T.setVm s.vm).setFrames (.invoking m args :: below)).frames = .invoking m args :: below := State.frames_setFrames _ (State.cur_lt_of_top htop)
  obtain ⟨g₀, hg0⟩ := Option.isSome_iff_exists.mp htop
  obtain ⟨r, hr⟩ := State.topJava?_eq_some.mp hg0
  have hl9 : e.platform.stackLimits (T.setVm s.vm).me = e.platform.stackLimits s.me := X.limits
  have hb9 : (T.setVm s.vm).me.stackBytes = s.me.stackBytes := X.bytes
  refine ⟨X.admits, X.cas, X.clock, hF, ?_, X.hears, X.method, X.code, X.here, X.tail, X.warmed, ?_, ?_, ?_⟩
  · have h := X.room
    have hU : ((T.setVm s.vm).setFrames (.invoking m args :: below)).localsInUse = s.localsInUse := by
      rw [State.localsInUse_invoking hF (meth := meth) (c := c) X.method X.code, State.localsInUse_invoking X.frames X.method X.code]
    simp only [State.hasRoom, Bool.and_eq_true, decide_eq_true_eq] at h ⊢
    obtain ⟨⟨⟨⟨h1, h2, h3, h4, h5, h6⟩, h7⟩, h8⟩, h9⟩ := h
    rw [X.frames, List.length_cons] at h2 h3
    have q1 := X.heapSize
    have q2 := X.used
    simp only [hF, hU, List.length_cons, State.stackLimits_setFrames, State.stackBytes_setFrames, hl9, hb9]
    refine ⟨⟨⟨⟨by omega, by omega, by omega, by omega, by omega, h6⟩, ?_⟩, ?_⟩, X.book⟩
    · show T.heap.size + R'.cells ≤ e.platform.maxCells
      omega
    · show T.slotsUsed + R'.slots ≤ e.platform.maxSlots
      omega
  · rw [State.stackLimits_setFrames]; rfl
  · rw [State.stackBytes_setFrames]; rfl
  · refine ⟨?_, Nat.le_refl _, Nat.le_refl _, ?_, ?_, fun a c9 h9 => ⟨c9, h9, rfl, rfl, fun _ _ => rfl⟩⟩
    · obtain ⟨t, ht, -⟩ := State.frames_cons hr
      show T.setVm s.vm = { ((T.setVm s.vm).setFrames (.invoking m args :: below)).setFrames (T.setVm s.vm).frames with heap := T.heap, slotsUsed := T.slotsUsed }
      rw [State.setFrames_setFrames, State.setFrames_self ht]
      rfl
    · show T.slotsUsed = T.slotsUsed + ((T.heap.toList.drop T.heap.size).map (·.slots.size)).sum
      rw [List.drop_eq_nil_of_le (Nat.le_of_eq Array.length_toList)]
      rfl
    · show ((T.heap.toList.drop T.heap.size).map (·.slots.size)).sum ≤ 0
      rw [List.drop_eq_nil_of_le (Nat.le_of_eq Array.length_toList)]
      exact Nat.le_refl _
/-- 'throw new E()': new; dup; invokespecial; athrow -/
theorem vx_throw0 {cc : ByteArray} {pc : Nat} (hexec : p.tables.exec = Jvm.exec) (hb : c.code = cc) (hl : l.stackTraces = false) {own cls : String} {names : List String} {ik ic mc ms : Nat} {A : Nat → Prop}
    (hown : s.vm.findClass own = some m.cls) (hcls : Bundle.fit cls = true) (hnames : ∀ n ∈ names, Bundle.fit n = true)
    (hk : (Cond.classLink own ik cls).before args s = true) (hini : (Cond.initialized cls).before args s = true) (hat : ∀ w ∈ vx_at0 own ic cls names, w.before args s = true)
    (hgood : ∀ w ∈ Cond.classLink own ik cls :: Cond.initialized cls :: vx_at0 own ic cls names, vx_ot w = true)
    (hU : vx_Zq Bundle.tN "UNASSIGNED_STACK" Bundle.steD A s s.heap) (hN : vx_Zq Bundle.tN "SUPPRESSED_SENTINEL" Bundle.listD A s s.heap) (hS : va_S A s.heap H locs) (hsize : ls.size = c.maxLocals)
    (d0 : decode cc pc = .ok (.new ik, 3)) (d3 : decode cc (pc + 3) = .ok (.dup, 1)) (d4 : decode cc (pc + 4) = .ok (.invokespecial ic, 3)) (d7 : decode cc (pc + 7) = .ok (.athrow, 1))
    (hout : ∀ x ∈ c.exceptionTable.toList, covers x (pc + 7) = false)
    (hRframes : names.length + 3 < R.frames) (hRlocals : (rest.map fun v => v.category).sum + (13 * (names.length + 1) + 42) ≤ R.locals) (hRcells : cells + 1 ≤ R.cells) (hRslots : slots + 6 ≤ R.slots) (hlocks : meth.locks = false)
    (hx : ∀ t : State, s.vm.Alike t.vm → H.size ≤ t.heap.size → (∀ q : Nat, q < H.size → t.heap[q]? = H[q]?) → XC cls s t)
    (hf : ∀ z ∈ locs, free z.base) (hc : cells + 1 ≤ mc) (hs : slots + 6 ≤ ms) :
    W p l e R s m args below meth c H locs cells slots (vx_MQ below Qc XC args s mc ms free) (F0 m pc ls rest) := by
  intro T hT X
  have htr : e.platform.stackTraces = false := (show e.platform.stackTraces = l.stackTraces by rw [X.admits.platform]).trans hl
  have Y := vx_rebase X (R' := { frames := R.frames, locals := R.locals, cells := 1, slots := 6 }) (Nat.le_refl _) (Nat.le_refl _) hRcells hRslots
  obtain ⟨s', hA⟩ : ∃ z, z = (T.setVm s.vm).setFrames (.invoking m args :: below) := ⟨_, rfl⟩
  rw [← hA] at Y
  have hvm : s'.vm = s.vm := by rw [hA]; rfl
  have hhp : s'.heap = H := by rw [hA]; exact hT
  have hW0 : s.WarmedH s'.vm := by rw [hvm]; exact State.WarmedH.refl s
  have hat' : ∀ w ∈ vx_at0 own ic cls names, w.before args s' = true := fun w hw => vx_ot_at hW0 hvm.symm (hgood w (List.mem_cons_of_mem _ (List.mem_cons_of_mem _ hw))) (hat w hw)
  have hk' : (Cond.classLink own ik cls).before args s' = true := vx_ot_at hW0 hvm.symm (hgood _ List.mem_cons_self) hk
  have hini' : (Cond.initialized cls).before args s' = true := vx_ot_at hW0 hvm.symm (hgood _ (List.mem_cons_of_mem _ List.mem_cons_self)) hini
  have hU' : vx_Zq Bundle.tN "UNASSIGNED_STACK" Bundle.steD A s' s'.heap := by rw [hhp]; exact vx_Zq.moved hW0.alike (hU.kept hS.2.1)
  have hN' : vx_Zq Bundle.tN "SUPPRESSED_SENTINEL" Bundle.listD A s' s'.heap := by rw [hhp]; exact vx_Zq.moved hW0.alike (hN.kept hS.2.1)
  have h : ∀ w ∈ Bundle.ownAtoms0 own ic cls names, w.before args s' = true := vx_own hat' (vx_isRefq hU'.1) (vx_isRefq hN'.1) hU'.2.word hN'.2.word
  have hown' : s'.vm.findClass own = some m.cls := by rw [hvm]; exact hown
  have hins : (Cond.instantiable cls 6).before args s' = true := h _ (by simp [Bundle.ownAtoms0])
  obtain ⟨vm₁, cX, kX, hfX, hkX, -, -, X₁, st1⟩ := Y.newCold hexec (own := own) (C := cls) (index := ik) (n := 6) hown' hk' hins hini'
    (g := F0 m pc ls rest) rfl (by rw [hb]; exact d0) (Nat.le_refl _) (Nat.le_refl _)
  generalize hT1 : (T.setVm vm₁).pushCell { cls := cX, slots := kX.instanceTypes.map defaultValue, vm := .none } = T1 at X₁ st1
  have hcat : (Value.ref T.heap.size).category = 1 := rfl
  have hcellA : T1.heap[T.heap.size]? = some (freshCell cX kX) := by rw [← hT1]; exact State.heap_pushCell_size _ _
  have d3' : decode c.code (pc + 3) = .ok (.dup, 1) := by rw [hb]; exact d3
  obtain ⟨U, hsteps, hrun, hend, hW, hsame, ce, hce, hO⟩ := X₁.ctorThrow0 hexec htr (own := own) (cls := cls) (names := names) (ic := ic) hown' hcls hnames h (fun x hx => nomatch hx) hfX hkX hcellA (by rw [hhp, hT]; exact Nat.le_refl _)
    (g := { method := m, pc := pc + 4, locals := ls, stack := .ref T.heap.size :: .ref T.heap.size :: rest, locked := none }) rfl hsize rfl rfl (rest := rest) rfl
    (by rw [hb]; exact d4) (by rw [hb]; exact d7) hout hRframes (by simp only [List.map_cons, List.sum_cons, hcat]; omega) hlocks
  obtain ⟨f1, f2⟩ := vx_frame hsame
  rw [hhp] at f1 f2
  have hWs : s.WarmedH U.vm := State.WarmedH.trans hW0 hW
  have hcl : s.vm.findClass cls = some ce.cls := by
    have h9 := hO.cls
    rw [hvm] at h9
    exact h9
  have hall : s.sameButNew ({ U with vm := s.vm } : State) locs mc ms := by
    subst hA
    obtain ⟨e1, e2⟩ := hsame
    rw [State.setFrames_setFrames] at e1
    have h2 : (T.setVm s.vm).sameButNew ({ U with vm := s.vm } : State) [] (0 + 1) (0 + 6) := ⟨e1, e2⟩
    have h3 := X.same.trans h2
    rw [List.append_nil] at h3
    exact h3.mono hc hs
  refine ⟨U, ?_, .threw T.heap.size, hrun, hend, Or.inr ⟨T.heap.size, rfl, cls, ce, locs, hx U hWs.alike f1 (fun q hq => f2 q hq (fun z hz => nomatch hz)), hce, hO.vm, hcl, hWs, hall, hf⟩⟩
  refine st1 _ ?_
  show Steps p.tables e below (T1.setTop { method := m, pc := pc + 3, locals := ls, stack := .ref T.heap.size :: rest, locked := none }) _
  jvm_step X₁.here [X₁.here.top, hexec, d3', Value.category]
  exact hsteps
/-- 'throw new E("text")': new; dup; ldc; invokespecial; athrow -/
theorem vx_throwS {cc : ByteArray} {pc : Nat} (hexec : p.tables.exec = Jvm.exec) (hb : c.code = cc) (hl : l.stackTraces = false) {own cls text : String} {names : List String} {ik is ic mc ms sa : Nat} {A : Nat → Prop}
    (hown : s.vm.findClass own = some m.cls) (hcls : Bundle.fit cls = true) (hnames : ∀ n ∈ names, Bundle.fit n = true)
    (hk : (Cond.classLink own ik cls).before args s = true) (hini : (Cond.initialized cls).before args s = true) (hstr : vk_R own is text sa s) (hat : ∀ w ∈ vx_atS own ic cls names, w.before args s = true)
    (hgood : ∀ w ∈ Cond.classLink own ik cls :: Cond.initialized cls :: vx_atS own ic cls names, vx_ot w = true)
    (hU : vx_Zq Bundle.tN "UNASSIGNED_STACK" Bundle.steD A s s.heap) (hN : vx_Zq Bundle.tN "SUPPRESSED_SENTINEL" Bundle.listD A s s.heap) (hS : va_S A s.heap H locs) (hsize : ls.size = c.maxLocals)
    (d0 : decode cc pc = .ok (.new ik, 3)) (d3 : decode cc (pc + 3) = .ok (.dup, 1)) (d4 : decode cc (pc + 4) = .ok (.ldc is, 2)) (d6 : decode cc (pc + 6) = .ok (.invokespecial ic, 3)) (d9 : decode cc (pc + 9) = .ok (.athrow, 1))
    (hout : ∀ x ∈ c.exceptionTable.toList, covers x (pc + 9) = false)
    (hRframes : names.length + 3 < R.frames) (hRlocals : (rest.map fun v => v.category).sum + (13 * (names.length + 1) + 43) ≤ R.locals) (hRcells : cells + 1 ≤ R.cells) (hRslots : slots + 6 ≤ R.slots) (hlocks : meth.locks = false)
    (hx : ∀ t : State, s.vm.Alike t.vm → H.size ≤ t.heap.size → (∀ q : Nat, q < H.size → t.heap[q]? = H[q]?) → XC cls s t)
    (hf : ∀ z ∈ locs, free z.base) (hc : cells + 1 ≤ mc) (hs : slots + 6 ≤ ms) :
    W p l e R s m args below meth c H locs cells slots (vx_MQ below Qc XC args s mc ms free) (F0 m pc ls rest) := by
  intro T hT X
  have htr : e.platform.stackTraces = false := (show e.platform.stackTraces = l.stackTraces by rw [X.admits.platform]).trans hl
  have Y := vx_rebase X (R' := { frames := R.frames, locals := R.locals, cells := 1, slots := 6 }) (Nat.le_refl _) (Nat.le_refl _) hRcells hRslots
  obtain ⟨s', hA⟩ : ∃ z, z = (T.setVm s.vm).setFrames (.invoking m args :: below) := ⟨_, rfl⟩
  rw [← hA] at Y
  have hvm : s'.vm = s.vm := by rw [hA]; rfl
  have hhp : s'.heap = H := by rw [hA]; exact hT
  have hW0 : s.WarmedH s'.vm := by rw [hvm]; exact State.WarmedH.refl s
  have hat' : ∀ w ∈ vx_atS own ic cls names, w.before args s' = true := fun w hw => vx_ot_at hW0 hvm.symm (hgood w (List.mem_cons_of_mem _ (List.mem_cons_of_mem _ hw))) (hat w hw)
  have hk' : (Cond.classLink own ik cls).before args s' = true := vx_ot_at hW0 hvm.symm (hgood _ List.mem_cons_self) hk
  have hini' : (Cond.initialized cls).before args s' = true := vx_ot_at hW0 hvm.symm (hgood _ (List.mem_cons_of_mem _ List.mem_cons_self)) hini
  have hU' : vx_Zq Bundle.tN "UNASSIGNED_STACK" Bundle.steD A s' s'.heap := by rw [hhp]; exact vx_Zq.moved hW0.alike (hU.kept hS.2.1)
  have hN' : vx_Zq Bundle.tN "SUPPRESSED_SENTINEL" Bundle.listD A s' s'.heap := by rw [hhp]; exact vx_Zq.moved hW0.alike (hN.kept hS.2.1)
  have h : ∀ w ∈ Bundle.ownAtoms own ic cls names, w.before args s' = true := vx_own hat' (vx_isRefq hU'.1) (vx_isRefq hN'.1) hU'.2.word hN'.2.word
  have hown' : s'.vm.findClass own = some m.cls := by rw [hvm]; exact hown
  have hins : (Cond.instantiable cls 6).before args s' = true := h _ (by simp [Bundle.ownAtoms])
  obtain ⟨vm₁, cX, kX, hfX, hkX, -, -, X₁, st1⟩ := Y.newCold hexec (own := own) (C := cls) (index := ik) (n := 6) hown' hk' hins hini'
    (g := F0 m pc ls rest) rfl (by rw [hb]; exact d0) (Nat.le_refl _) (Nat.le_refl _)
  generalize hT1 : (T.setVm vm₁).pushCell { cls := cX, slots := kX.instanceTypes.map defaultValue, vm := .none } = T1 at X₁ st1
  have hcat : (Value.ref T.heap.size).category = 1 := rfl
  have hcellA : T1.heap[T.heap.size]? = some (freshCell cX kX) := by rw [← hT1]; exact State.heap_pushCell_size _ _
  have d3' : decode c.code (pc + 3) = .ok (.dup, 1) := by rw [hb]; exact d3
  have d4' : decode c.code (pc + 4) = .ok (.ldc is, 2) := by rw [hb]; exact d4
  have hstr' : vk_R own is text sa s' := vk_R.warm hW0 hstr
  obtain ⟨U, hsteps, hrun, hend, hW, hsame, ce, hce, hO⟩ := X₁.ctorThrowS hexec htr (own := own) (cls := cls) (names := names) (ic := ic) hown' hcls hnames h (fun x hx => nomatch hx) hfX hkX hcellA (by rw [hhp, hT]; exact Nat.le_refl _) (msg := .ref sa) rfl
    (g := { method := m, pc := pc + 6, locals := ls, stack := .ref sa :: .ref T.heap.size :: .ref T.heap.size :: rest, locked := none }) rfl hsize rfl rfl (rest := rest) rfl
    (by rw [hb]; exact d6) (by rw [hb]; exact d9) hout hRframes (by simp only [List.map_cons, List.sum_cons, hcat]; omega) hlocks
  obtain ⟨f1, f2⟩ := vx_frame hsame
  rw [hhp] at f1 f2
  have hWs : s.WarmedH U.vm := State.WarmedH.trans hW0 hW
  have hcl : s.vm.findClass cls = some ce.cls := by
    have h9 := hO.cls
    rw [hvm] at h9
    exact h9
  have hall : s.sameButNew ({ U with vm := s.vm } : State) locs mc ms := by
    subst hA
    obtain ⟨e1, e2⟩ := hsame
    rw [State.setFrames_setFrames] at e1
    have h2 : (T.setVm s.vm).sameButNew ({ U with vm := s.vm } : State) [] (0 + 1) (0 + 6) := ⟨e1, e2⟩
    have h3 := X.same.trans h2
    rw [List.append_nil] at h3
    exact h3.mono hc hs
  refine ⟨U, ?_, .threw T.heap.size, hrun, hend, Or.inr ⟨T.heap.size, rfl, cls, ce, locs, hx U hWs.alike f1 (fun q hq => f2 q hq (fun z hz => nomatch hz)), hce, hO.vm, hcl, hWs, hall, hf⟩⟩
  refine st1 _ ?_
  show Steps p.tables e below (T1.setTop { method := m, pc := pc + 3, locals := ls, stack := .ref T.heap.size :: rest, locked := none }) _
  jvm_step X₁.here [X₁.here.top, hexec, d3', Value.category]
  exact X₁.ldcString hexec (own := own) (text := text) (index := is) (a := sa) hown' hstr'.1 hstr'.2
    (g := { method := m, pc := pc + 4, locals := ls, stack := .ref T.heap.size :: .ref T.heap.size :: rest, locked := none }) rfl d4' _ hsteps
/-- 'throw new E("text")', the text by a wide index -/
theorem vx_throwSW {cc : ByteArray} {pc : Nat} (hexec : p.tables.exec = Jvm.exec) (hb : c.code = cc) (hl : l.stackTraces = false) {own cls text : String} {names : List String} {ik is ic mc ms sa : Nat} {A : Nat → Prop}
    (hown : s.vm.findClass own = some m.cls) (hcls : Bundle.fit cls = true) (hnames : ∀ n ∈ names, Bundle.fit n = true)
    (hk : (Cond.classLink own ik cls).before args s = true) (hini : (Cond.initialized cls).before args s = true) (hstr : vk_R own is text sa s) (hat : ∀ w ∈ vx_atS own ic cls names, w.before args s = true)
    (hgood : ∀ w ∈ Cond.classLink own ik cls :: Cond.initialized cls :: vx_atS own ic cls names, vx_ot w = true)
    (hU : vx_Zq Bundle.tN "UNASSIGNED_STACK" Bundle.steD A s s.heap) (hN : vx_Zq Bundle.tN "SUPPRESSED_SENTINEL" Bundle.listD A s s.heap) (hS : va_S A s.heap H locs) (hsize : ls.size = c.maxLocals)
    (d0 : decode cc pc = .ok (.new ik, 3)) (d3 : decode cc (pc + 3) = .ok (.dup, 1)) (d4 : decode cc (pc + 4) = .ok (.ldc_w is, 3)) (d7 : decode cc (pc + 7) = .ok (.invokespecial ic, 3)) (d10 : decode cc (pc + 10) = .ok (.athrow, 1))
    (hout : ∀ x ∈ c.exceptionTable.toList, covers x (pc + 10) = false)
    (hRframes : names.length + 3 < R.frames) (hRlocals : (rest.map fun v => v.category).sum + (13 * (names.length + 1) + 43) ≤ R.locals) (hRcells : cells + 1 ≤ R.cells) (hRslots : slots + 6 ≤ R.slots) (hlocks : meth.locks = false)
    (hx : ∀ t : State, s.vm.Alike t.vm → H.size ≤ t.heap.size → (∀ q : Nat, q < H.size → t.heap[q]? = H[q]?) → XC cls s t)
    (hf : ∀ z ∈ locs, free z.base) (hc : cells + 1 ≤ mc) (hs : slots + 6 ≤ ms) :
    W p l e R s m args below meth c H locs cells slots (vx_MQ below Qc XC args s mc ms free) (F0 m pc ls rest) := by
  intro T hT X
  have htr : e.platform.stackTraces = false := (show e.platform.stackTraces = l.stackTraces by rw [X.admits.platform]).trans hl
  have Y := vx_rebase X (R' := { frames := R.frames, locals := R.locals, cells := 1, slots := 6 }) (Nat.le_refl _) (Nat.le_refl _) hRcells hRslots
  obtain ⟨s', hA⟩ : ∃ z, z = (T.setVm s.vm).setFrames (.invoking m args :: below) := ⟨_, rfl⟩
  rw [← hA] at Y
  have hvm : s'.vm = s.vm := by rw [hA]; rfl
  have hhp : s'.heap = H := by rw [hA]; exact hT
  have hW0 : s.WarmedH s'.vm := by rw [hvm]; exact State.WarmedH.refl s
  have hat' : ∀ w ∈ vx_atS own ic cls names, w.before args s' = true := fun w hw => vx_ot_at hW0 hvm.symm (hgood w (List.mem_cons_of_mem _ (List.mem_cons_of_mem _ hw))) (hat w hw)
  have hk' : (Cond.classLink own ik cls).before args s' = true := vx_ot_at hW0 hvm.symm (hgood _ List.mem_cons_self) hk
  have hini' : (Cond.initialized cls).before args s' = true := vx_ot_at hW0 hvm.symm (hgood _ (List.mem_cons_of_mem _ List.mem_cons_self)) hini
  have hU' : vx_Zq Bundle.tN "UNASSIGNED_STACK" Bundle.steD A s' s'.heap := by rw [hhp]; exact vx_Zq.moved hW0.alike (hU.kept hS.2.1)
  have hN' : vx_Zq Bundle.tN "SUPPRESSED_SENTINEL" Bundle.listD A s' s'.heap := by rw [hhp]; exact vx_Zq.moved hW0.alike (hN.kept hS.2.1)
  have h : ∀ w ∈ Bundle.ownAtoms own ic cls names, w.before args s' = true := vx_own hat' (vx_isRefq hU'.1) (vx_isRefq hN'.1) hU'.2.word hN'.2.word
  have hown' : s'.vm.findClass own = some m.cls := by rw [hvm]; exact hown
  have hins : (Cond.instantiable cls 6).before args s' = true := h _ (by simp [Bundle.ownAtoms])
  obtain ⟨vm₁, cX, kX, hfX, hkX, -, -, X₁, st1⟩ := Y.newCold hexec (own := own) (C := cls) (index := ik) (n := 6) hown' hk' hins hini'
    (g := F0 m pc ls rest) rfl (by rw [hb]; exact d0) (Nat.le_refl _) (Nat.le_refl _)
  generalize hT1 : (T.setVm vm₁).pushCell { cls := cX, slots := kX.instanceTypes.map defaultValue, vm := .none } = T1 at X₁ st1
  have hcat : (Value.ref T.heap.size).category = 1 := rfl
  have hcellA : T1.heap[T.heap.size]? = some (freshCell cX kX) := by rw [← hT1]; exact State.heap_pushCell_size _ _
  have d3' : decode c.code (pc + 3) = .ok (.dup, 1) := by rw [hb]; exact d3
  have d4' : decode c.code (pc + 4) = .ok (.ldc_w is, 3) := by rw [hb]; exact d4
  have hstr' : vk_R own is text sa s' := vk_R.warm hW0 hstr
  obtain ⟨U, hsteps, hrun, hend, hW, hsame, ce, hce, hO⟩ := X₁.ctorThrowS hexec htr (own := own) (cls := cls) (names := names) (ic := ic) hown' hcls hnames h (fun x hx => nomatch hx) hfX hkX hcellA (by rw [hhp, hT]; exact Nat.le_refl _) (msg := .ref sa) rfl
    (g := { method := m, pc := pc + 7, locals := ls, stack := .ref sa :: .ref T.heap.size :: .ref T.heap.size :: rest, locked := none }) rfl hsize rfl rfl (rest := rest) rfl
    (by rw [hb]; exact d7) (by rw [hb]; exact d10) hout hRframes (by simp only [List.map_cons, List.sum_cons, hcat]; omega) hlocks
  obtain ⟨f1, f2⟩ := vx_frame hsame
  rw [hhp] at f1 f2
  have hWs : s.WarmedH U.vm := State.WarmedH.trans hW0 hW
  have hcl : s.vm.findClass cls = some ce.cls := by
    have h9 := hO.cls
    rw [hvm] at h9
    exact h9
  have hall : s.sameButNew ({ U with vm := s.vm } : State) locs mc ms := by
    subst hA
    obtain ⟨e1, e2⟩ := hsame
    rw [State.setFrames_setFrames] at e1
    have h2 : (T.setVm s.vm).sameButNew ({ U with vm := s.vm } : State) [] (0 + 1) (0 + 6) := ⟨e1, e2⟩
    have h3 := X.same.trans h2
    rw [List.append_nil] at h3
    exact h3.mono hc hs
  refine ⟨U, ?_, .threw T.heap.size, hrun, hend, Or.inr ⟨T.heap.size, rfl, cls, ce, locs, hx U hWs.alike f1 (fun q hq => f2 q hq (fun z hz => nomatch hz)), hce, hO.vm, hcl, hWs, hall, hf⟩⟩
  refine st1 _ ?_
  show Steps p.tables e below (T1.setTop { method := m, pc := pc + 3, locals := ls, stack := .ref T.heap.size :: rest, locked := none }) _
  jvm_step X₁.here [X₁.here.top, hexec, d3', Value.category]
  exact X₁.ldcStringW hexec (own := own) (text := text) (index := is) (a := sa) hown' hstr'.1 hstr'.2
    (g := { method := m, pc := pc + 4, locals := ls, stack := .ref T.heap.size :: .ref T.heap.size :: rest, locked := none }) rfl d4' _ hsteps
end Ends
section Bodies
variable {l : Launch}
theorem vx_ofW {y : MethodName} {ws ws' : List Cond} {rm : Room} {Pc : Array Value → State → Prop} {Qc : Array Value → State → Outcome → State → Prop} {XC : String → State → State → Prop} {mc ms : Nat} {free : Addr → Prop} {cc : ByteArray} {maxL : Nat} {ret : Option FieldType}
    (hy : plainName y.cls = true) (hw : ws = Cond.code y cc maxL ret :: ws')
    (body : ∀ p e s m args below meth c s₁, BodyLoose p l y (headSpec ws rm) cc maxL ret e s m args below meth c s₁ → c.maxLocals = maxL → (∀ x ∈ c.exceptionTable.toList, False) → Pc args s →
      W p l e (headSpec ws rm).room s m args below meth c s.heap [] 0 0 (vx_MQ below Qc XC args s mc ms free) (entryFrame m args maxL)) : vx_Met l y ws rm Pc Qc XC mc ms free := by
  refine MetFree.of_bodyS (code := cc) (maxLocals := maxL) (ret := ret) hy ?_ ?_
  · intro args s m h hn
    obtain ⟨meth, c, h1, h2, h3, h4, h5, h6, -, -⟩ := Cond.code_spec hn (atoms_spec (ws := ws) h _ (by rw [hw]; exact List.mem_cons_self))
    exact ⟨meth, c, h1, h2, h3, h4, h5, h6⟩
  · intro p e s m args below meth c s₁ B hml hP _
    have hh0 : s₁.heap = s.heap := by rw [B.state]; rfl
    have ht : ∀ x ∈ c.exceptionTable.toList, False := by
      obtain ⟨meth9, c9, h1, h2, -, -, -, -, h7, -⟩ := Cond.code_spec B.named (atoms_spec (ws := ws) B.pre _ (by rw [hw]; exact List.mem_cons_self))
      cases Option.some.inj (h1.symm.trans B.method)
      cases Option.some.inj (h2.symm.trans (Stand.of_body B).code)
      intro x hx
      rw [Array.isEmpty_iff.mp h7] at hx
      cases hx
    obtain ⟨t, a1, o, b1, b2, b3⟩ := body p e s m args below meth c s₁ B hml ht hP s₁ hh0 (Stand.of_body B)
    exact ⟨t, o, a1, b1, b2, b3⟩
/-- the table of a body with handlers -/
theorem vx_table {p : Program} {x y : MethodName} {S : Spec} {cc bytes : ByteArray} {maxL maxL' : Nat} {ret ret' : Option FieldType} {e : Env} {s s₁ : State} {m : MethodId} {args : Array Value} {below : List Frame} {meth : Method} {c : Code} {hh : List (Nat × Nat × Nat × Nat)}
    (B : BodyLoose p l y S cc maxL ret e s m args below meth c s₁) (h : (Cond.codeWith y bytes maxL' ret' hh).before args s = true) : c.exceptionTable.toList = tableOf hh := by
  obtain ⟨m9, meth9, c9, hn9, h1, h2, -, -, h6, -⟩ := Cond.codeWith_spec h
  cases Option.some.inj (hn9.symm.trans B.named)
  cases Option.some.inj (h1.symm.trans B.method)
  cases Option.some.inj (h2.symm.trans (Stand.of_body B).code)
  rw [← h6, table_eq]
end Bodies
end VXA
/-! ===== END ===== -/
/-! ===== BEGIN a static call of a method with an exception table ===== -/
section VXS
variable {p : Program} {l : Launch} {e : Env} {R : Room} {s : State} {m : MethodId} {args : Array Value} {below : List Frame} {meth : Method} {c : Code} {T : State} {H : Heap} {locs : List Loc} {cells slots : Nat}
abbrev vx_CSW (R : Room) (s : State) (args : Array Value) (own : String) (index : Nat) (y : MethodName) (bytes : ByteArray) (maxL : Nat) (ret : Option FieldType) (hh : List (Nat × Nat × Nat × Nat)) (ws : List Cond) (rm : Room) (mc ms n : Nat) : Prop :=
  (rm.cells = mc ∧ rm.slots = ms ∧ rm.frames + 1 ≤ R.frames ∧ 8 + (maxL + 11) + rm.locals ≤ R.locals ∧ (∀ w ∈ ws, ∀ (a' : Array Value) (U : State), s.WarmedH U.vm → w.before a' U = true) ∧ Cond.codeWith y bytes maxL ret hh ∈ ws) ∧
  (Cond.codeWith y bytes maxL ret hh).before args s = true ∧ (Cond.initialized y.cls).before args s = true ∧ (y.cls ≠ "java/lang/invoke/MethodHandle" ∧ y.cls ≠ "java/lang/invoke/VarHandle") ∧
  (∀ sig, parseMethodDescriptor y.desc = some sig → n = sig.parameters.length) ∧ (Cond.methodLink own index y).before args s = true ∧ (Cond.static y).before args s = true
theorem vx_cwSW {own : String} {index maxL mc ms : Nat} {y : MethodName} {bytes : ByteArray} {ret : Option FieldType} {hh : List (Nat × Nat × Nat × Nat)} {Ts ws ws' : List Cond} {rm : Room} (n : Nat) (ht : ∀ w ∈ Ts, w.before args s = true) (hT : GoodIn Ts (va_wsS own index y ws)) (hw : ws = Cond.codeWith y bytes maxL ret hh :: ws') (hrc : rm.cells = mc) (hrs : rm.slots = ms)
    (hd : y.cls ≠ "java/lang/invoke/MethodHandle" ∧ y.cls ≠ "java/lang/invoke/VarHandle" ∧ (parseMethodDescriptor y.desc).map (fun d => d.parameters.length) = some n) (hR : rm.frames + 1 ≤ R.frames ∧ 8 + (maxL + 11) + rm.locals ≤ R.locals) :
    vx_CSW R s args own index y bytes maxL ret hh ws rm mc ms n := by
  have ok : ∀ w ∈ va_wsS own index y ws, w.before args s = true := fun w h => ht w (hT w h).1
  have hG : GoodIn Ts ws := fun w h => hT w (by unfold va_wsS; exact List.mem_append_right _ h)
  have hc : Cond.codeWith y bytes maxL ret hh ∈ ws := by rw [hw]; exact List.mem_cons_self
  refine ⟨⟨hrc, hrs, hR.1, hR.2, pay_in ht hG, hc⟩, ht _ (hG _ hc).1, ok _ (by simp [va_wsS]), ⟨hd.1, hd.2.1⟩, fun sig h => ?_, ok _ (by simp [va_wsS]), ok _ (by simp [va_wsS])⟩
  have h2 := hd.2.2
  rw [h] at h2
  exact (Option.some.inj h2).symm
theorem vx_callSW (X : Stand p l e R s m args below meth c T locs cells slots) (hexec : p.tables.exec = Jvm.exec) {own : String} {index : Nat} {y : MethodName} {bytes : ByteArray} {maxL : Nat} {ret : Option FieldType} {hh : List (Nat × Nat × Nat × Nat)}
    (hown : s.vm.findClass own = some m.cls) (hlink : (Cond.methodLink own index y).before args s = true) (hstat : (Cond.static y).before args s = true) (hinit : (Cond.initialized y.cls).before args s = true)
    (hcode : (Cond.codeWith y bytes maxL ret hh).before args s = true) (hy : y.cls ≠ "java/lang/invoke/MethodHandle" ∧ y.cls ≠ "java/lang/invoke/VarHandle")
    {W9 : Nat} {Pre : Pt → Array Value → Prop} {Post : Pt → Array Value → Option Value → Pt → Prop} (hK : Back l R p e below s args y 3 W9 Pre Post)
    {g : JFrame} (hg : g.method = m) (hsize : g.locals.size = c.maxLocals) {argsL rest : List Value} (hlen : ∀ sig, parseMethodDescriptor y.desc = some sig → argsL.length = sig.parameters.length)
    (hstack : g.stack = argsL.reverse ++ rest) (hW : 2 * g.monitorRoom + (rest.map fun v => v.category).sum ≤ W9) (hdg : decode c.code g.pc = .ok (.invokestatic index, 3))
    (hpre : ∀ vm₁, s.WarmedH vm₁ → Pre ⟨T.setVm vm₁, locs, cells, slots⟩ argsL.toArray) :
    ∃ (v : Option Value) (vm₁ : Vm) (B : Pt), s.WarmedH vm₁ ∧ Stand p l e R s m args below meth c B.U B.locs B.cells B.slots ∧ Post ⟨T.setVm vm₁, locs, cells, slots⟩ argsL.toArray v B ∧
      ∀ target, Steps p.tables e below (B.U.setTop { g with pc := g.pc + 3, stack := v.toList ++ rest }) target → Steps p.tables e below (T.setTop g) target := by
  obtain ⟨mk, methM, cM, hnamed, hmethM, -, -, -, -, -, -, hsigM⟩ := Cond.codeWith_spec hcode
  have hstatic : methM.isStatic = true := Cond.static_spec hnamed hmethM hstat
  obtain ⟨kP, hkP, -⟩ := className_of_methodNamed hnamed
  have hinitP : kP.init = .initialized := Cond.initialized_spec (findClass_of_methodNamed hnamed) hkP hinit
  obtain ⟨vm₁, X₁, hstep₁⟩ := X.invokestatic hexec hown hlink hnamed hmethM hstatic hkP hinitP hy (g := g) hg (argsL := argsL) (rest := rest) (hlen _ hsigM) hstack hdg
  obtain ⟨v, B, X', hpost, hsteps⟩ := hK m meth c ⟨T.setVm vm₁, locs, cells, slots⟩ { g with stack := rest } (.invokestatic index) mk argsL.toArray X₁ hg hsize hdg hW (X₁.named hnamed) (hpre vm₁ X₁.warmed)
  exact ⟨v, vm₁, B, X₁.warmed, X', hpost, fun target h => hstep₁ _ fun acts => by rw [doInvoke_state]; exact hsteps.trans h⟩
theorem vx_runSW {y : MethodName} {bytes cc : ByteArray} {maxL nL mc ms n index : Nat} {ret : Option FieldType} {hh : List (Nat × Nat × Nat × Nat)} {ws : List Cond} {rm : Room} {Pc : Array Value → State → Prop} {Qc : Array Value → State → Outcome → State → Prop} {free : Addr → Prop} {Ts : List Cond} {own : String} {As rest : List Value} {g : JFrame}
    (S : CallFix p m c cc nL s args Ts own) (hM : Met l y ws rm Pc Qc mc ms free) (cw : vx_CSW R s args own index y bytes maxL ret hh ws rm mc ms n) (hp : PreS s H Pc As)
    (hg : g.method = m) (hn : As.length = n) (hsize : g.locals.size = nL) (hstack : g.stack = As.reverse ++ rest) (hW : 2 * g.monitorRoom + (rest.map fun v => v.category).sum ≤ 8) (hdg : decode cc g.pc = .ok (.invokestatic index, 3)) (hf : cells + mc ≤ R.cells ∧ slots + ms ≤ R.slots) :
    va_Run p l e R s m args below meth c H locs cells slots mc ms g rest (Qc As.toArray) (free) := by
  obtain ⟨⟨hrc, hrs, hfr, hlo, hws, hcw⟩, hcode, hini, hy, hlen, hl, hstt⟩ := cw
  have hK : Back l R p e below s args y 3 8 (PreOf R mc ms Pc) (PostOf Qc mc ms free) := va_backW (hh := hh) (bytes := bytes) (maxL := maxL) (ret := ret) hM hp.1 hrc hrs hfr hlo hws hcw (fun a' U hW => word_at hW (Or.inl (by first | rfl | simp [Cond.onTables, Cond.keeps, Cond.steady])) hini)
  obtain ⟨hx, hb, hml, ho, -⟩ := S
  intro T hT X
  obtain ⟨v, vm₁, ⟨U', l2, c2, s2⟩, hW₁, X', ⟨g', mk, t, L, e1, e2, hq, h1, hL, h2, h3⟩, st⟩ := vx_callSW X hx (hh := hh) (bytes := bytes) (maxL := maxL) (ret := ret) ho hl hstt hini hcode hy hK hg (hsize.trans hml.symm) (argsL := As) (rest := rest) (fun sig h => hn.trans (hlen sig h)) hstack hW (by rw [hb]; exact hdg)
    (fun vm₁ hW₁ => ⟨hf.1, hf.2, hp.2 (T.setVm vm₁) hT hW₁⟩)
  dsimp only [Pt.U, Pt.locs, Pt.cells, Pt.slots] at X' e1 e2 h1 h2 h3 st
  subst h1; subst h2; subst h3
  exact ⟨v, (T.setVm vm₁).calling g' mk As.toArray, t, U', L, hT, X', hL, e1, e2, hq, st⟩
/-- not caught here, past rows that name other classes: it goes on to the caller -/
theorem vx_outP {p : Program} {l : Launch} {e : Env} {R : Room} {s : State} {m : MethodId} {args : Array Value} {below : List Frame} {meth : Method} {c : Code} {H : Heap} {locs : List Loc} {cells slots : Nat} {free : Addr → Prop} {ls : Array Slot} {rest : List Value} {Qc : Array Value → State → Outcome → State → Prop} {XC : String → State → State → Prop}
    {pc : Nat} {own E : String} {ce : Cell} {q : Addr} {mc ms : Nat} (hown : s.vm.findClass own = some m.cls) (hlocks : meth.locks = false)
    (hpass : ∀ z ∈ c.exceptionTable.toList, covers z pc = false ∨ (z.catchType ≠ 0 ∧ ∃ nm : String, (Cond.classLink own z.catchType nm).before args s = true ∧ va_Nc E nm s)) (hcell : H[q]? = some ce) (hv : ce.vm = .none) (hcl : s.vm.findClass E = some ce.cls)
    (hx : ∀ t : State, t.heap = H → s.vm.Alike t.vm → XC E s t) (hf : ∀ z ∈ locs, free z.base) (hc : cells ≤ mc) (hs : slots ≤ ms) :
    vx_W p l e R s m args below meth c H locs cells slots (vx_MQ below Qc XC args s mc ms free) (F0 m pc ls rest) q := by
  intro T hT X
  have hpl : e.platform.magicAccessors = ({} : Platform).magicAccessors := by rw [X.admits.platform]
  obtain ⟨vm', hW', X', st⟩ := X.outThrough hlocks q (g := F0 m pc ls rest) rfl rfl rfl (cell := ce) (by rw [hT]; exact hcell) (by rw [hv]; rfl)
    (by obtain ⟨k9, h9, -⟩ := Vm.findClass_spec hcl; exact ⟨k9, h9⟩) (fun z hz => by
      rcases hpass z hz with h | ⟨hz0, nm, hl1, hn1⟩
      · exact Or.inl h
      · obtain ⟨c6, hc6, hcl6⟩ := Cond.classLink_spec hown hl1 e.platform hpl
        obtain ⟨a8, b8, h1, h2, h3⟩ := hn1
        cases Option.some.inj (h1.symm.trans hcl)
        cases Option.some.inj (h2.symm.trans hc6)
        exact Or.inr ⟨hz0, _, hcl6, h3⟩)
  obtain ⟨g₀, hfr⟩ := X'.frames_eq
  have hcell9 : ((T.setVm vm').setFrames (.throwing q :: below)).heap[q]? = some ce := by
    show T.heap[q]? = some ce
    rw [hT]; exact hcell
  have hend : Ended ((T.setVm vm').setFrames (.throwing q :: below)) below (.threw q) := State.frames_setFrames _ (State.cur_lt_of_frames hfr)
  refine ⟨(T.setVm vm').setFrames (.throwing q :: below), ?_, .threw q, X'.here.running, hend, Or.inr ⟨q, rfl, E, ce, locs, hx _ hT (X'.ends _).1.alike, hcell9, hv, hcl, (X'.ends _).1, (X'.ends _).2.mono hc hs, hf⟩⟩
  rw [X.pushThrowing_eq]
  exact st
/-- a thing of a world lies in the heap -/
theorem vx_lt {D : va_G} {cl : List vw_C} {ws : va_W} {H1 : Heap} (h : va_P D cl ws H1) {k : Nat} {q : Nat × va_E} (hk : ws[k]? = some q) : q.1 < H1.size := (h k q hk).lt
end VXS
/-! ===== END ===== -/
/-! ===== BEGIN methods with a table of their own: called by a name, returning or throwing ===== -/
section VXH
/-! vx_backW, vx_callVX, vx_callSX, vx_callVW, vx_runVW, vx_runVX, vx_runSX, vx_ofWH follow the same proofs as their sisters above (Free/Laws.lean, Shelf42/LK1.lean); vx_outP calls Shelf42/NT130.lean (outThrough). -/
section
variable {l : Launch} {R : Room} {p : Program} {e : Env} {below : List Frame} {s : State} {sargs : Array Value} {y : MethodName} {len W9 : Nat}
theorem vx_backW {ws : List Cond} {rm : Room} {Pc : Array Value → State → Prop} {Qc : Array Value → State → Outcome → State → Prop} {XC : String → State → State → Prop} {mc ms : Nat} {free : Addr → Prop} {bytes : ByteArray} {maxL : Nat} {ret : Option FieldType} {hh : List (Nat × Nat × Nat × Nat)}
    (hM : vx_Met l y ws rm Pc Qc XC mc ms free) (hblind : FrameBlind Pc) (hrc : rm.cells = mc) (hrs : rm.slots = ms)
    (hframes : rm.frames + 1 ≤ R.frames) (hlocals : W9 + (maxL + 11) + rm.locals ≤ R.locals)
    (hws : ∀ w ∈ ws, ∀ a' U, s.WarmedH U.vm → w.before a' U = true) (hcode : Cond.codeWith y bytes maxL ret hh ∈ ws) (hinit : ∀ a' U, s.WarmedH U.vm → (Cond.initialized y.cls).before a' U = true) :
    vx_Back l R p e below s sargs y len W9 (PreOf R mc ms Pc) (PostOf Qc mc ms free) (vx_Post XC mc ms free) := by
  intro m meth c A g ig mk a X hg hsize hdg hW hn hp
  have h1 : (headSpec ws rm).pre.before a A.U = true := atoms_intro fun w hw => hws w hw _ _ X.warmed
  have h2 : (Cond.codeWith y bytes maxL ret hh).before a A.U = true := hws _ hcode _ _ X.warmed
  have h3 : (Cond.initialized y.cls).before a A.U = true := hinit _ _ X.warmed
  have h4 : A.cells + (headSpec ws rm).room.cells ≤ R.cells := by rw [show (headSpec ws rm).room.cells = mc from hrc]; exact hp.1
  have h5 : A.slots + (headSpec ws rm).room.slots ≤ R.slots := by rw [show (headSpec ws rm).room.slots = ms from hrs]; exact hp.2.1
  have hPc : Pc a (A.U.calling g mk a) := hblind _ _ _ _ hp.2.2
  obtain ⟨U, Ls, c0, s0⟩ := A
  dsimp only [Pt.U, Pt.locs, Pt.cells, Pt.slots] at h1 h2 h3 h4 h5 X hn hPc ⊢
  obtain ⟨m9, methY, cY, hn9, hmY, hcY, -, hlY, -⟩ := Cond.codeWith_spec h2
  cases Option.some.inj (hn9.symm.trans hn)
  obtain ⟨kY, hkY, -⟩ := className_of_methodNamed hn
  have hinitY : kY.init = .initialized := Cond.initialized_spec (findClass_of_methodNamed hn) hkY h3
  have h : At U g.method c below := by rw [hg]; exact X.here
  have hlocals9 : W9 + (maxL + 11) + (headSpec ws rm).room.locals ≤ R.locals := hlocals
  have happ : (headSpec ws rm).appliesLoose y e.platform (U.calling g mk a) = true :=
    Spec.appliesLoose_calling (g := g) h hdg hn hkY hinitY
      (X.room_calling (g := g) (R' := (headSpec ws rm).room) hsize hmY hcY hframes (by rw [hlY]; omega) h4 h5) h1
  obtain ⟨mid, hmid⟩ := h.above
  have hfr : (U.setTop g).frames = (.java g :: mid) ++ below := by rw [State.frames_setTop' g h.top, hmid]; rfl
  obtain ⟨o, s₂, hsteps, -, hend, hq⟩ := Steps.callFree hM p X.admits X.cas X.clock (acts := []) hfr happ hPc trivial
  have hq' : vx_Q Qc XC mc ms free a (U.calling g mk a) o s₂ := hq
  rw [State.frames_setTop' g h.top] at hend
  obtain ⟨g₀, hg0⟩ := Option.isSome_iff_exists.mp h.top
  obtain ⟨r, hr⟩ := State.topJava?_eq_some.mp hg0
  have hr' : (({ U with heap := s₂.heap, slotsUsed := s₂.slotsUsed } : State).setVm s₂.vm).frames = .java g₀ :: r := hr
  rcases hq' with ⟨hqc, L, hfe, hL⟩ | ⟨q, rfl, E, ce, L, hx, hce, hcv, hcl, hW₂, hsm, hL⟩
  · obtain ⟨⟨v, rfl⟩, hW₂, e2, q2, q3, q4, q5, q6⟩ := id hfe
    have e3 : s₂ = ({ (U.calling g mk a).setFrames s₂.frames with heap := s₂.heap, slotsUsed := s₂.slotsUsed } : State).setVm s₂.vm := by
      have : s₂ = ({ s₂ with vm := (U.calling g mk a).vm } : State).setVm s₂.vm := rfl
      rw [e2] at this
      exact this
    obtain ⟨c₂, i₂, len₂, hc₂, hd₂, hf₂⟩ := hend
    have hW' : U.WarmedH s₂.vm := hW₂
    have hcc : c₂ = c := by
      have h1 : s₂.code? g.method = U.code? g.method := by
        rw [State.code?_eq, State.code?_eq, hW'.alike.method?]
      exact Option.some.inj (hc₂.symm.trans (h1.trans h.code))
    subst hcc
    have hlen : len₂ = len := by rw [hdg] at hd₂; cases hd₂; rfl
    subst hlen
    have hs₂ : s₂ = (({ U with heap := s₂.heap, slotsUsed := s₂.slotsUsed } : State).setVm s₂.vm).setTop { g with pc := g.pc + len₂, stack := v.toList ++ g.stack } := by
      refine e3.trans ?_
      rw [hf₂, State.calling_eq h.top, State.setFrames_setFrames, State.setTop_of_frames _ hr', hr]
      rfl
    have hsame : U.sameButNew ({ U with heap := s₂.heap, slotsUsed := s₂.slotsUsed } : State) L mc ms := by
      refine ⟨?_, q2, q3, q4, q5, q6⟩
      obtain ⟨t, ht, -⟩ := State.frames_cons hr
      show ({ U with heap := s₂.heap, slotsUsed := s₂.slotsUsed } : State) = { U.setFrames U.frames with heap := s₂.heap, slotsUsed := s₂.slotsUsed }
      rw [State.setFrames_self ht]
    subst hg
    refine Or.inl ⟨v, ⟨(({ U with heap := s₂.heap, slotsUsed := s₂.slotsUsed } : State).setVm s₂.vm), Ls ++ L, c0 + mc, s0 + ms⟩,
      ⟨X.admits, X.cas, X.clock, X.frames, X.room, X.hears, X.method, X.code, (X.here.setHeapUsed s₂.heap s₂.slotsUsed).setVm hW'.alike, X.tail, State.WarmedH.trans X.warmed hW', X.limits, X.bytes, X.same.trans (hsame.setVm s.vm)⟩,
      ⟨g, mk, s₂, L, rfl, rfl, hqc, rfl, hL, rfl, rfl⟩, ?_⟩
    show Steps p.tables e below _ ((({ U with heap := s₂.heap, slotsUsed := s₂.slotsUsed } : State).setVm s₂.vm).setTop { g with pc := g.pc + len₂, stack := v.toList ++ g.stack })
    rw [← hs₂]
    exact hsteps
  · obtain ⟨e2, q2, q3, q4, q5, q6⟩ := id hsm
    have e3 : s₂ = ({ (U.calling g mk a).setFrames s₂.frames with heap := s₂.heap, slotsUsed := s₂.slotsUsed } : State).setVm s₂.vm := by
      have : s₂ = ({ s₂ with vm := (U.calling g mk a).vm } : State).setVm s₂.vm := rfl
      rw [e2] at this
      exact this
    have hf₂ : s₂.frames = .throwing q :: .java g :: U.frames.tail := hend
    have hW' : U.WarmedH s₂.vm := hW₂
    have hs₂ : s₂ = ((({ U with heap := s₂.heap, slotsUsed := s₂.slotsUsed } : State).setVm s₂.vm).setTop g).pushFrame (.throwing q) := by
      refine e3.trans ?_
      rw [hf₂, State.calling_eq h.top, State.setFrames_setFrames, State.pushFrame, State.frames_setTop _ hr', State.setTop_of_frames _ hr', State.setFrames_setFrames, hr]
      rfl
    have hsame : U.sameButNew ({ U with heap := s₂.heap, slotsUsed := s₂.slotsUsed } : State) L mc ms := by
      refine ⟨?_, q2, q3, q4, q5, q6⟩
      obtain ⟨t, ht, -⟩ := State.frames_cons hr
      show ({ U with heap := s₂.heap, slotsUsed := s₂.slotsUsed } : State) = { U.setFrames U.frames with heap := s₂.heap, slotsUsed := s₂.slotsUsed }
      rw [State.setFrames_self ht]
    subst hg
    refine Or.inr ⟨q, ⟨(({ U with heap := s₂.heap, slotsUsed := s₂.slotsUsed } : State).setVm s₂.vm), Ls ++ L, c0 + mc, s0 + ms⟩,
      ⟨X.admits, X.cas, X.clock, X.frames, X.room, X.hears, X.method, X.code, (X.here.setHeapUsed s₂.heap s₂.slotsUsed).setVm hW'.alike, X.tail, State.WarmedH.trans X.warmed hW', X.limits, X.bytes, X.same.trans (hsame.setVm s.vm)⟩,
      ⟨g, mk, s₂, L, E, ce, rfl, rfl, hx, hce, hcv, hcl, rfl, hL, rfl, rfl⟩, ?_⟩
    show Steps p.tables e below _ (((({ U with heap := s₂.heap, slotsUsed := s₂.slotsUsed } : State).setVm s₂.vm).setTop g).pushFrame (.throwing q))
    rw [← hs₂]
    exact hsteps
end
variable {p : Program} {l : Launch} {e : Env} {R : Room} {s : State} {m : MethodId} {args : Array Value} {below : List Frame} {meth : Method} {c : Code} {T : State} {H : Heap} {locs : List Loc} {cells slots : Nat}
theorem vx_callVX (X : Stand p l e R s m args below meth c T locs cells slots) (hexec : p.tables.exec = Jvm.exec) {own C : String} {index : Nat} {y : MethodName} {bytes : ByteArray} {maxL : Nat} {ret : Option FieldType} {hh : List (Nat × Nat × Nat × Nat)}
    (hown : s.vm.findClass own = some m.cls) (hlink : (Cond.methodLink own index y).before args s = true) (hinst : (Cond.instanceMethod y).before args s = true) (hsel : (Cond.selects C y y).before args s = true)
    (hcode : (Cond.codeWith y bytes maxL ret hh).before args s = true) (hy : y.cls ≠ "java/lang/invoke/MethodHandle" ∧ y.cls ≠ "java/lang/invoke/VarHandle")
    {W9 : Nat} {Pre : Pt → Array Value → Prop} {Post : Pt → Array Value → Option Value → Pt → Prop} {PostX : Pt → Array Value → Addr → Pt → Prop} (hK : vx_Back l R p e below s args y 3 W9 Pre Post PostX)
    {b : Addr} {cellB : Cell} (hcell : T.heap[b]? = some cellB) (hobj : cellB.vm.isStatics = false) (hcls : s.vm.findClass C = some cellB.cls)
    {g : JFrame} (hg : g.method = m) (hsize : g.locals.size = c.maxLocals) {argsL rest : List Value} (hlen : ∀ sig, parseMethodDescriptor y.desc = some sig → argsL.length = sig.parameters.length)
    (hstack : g.stack = argsL.reverse ++ .ref b :: rest) (hW : 2 * g.monitorRoom + (rest.map fun v => v.category).sum ≤ W9) (hdg : decode c.code g.pc = .ok (.invokevirtual index, 3))
    (hpre : ∀ vm₁, s.WarmedH vm₁ → Pre ⟨T.setVm vm₁, locs, cells, slots⟩ (Value.ref b :: argsL).toArray) :
    (∃ (v : Option Value) (vm₁ : Vm) (B : Pt), s.WarmedH vm₁ ∧ Stand p l e R s m args below meth c B.U B.locs B.cells B.slots ∧ Post ⟨T.setVm vm₁, locs, cells, slots⟩ (Value.ref b :: argsL).toArray v B ∧
      ∀ target, Steps p.tables e below (B.U.setTop { g with pc := g.pc + 3, stack := v.toList ++ rest }) target → Steps p.tables e below (T.setTop g) target) ∨
    (∃ (q : Addr) (vm₁ : Vm) (B : Pt), s.WarmedH vm₁ ∧ Stand p l e R s m args below meth c B.U B.locs B.cells B.slots ∧ PostX ⟨T.setVm vm₁, locs, cells, slots⟩ (Value.ref b :: argsL).toArray q B ∧
      Steps p.tables e below (T.setTop g) ((B.U.setTop { g with stack := rest }).pushFrame (.throwing q))) := by
  obtain ⟨mk, methM, hnamed, hmethM, hstM, habM⟩ := Cond.instanceMethod_spec hinst
  obtain ⟨m8, methM', cM, hn8, hmethM', -, -, -, -, -, -, hsigM⟩ := Cond.codeWith_spec hcode
  cases Option.some.inj (hn8.symm.trans hnamed)
  cases hmethM.symm.trans hmethM'
  obtain ⟨c2, r2, m2, q1, q2, q3, q4, kP, hkP, hkPi⟩ := Cond.selects_spec hsel
  cases hcls.symm.trans q1
  cases (State.methodFound?_of_named hnamed hy).symm.trans q2
  cases hnamed.symm.trans q3
  have hselP : selectMethod e.platform s.vm cellB.cls mk = .method mk := by rw [Launch.admits_selectMethod X.admits]; exact q4
  obtain ⟨vm₁, X₁, hstep₁⟩ := X.invokevirtual hexec hown hlink hnamed hmethM hstM hkP hkPi hy (a := b) (cell := cellB) hcell
    (fun z h => by rw [h] at hobj; cases hobj) hselP hmethM habM hkP hkPi (g := g) hg (argsL := argsL) (rest := rest) (hlen _ hsigM) hstack hdg
  rcases hK m meth c ⟨T.setVm vm₁, locs, cells, slots⟩ { g with stack := rest } (.invokevirtual index) mk (Value.ref b :: argsL).toArray X₁ hg hsize hdg hW (X₁.named hnamed) (hpre vm₁ X₁.warmed) with ⟨v, B, X', hpost, hsteps⟩ | ⟨q, B, X', hpost, hsteps⟩
  · exact Or.inl ⟨v, vm₁, B, X₁.warmed, X', hpost, fun target h => hstep₁ _ fun acts => by rw [doInvoke_state]; exact hsteps.trans h⟩
  · exact Or.inr ⟨q, vm₁, B, X₁.warmed, X', hpost, hstep₁ _ fun acts => by rw [doInvoke_state]; exact hsteps⟩
theorem vx_callSX (X : Stand p l e R s m args below meth c T locs cells slots) (hexec : p.tables.exec = Jvm.exec) {own : String} {index : Nat} {y : MethodName} {bytes : ByteArray} {maxL : Nat} {ret : Option FieldType} {hh : List (Nat × Nat × Nat × Nat)}
    (hown : s.vm.findClass own = some m.cls) (hlink : (Cond.methodLink own index y).before args s = true) (hstat : (Cond.static y).before args s = true) (hinit : (Cond.initialized y.cls).before args s = true)
    (hcode : (Cond.codeWith y bytes maxL ret hh).before args s = true) (hy : y.cls ≠ "java/lang/invoke/MethodHandle" ∧ y.cls ≠ "java/lang/invoke/VarHandle")
    {W9 : Nat} {Pre : Pt → Array Value → Prop} {Post : Pt → Array Value → Option Value → Pt → Prop} {PostX : Pt → Array Value → Addr → Pt → Prop} (hK : vx_Back l R p e below s args y 3 W9 Pre Post PostX)
    {g : JFrame} (hg : g.method = m) (hsize : g.locals.size = c.maxLocals) {argsL rest : List Value} (hlen : ∀ sig, parseMethodDescriptor y.desc = some sig → argsL.length = sig.parameters.length)
    (hstack : g.stack = argsL.reverse ++ rest) (hW : 2 * g.monitorRoom + (rest.map fun v => v.category).sum ≤ W9) (hdg : decode c.code g.pc = .ok (.invokestatic index, 3))
    (hpre : ∀ vm₁, s.WarmedH vm₁ → Pre ⟨T.setVm vm₁, locs, cells, slots⟩ argsL.toArray) :
    (∃ (v : Option Value) (vm₁ : Vm) (B : Pt), s.WarmedH vm₁ ∧ Stand p l e R s m args below meth c B.U B.locs B.cells B.slots ∧ Post ⟨T.setVm vm₁, locs, cells, slots⟩ argsL.toArray v B ∧
      ∀ target, Steps p.tables e below (B.U.setTop { g with pc := g.pc + 3, stack := v.toList ++ rest }) target → Steps p.tables e below (T.setTop g) target) ∨
    (∃ (q : Addr) (vm₁ : Vm) (B : Pt), s.WarmedH vm₁ ∧ Stand p l e R s m args below meth c B.U B.locs B.cells B.slots ∧ PostX ⟨T.setVm vm₁, locs, cells, slots⟩ argsL.toArray q B ∧
      Steps p.tables e below (T.setTop g) ((B.U.setTop { g with stack := rest }).pushFrame (.throwing q))) := by
  obtain ⟨mk, methM, cM, hnamed, hmethM, -, -, -, -, -, -, hsigM⟩ := Cond.codeWith_spec hcode
  have hstatic : methM.isStatic = true := Cond.static_spec hnamed hmethM hstat
  obtain ⟨kP, hkP, -⟩ := className_of_methodNamed hnamed
  have hinitP : kP.init = .initialized := Cond.initialized_spec (findClass_of_methodNamed hnamed) hkP hinit
  obtain ⟨vm₁, X₁, hstep₁⟩ := X.invokestatic hexec hown hlink hnamed hmethM hstatic hkP hinitP hy (g := g) hg (argsL := argsL) (rest := rest) (hlen _ hsigM) hstack hdg
  rcases hK m meth c ⟨T.setVm vm₁, locs, cells, slots⟩ { g with stack := rest } (.invokestatic index) mk argsL.toArray X₁ hg hsize hdg hW (X₁.named hnamed) (hpre vm₁ X₁.warmed) with ⟨v, B, X', hpost, hsteps⟩ | ⟨q, B, X', hpost, hsteps⟩
  · exact Or.inl ⟨v, vm₁, B, X₁.warmed, X', hpost, fun target h => hstep₁ _ fun acts => by rw [doInvoke_state]; exact hsteps.trans h⟩
  · exact Or.inr ⟨q, vm₁, B, X₁.warmed, X', hpost, hstep₁ _ fun acts => by rw [doInvoke_state]; exact hsteps⟩
theorem vx_callVW (X : Stand p l e R s m args below meth c T locs cells slots) (hexec : p.tables.exec = Jvm.exec) {own C : String} {index : Nat} {y : MethodName} {bytes : ByteArray} {maxL : Nat} {ret : Option FieldType} {hh : List (Nat × Nat × Nat × Nat)}
    (hown : s.vm.findClass own = some m.cls) (hlink : (Cond.methodLink own index y).before args s = true) (hinst : (Cond.instanceMethod y).before args s = true) (hsel : (Cond.selects C y y).before args s = true)
    (hcode : (Cond.codeWith y bytes maxL ret hh).before args s = true) (hy : y.cls ≠ "java/lang/invoke/MethodHandle" ∧ y.cls ≠ "java/lang/invoke/VarHandle")
    {W9 : Nat} {Pre : Pt → Array Value → Prop} {Post : Pt → Array Value → Option Value → Pt → Prop} (hK : Back l R p e below s args y 3 W9 Pre Post)
    {b : Addr} {cellB : Cell} (hcell : T.heap[b]? = some cellB) (hobj : cellB.vm.isStatics = false) (hcls : s.vm.findClass C = some cellB.cls)
    {g : JFrame} (hg : g.method = m) (hsize : g.locals.size = c.maxLocals) {argsL rest : List Value} (hlen : ∀ sig, parseMethodDescriptor y.desc = some sig → argsL.length = sig.parameters.length)
    (hstack : g.stack = argsL.reverse ++ .ref b :: rest) (hW : 2 * g.monitorRoom + (rest.map fun v => v.category).sum ≤ W9) (hdg : decode c.code g.pc = .ok (.invokevirtual index, 3))
    (hpre : ∀ vm₁, s.WarmedH vm₁ → Pre ⟨T.setVm vm₁, locs, cells, slots⟩ (Value.ref b :: argsL).toArray) :
    ∃ (v : Option Value) (vm₁ : Vm) (B : Pt), s.WarmedH vm₁ ∧ Stand p l e R s m args below meth c B.U B.locs B.cells B.slots ∧ Post ⟨T.setVm vm₁, locs, cells, slots⟩ (Value.ref b :: argsL).toArray v B ∧
      ∀ target, Steps p.tables e below (B.U.setTop { g with pc := g.pc + 3, stack := v.toList ++ rest }) target → Steps p.tables e below (T.setTop g) target := by
  obtain ⟨mk, methM, hnamed, hmethM, hstM, habM⟩ := Cond.instanceMethod_spec hinst
  obtain ⟨m8, methM', cM, hn8, hmethM', -, -, -, -, -, -, hsigM⟩ := Cond.codeWith_spec hcode
  cases Option.some.inj (hn8.symm.trans hnamed)
  cases hmethM.symm.trans hmethM'
  obtain ⟨c2, r2, m2, q1, q2, q3, q4, kP, hkP, hkPi⟩ := Cond.selects_spec hsel
  cases hcls.symm.trans q1
  cases (State.methodFound?_of_named hnamed hy).symm.trans q2
  cases hnamed.symm.trans q3
  have hselP : selectMethod e.platform s.vm cellB.cls mk = .method mk := by rw [Launch.admits_selectMethod X.admits]; exact q4
  obtain ⟨vm₁, X₁, hstep₁⟩ := X.invokevirtual hexec hown hlink hnamed hmethM hstM hkP hkPi hy (a := b) (cell := cellB) hcell
    (fun z h => by rw [h] at hobj; cases hobj) hselP hmethM habM hkP hkPi (g := g) hg (argsL := argsL) (rest := rest) (hlen _ hsigM) hstack hdg
  obtain ⟨v, B, X', hpost, hsteps⟩ := hK m meth c ⟨T.setVm vm₁, locs, cells, slots⟩ { g with stack := rest } (.invokevirtual index) mk (Value.ref b :: argsL).toArray X₁ hg hsize hdg hW (X₁.named hnamed) (hpre vm₁ X₁.warmed)
  exact ⟨v, vm₁, B, X₁.warmed, X', hpost, fun target h => hstep₁ _ fun acts => by rw [doInvoke_state]; exact hsteps.trans h⟩
abbrev vx_CVW (R : Room) (s : State) (args : Array Value) (own C : String) (index : Nat) (y : MethodName) (bytes : ByteArray) (maxL : Nat) (ret : Option FieldType) (hh : List (Nat × Nat × Nat × Nat)) (ws : List Cond) (rm : Room) (mc ms n : Nat) : Prop :=
  (rm.cells = mc ∧ rm.slots = ms ∧ rm.frames + 1 ≤ R.frames ∧ 8 + (maxL + 11) + rm.locals ≤ R.locals ∧ (∀ w ∈ ws, ∀ (a' : Array Value) (U : State), s.WarmedH U.vm → w.before a' U = true) ∧ Cond.codeWith y bytes maxL ret hh ∈ ws) ∧
  (Cond.codeWith y bytes maxL ret hh).before args s = true ∧ (Cond.initialized y.cls).before args s = true ∧ (y.cls ≠ "java/lang/invoke/MethodHandle" ∧ y.cls ≠ "java/lang/invoke/VarHandle") ∧
  (∀ sig, parseMethodDescriptor y.desc = some sig → n = sig.parameters.length) ∧ (Cond.methodLink own index y).before args s = true ∧ (Cond.instanceMethod y).before args s = true ∧ (Cond.selects C y y).before args s = true
theorem vx_cwVW {own C : String} {index maxL mc ms : Nat} {y : MethodName} {bytes : ByteArray} {ret : Option FieldType} {hh : List (Nat × Nat × Nat × Nat)} {Ts ws ws' : List Cond} {rm : Room} (n : Nat) (ht : ∀ w ∈ Ts, w.before args s = true) (hT : GoodIn Ts (wsV own index C y ws)) (hw : ws = Cond.codeWith y bytes maxL ret hh :: ws') (hrc : rm.cells = mc) (hrs : rm.slots = ms)
    (hd : y.cls = C ∧ y.cls ≠ "java/lang/invoke/MethodHandle" ∧ y.cls ≠ "java/lang/invoke/VarHandle" ∧ (parseMethodDescriptor y.desc).map (fun d => d.parameters.length) = some n) (hR : rm.frames + 1 ≤ R.frames ∧ 8 + (maxL + 11) + rm.locals ≤ R.locals) :
    vx_CVW R s args own C index y bytes maxL ret hh ws rm mc ms n := by
  obtain ⟨hC, hd⟩ := hd
  subst hC
  have ok : ∀ w ∈ wsV own index y.cls y ws, w.before args s = true := fun w h => ht w (hT w h).1
  have hG : GoodIn Ts ws := fun w h => hT w (by unfold wsV; exact List.mem_append_right _ h)
  have hc : Cond.codeWith y bytes maxL ret hh ∈ ws := by rw [hw]; exact List.mem_cons_self
  refine ⟨⟨hrc, hrs, hR.1, hR.2, pay_in ht hG, hc⟩, ht _ (hG _ hc).1, ok _ (by simp [wsV]), ⟨hd.1, hd.2.1⟩, fun sig h => ?_, ok _ (by simp [wsV]), ok _ (by simp [wsV]), ok _ (by simp [wsV])⟩
  have h2 := hd.2.2
  rw [h] at h2
  exact (Option.some.inj h2).symm
theorem vx_runVW {y : MethodName} {bytes cc : ByteArray} {maxL nL mc ms n index : Nat} {ret : Option FieldType} {hh : List (Nat × Nat × Nat × Nat)} {ws : List Cond} {rm : Room} {Pc : Array Value → State → Prop} {Qc : Array Value → State → Outcome → State → Prop} {free : Addr → Prop} {Ts : List Cond} {own C : String} {b : Addr} {As rest : List Value} {g : JFrame}
    (S : CallFix p m c cc nL s args Ts own) (hM : Met l y ws rm Pc Qc mc ms free) (cw : vx_CVW R s args own C index y bytes maxL ret hh ws rm mc ms n) (hp : PreV s H C b Pc As)
    (hg : g.method = m) (hn : As.length = n) (hsize : g.locals.size = nL) (hstack : g.stack = As.reverse ++ .ref b :: rest) (hW : 2 * g.monitorRoom + (rest.map fun v => v.category).sum ≤ 8) (hdg : decode cc g.pc = .ok (.invokevirtual index, 3)) (hf : cells + mc ≤ R.cells ∧ slots + ms ≤ R.slots) :
    va_Run p l e R s m args below meth c H locs cells slots mc ms g rest (Qc (Value.ref b :: As).toArray) free := by
  obtain ⟨⟨hrc, hrs, hfr, hlo, hws, hcw⟩, hcode, hini, hy, hlen, hl, hin, hse⟩ := cw
  have hK : Back l R p e below s args y 3 8 (PreOf R mc ms Pc) (PostOf Qc mc ms free) := va_backW (hh := hh) (bytes := bytes) (maxL := maxL) (ret := ret) hM hp.1 hrc hrs hfr hlo hws hcw (fun a' U hW => word_at hW (Or.inl (by first | rfl | simp [Cond.onTables, Cond.keeps, Cond.steady])) hini)
  obtain ⟨hx, hb, hml, ho, -⟩ := S
  obtain ⟨-, ⟨cellB, hcB, hoB, hclB⟩, hPc⟩ := hp
  intro T hT X
  obtain ⟨v, vm₁, ⟨U', l2, c2, s2⟩, hW₁, X', ⟨g', mk, t, L, e1, e2, hq, h1, hL, h2, h3⟩, st⟩ := vx_callVW X hx (C := C) (hh := hh) (bytes := bytes) (maxL := maxL) (ret := ret) ho hl hin hse hcode hy hK (by rw [hT]; exact hcB) hoB hclB hg (hsize.trans hml.symm) (argsL := As) (rest := rest) (fun sig h => hn.trans (hlen sig h)) hstack hW (by rw [hb]; exact hdg)
    (fun vm₁ hW₁ => ⟨hf.1, hf.2, hPc (T.setVm vm₁) hT hW₁⟩)
  dsimp only [Pt.U, Pt.locs, Pt.cells, Pt.slots] at X' e1 e2 h1 h2 h3 st
  subst h1; subst h2; subst h3
  exact ⟨v, (T.setVm vm₁).calling g' mk (Value.ref b :: As).toArray, t, U', L, hT, X', hL, e1, e2, hq, st⟩
section
variable {y : MethodName} {bytes cc : ByteArray} {maxL nL mc ms n index : Nat} {ret : Option FieldType} {ws : List Cond} {rm : Room} {Pc : Array Value → State → Prop} {Qc : Array Value → State → Outcome → State → Prop} {XC : String → State → State → Prop} {free : Addr → Prop} {Ts : List Cond} {own C : String} {b : Addr} {As rest : List Value} {g : JFrame}
theorem vx_runVX {hh : List (Nat × Nat × Nat × Nat)} (S : CallFix p m c cc nL s args Ts own) (hM : vx_Met l y ws rm Pc Qc XC mc ms free) (cw : vx_CVW R s args own C index y bytes maxL ret hh ws rm mc ms n) (hp : PreV s H C b Pc As)
    (hg : g.method = m) (hn : As.length = n) (hsize : g.locals.size = nL) (hstack : g.stack = As.reverse ++ .ref b :: rest) (hW : 2 * g.monitorRoom + (rest.map fun v => v.category).sum ≤ 8) (hdg : decode cc g.pc = .ok (.invokevirtual index, 3)) (hf : cells + mc ≤ R.cells ∧ slots + ms ≤ R.slots) :
    vx_Run p l e R s m args below meth c H locs cells slots mc ms g rest (Qc (Value.ref b :: As).toArray) XC free := by
  obtain ⟨⟨hrc, hrs, hfr, hlo, hws, hcw⟩, hcode, hini, hy, hlen, hl, hin, hse⟩ := cw
  have hK : vx_Back l R p e below s args y 3 8 (PreOf R mc ms Pc) (PostOf Qc mc ms free) (vx_Post XC mc ms free) := vx_backW (hh := hh) (bytes := bytes) (maxL := maxL) (ret := ret) hM hp.1 hrc hrs hfr hlo hws hcw (fun a' U hW => word_at hW (Or.inl (by first | rfl | simp [Cond.onTables, Cond.keeps, Cond.steady])) hini)
  obtain ⟨hx, hb, hml, ho, -⟩ := S
  obtain ⟨-, ⟨cellB, hcB, hoB, hclB⟩, hPc⟩ := hp
  intro T hT X
  rcases vx_callVX X hx (C := C) (hh := hh) (bytes := bytes) (maxL := maxL) (ret := ret) ho hl hin hse hcode hy hK (by rw [hT]; exact hcB) hoB hclB hg (hsize.trans hml.symm) (argsL := As) (rest := rest) (fun sig h => hn.trans (hlen sig h)) hstack hW (by rw [hb]; exact hdg)
    (fun vm₁ hW₁ => ⟨hf.1, hf.2, hPc (T.setVm vm₁) hT hW₁⟩) with ⟨v, vm₁, ⟨U', l2, c2, s2⟩, hW₁, X', ⟨g', mk, t, L, e1, e2, hq, h1, hL, h2, h3⟩, st⟩ | ⟨q, vm₁, ⟨U', l2, c2, s2⟩, hW₁, X', ⟨g', mk, t, L, E, ce, e1, e2, hq, hce, hcv, hcl, h1, hL, h2, h3⟩, st⟩
  · dsimp only [Pt.U, Pt.locs, Pt.cells, Pt.slots] at X' e1 e2 h1 h2 h3 st
    subst h1; subst h2; subst h3
    exact Or.inl ⟨v, (T.setVm vm₁).calling g' mk (Value.ref b :: As).toArray, t, U', L, hT, X', hL, e1, e2, hq, st⟩
  · dsimp only [Pt.U, Pt.locs, Pt.cells, Pt.slots] at X' e1 e2 h1 h2 h3 st hcl
    subst h1; subst h2; subst h3
    exact Or.inr ⟨q, (T.setVm vm₁).calling g' mk (Value.ref b :: As).toArray, t, U', L, E, ce, hT, X', hL, e1, e2, hq, hce, hcv, vx_cls hW₁ hcl, st⟩
theorem vx_runSX {hh : List (Nat × Nat × Nat × Nat)} (S : CallFix p m c cc nL s args Ts own) (hM : vx_Met l y ws rm Pc Qc XC mc ms free) (cw : vx_CSW R s args own index y bytes maxL ret hh ws rm mc ms n) (hp : PreS s H Pc As)
    (hg : g.method = m) (hn : As.length = n) (hsize : g.locals.size = nL) (hstack : g.stack = As.reverse ++ rest) (hW : 2 * g.monitorRoom + (rest.map fun v => v.category).sum ≤ 8) (hdg : decode cc g.pc = .ok (.invokestatic index, 3)) (hf : cells + mc ≤ R.cells ∧ slots + ms ≤ R.slots) :
    vx_Run p l e R s m args below meth c H locs cells slots mc ms g rest (Qc As.toArray) XC free := by
  obtain ⟨⟨hrc, hrs, hfr, hlo, hws, hcw⟩, hcode, hini, hy, hlen, hl, hstt⟩ := cw
  have hK : vx_Back l R p e below s args y 3 8 (PreOf R mc ms Pc) (PostOf Qc mc ms free) (vx_Post XC mc ms free) := vx_backW (hh := hh) (bytes := bytes) (maxL := maxL) (ret := ret) hM hp.1 hrc hrs hfr hlo hws hcw (fun a' U hW => word_at hW (Or.inl (by first | rfl | simp [Cond.onTables, Cond.keeps, Cond.steady])) hini)
  obtain ⟨hx, hb, hml, ho, -⟩ := S
  intro T hT X
  rcases vx_callSX X hx (hh := hh) (bytes := bytes) (maxL := maxL) (ret := ret) ho hl hstt hini hcode hy hK hg (hsize.trans hml.symm) (argsL := As) (rest := rest) (fun sig h => hn.trans (hlen sig h)) hstack hW (by rw [hb]; exact hdg)
    (fun vm₁ hW₁ => ⟨hf.1, hf.2, hp.2 (T.setVm vm₁) hT hW₁⟩) with ⟨v, vm₁, ⟨U', l2, c2, s2⟩, hW₁, X', ⟨g', mk, t, L, e1, e2, hq, h1, hL, h2, h3⟩, st⟩ | ⟨q, vm₁, ⟨U', l2, c2, s2⟩, hW₁, X', ⟨g', mk, t, L, E, ce, e1, e2, hq, hce, hcv, hcl, h1, hL, h2, h3⟩, st⟩
  · dsimp only [Pt.U, Pt.locs, Pt.cells, Pt.slots] at X' e1 e2 h1 h2 h3 st
    subst h1; subst h2; subst h3
    exact Or.inl ⟨v, (T.setVm vm₁).calling g' mk As.toArray, t, U', L, hT, X', hL, e1, e2, hq, st⟩
  · dsimp only [Pt.U, Pt.locs, Pt.cells, Pt.slots] at X' e1 e2 h1 h2 h3 st hcl
    subst h1; subst h2; subst h3
    exact Or.inr ⟨q, (T.setVm vm₁).calling g' mk As.toArray, t, U', L, E, ce, hT, X', hL, e1, e2, hq, hce, hcv, vx_cls hW₁ hcl, st⟩
end
end VXH
theorem vx_ofWH {l : Launch} {y : MethodName} {ws ws' : List Cond} {rm : Room} {Pc : Array Value → State → Prop} {Qc : Array Value → State → Outcome → State → Prop} {XC : String → State → State → Prop} {mc ms : Nat} {free : Addr → Prop} {cc : ByteArray} {maxL : Nat} {ret : Option FieldType} {hh : List (Nat × Nat × Nat × Nat)}
    (hy : plainName y.cls = true) (hw : ws = Cond.codeWith y cc maxL ret hh :: ws')
    (body : ∀ p e s m args below meth c s₁, BodyLoose p l y (headSpec ws rm) cc maxL ret e s m args below meth c s₁ → c.maxLocals = maxL → Pc args s →
      W p l e (headSpec ws rm).room s m args below meth c s.heap [] 0 0 (vx_MQ below Qc XC args s mc ms free) (entryFrame m args maxL)) : vx_Met l y ws rm Pc Qc XC mc ms free := by
  refine MetFree.of_bodyS (code := cc) (maxLocals := maxL) (ret := ret) hy ?_ ?_
  · intro args s m h hn
    obtain ⟨m9, meth, c, hn9, h1, h2, h3, h4, -, h5, h6, -⟩ := Cond.codeWith_spec (atoms_spec (ws := ws) h _ (by rw [hw]; exact List.mem_cons_self))
    cases hn.symm.trans hn9
    exact ⟨meth, c, h1, h2, h3, h4, h5, h6⟩
  · intro p e s m args below meth c s₁ B hml hP _
    have hh0 : s₁.heap = s.heap := by rw [B.state]; rfl
    obtain ⟨t, a1, o, b1, b2, b3⟩ := body p e s m args below meth c s₁ B hml hP s₁ hh0 (Stand.of_body B)
    exact ⟨t, o, a1, b1, b2, b3⟩
/-! ===== END ===== -/
/-! ===== BEGIN what the machine throws by itself, no traces kept ===== -/
section VXM
set_option maxHeartbeats 1000000 in
/-- the machine throws cls with the message text, no traces kept: from its note over the frame g to 'throwing' over the same frame (follows the proofs of Stand.vmThrowsMessage, Shelf/KitTracedVmS.lean, and Stand.throwsMessageColdBareV, StandMessageColdV.lean, without the step out of the frame) -/
theorem vx_vmAt {p : Program} {l : Launch} {e : Env} {R : Room} {s : State} {m₀ : MethodId} {args : Array Value} {below : List Frame} {meth : Method} {c : Code} {W : State} {locs : List Loc} {cells slots : Nat}
    (X : Stand p l e R s m₀ args below meth c W locs cells slots) (hexec : p.tables.exec = Jvm.exec) (htr : e.platform.stackTraces = false) {cls : String} {names : List String} {text : String}
    (hcls : Bundle.fit cls = true) (hnames : ∀ n ∈ names, Bundle.fit n = true) (hsoe : (cls == "java/lang/StackOverflowError") = false) (hoom : (cls == "java/lang/OutOfMemoryError") = false)
    (h : ∀ a ∈ Bundle.messageArmAtoms cls names, a.before args s = true)
    (hlocs : ∀ x ∈ locs, ∀ cell, s.heap[x.base]? = some cell → cell.vm.isStatics = false)
    (htext : (text == notModelled) = false) (hlimit : ¬ (stringBytes (stringToUtf16 text)).size > e.platform.arrayLengthLimit) (hheap : ¬ (stringBytes (stringToUtf16 text)).size * componentBytes .byte > e.platform.maxHeapBytes)
    {g : JFrame} (hg : g.method = m₀) (hsize : g.locals.size = c.maxLocals)
    (hRframes : names.length + 4 < R.frames) (hRlocals : 2 * g.monitorRoom + (g.stack.map fun v => v.category).sum + 10240 ≤ R.locals) (hshort : 13 * names.length + 55 ≤ 10240)
    (hRcells : cells + 3 ≤ R.cells) (hRslots : slots + ((stringBytes (stringToUtf16 text)).size + 4 + 6) ≤ R.slots) (hlocks : meth.locks = false) :
    ∃ (S : State) (q : Addr) (ce : Cell), (∀ target, Steps p.tables e below ((S.setTop g).pushFrame (.throwing q)) target → Steps p.tables e below ((W.setTop g).pushFrame (.throwNew cls (some text) none)) target) ∧
      Stand p l e R s m₀ args below meth c S locs (cells + 3) (slots + ((stringBytes (stringToUtf16 text)).size + 4 + 6)) ∧ S.heap[q]? = some ce ∧ s.vm.findClass cls = some ce.cls ∧ ce.vm = .none := by
  have howns : e.platform.frameOwnsMonitors = true := by rw [X.admits.platform]
  have hfin : e.platform.finalization = false := by rw [X.admits.platform]
  have hpl : e.platform.magicAccessors = ({} : Platform).magicAccessors := by rw [X.admits.platform]
  have a : ∀ x, x ∈ Bundle.messageArmAtoms cls names → x.holds args s none s [] = true := fun x hx => h x hx
  obtain ⟨T, Z0, L, -, Y⟩ := ThrowableC.of_atoms (args := args) howns hfin hpl (fun x hx => h x (by simp [Bundle.messageArmAtoms, hx]))
  obtain ⟨Z, M, LZ, LM, hnZ⟩ := Init0T.ofS_atoms (args := args) hpl L Y (fun x hx => h x (by simp [Bundle.messageArmAtoms, hx]))
  obtain ⟨P1, Ps, hlen, L1, hL, hP1m, hlink1, hlink⟩ := Bundle.chainS (args := args) hpl hnZ names cls hcls hnames (fun x hx => h x (by simp [Bundle.messageArmAtoms, hx]))
  obtain ⟨Zs, LZs, hn4, hfitv, hfitc⟩ := StringT.of_atoms (args := args) (fun x hx => h x (by simp [Bundle.messageArmAtoms, hx]))
  have hfound : s.vm.findClass cls = some P1.m.cls := findClass_of_methodNamed hP1m
  obtain ⟨c1, kX, hc1, hk, hord, -, -, hn6⟩ := Cond.instantiable_spec (a (.instantiable cls 6) (by simp [Bundle.messageArmAtoms]))
  cases Option.some.inj (hc1.symm.trans hfound)
  have hinit := Cond.initialized_spec hfound hk (a (.initialized cls) (by simp [Bundle.messageArmAtoms]))
  have hctor : kX.findMethod "<init>" "(Ljava/lang/String;)V" = some P1.m.idx := findMethod_of_methodNamed hP1m hk
  have hsel0 : selectMethod e.platform s.vm P1.m.cls T.fill0 = .method T.fill0 := by
    obtain ⟨c2, r2, m2, q1, q2, q3, q4, -⟩ := Cond.selects_spec (a (.selects cls Bundle.tFill0 Bundle.tFill0) (by simp [Bundle.messageArmAtoms]))
    cases Option.some.inj (q1.symm.trans hfound)
    cases Option.some.inj (q2.symm.trans (State.methodFound?_of_named Y.fill0 (by decide)))
    cases Option.some.inj (q3.symm.trans Y.fill0)
    rw [Launch.admits_selectMethod X.admits]; exact q4
  have hselF : selectMethod e.platform s.vm P1.m.cls T.fill = .method T.fill := by
    obtain ⟨c2, r2, m2, q1, q2, q3, q4, -⟩ := Cond.selects_spec (a (.selects cls Bundle.tFill Bundle.tFill) (by simp [Bundle.messageArmAtoms]))
    cases Option.some.inj (q1.symm.trans hfound)
    cases Option.some.inj (q2.symm.trans (State.methodFound?_of_named Y.fill (by decide)))
    cases Option.some.inj (q3.symm.trans Y.fill)
    rw [Launch.admits_selectMethod X.admits]; exact q4
  obtain ⟨cellS0, hcS0, hiss⟩ := Y.statics
  obtain ⟨u0, hu0⟩ := Cond.staticRefV Y.unassigned L.unassignedStatic L.statics hcS0 hiss (a (.isRef (.static Bundle.tN "UNASSIGNED_STACK" Bundle.steD)) (by simp [Bundle.messageArmAtoms]))
  obtain ⟨sen, hsen⟩ := Cond.staticRefV Y.sentinel L.sentinelStatic L.statics hcS0 hiss (a (.isRef (.static Bundle.tN "SUPPRESSED_SENTINEL" Bundle.listD)) (by simp [Bundle.messageArmAtoms]))
  obtain ⟨ci198, i198, fB, hk198, hg198, ha198, hsB, -, hnB, htB, hffB⟩ := Cond.ownField (t := .object "java/lang/Object") Y.found L.cls (by decide +kernel) (a (.fieldLink Bundle.tN 198 Bundle.tN "backtrace" "Ljava/lang/Object;") (by simp [Bundle.messageArmAtoms])) (a (.lays Bundle.tN Bundle.tN "backtrace" "Ljava/lang/Object;") (by simp [Bundle.messageArmAtoms])) e.platform hpl
  obtain ⟨cellS, hcS', heS, -, hkeep⟩ := X.same.2.2.2.2.2 T.aS cellS0 hcS0
  have hcellS : W.heap[T.aS]? = some cellS := hcS'
  have hout' : ∀ i, (⟨T.aS, i⟩ : Loc) ∉ locs := fun i hmem => by
    have := hlocs _ hmem cellS0 hcS0
    rw [hiss] at this; cases this
  have hknownS : cellS.vm ≠ .unknown := by
    rw [heS]; intro hu
    rw [show cellS0.vm = .unknown from hu] at hiss
    cases hiss
  have hvU : cellS.slots[T.fUnassigned.slot]? = some u0.v := by rw [hkeep _ (hout' _)]; exact hu0
  have hvSen : cellS.slots[T.fSentinel.slot]? = some sen.v := by rw [hkeep _ (hout' _)]; exact hsen
  obtain ⟨iM, hffM⟩ := Y.msg
  obtain ⟨tyC, dC, hdC, hdnC⟩ := Cond.laysAt hfound hk Y.cause (a (.lays cls Bundle.tN "cause" "Ljava/lang/Throwable;") (by simp [Bundle.messageArmAtoms]))
  obtain ⟨tyS, dS, hdS, hdnS⟩ := Cond.laysAt hfound hk Y.stack (a (.lays cls Bundle.tN "stackTrace" Bundle.steD) (by simp [Bundle.messageArmAtoms]))
  obtain ⟨tyP, dP, hdP, hdnP⟩ := Cond.laysAt hfound hk Y.supp (a (.lays cls Bundle.tN "suppressedExceptions" Bundle.listD) (by simp [Bundle.messageArmAtoms]))
  obtain ⟨tyM, dM, hdM, hdnM⟩ := Cond.laysAt hfound hk hffM (a (.lays cls Bundle.tN "detailMessage" "Ljava/lang/String;") (by simp [Bundle.messageArmAtoms]))
  obtain ⟨tyB, dB, hdB, hdnB⟩ := Cond.laysAt hfound hk hffB (a (.lays cls Bundle.tN "backtrace" "Ljava/lang/Object;") (by simp [Bundle.messageArmAtoms]))
  have bC := Cond.laysApart hdB hdC hdnB hdnC (by rw [hnB, Y.causeName]; decide)
  have bS := Cond.laysApart hdB hdS hdnB hdnS (by rw [hnB, Y.stackName]; decide)
  have bP := Cond.laysApart hdB hdP hdnB hdnP (by rw [hnB, Y.suppName]; decide)
  have hbk : ((preparedCellV T.toThrowableT (freshCell P1.m.cls kX) (W.heap.size + 2) u0 sen).withEntry W.cur).slots[fB.slot]? = some .null := by
    have := fresh_default (c := P1.m.cls) tyB
    rw [htB] at this
    simpa [preparedCellV, Cell.setSlot, Cell.withEntry, Array.getElem?_setIfInBounds, bC, bS, bP, bC.symm, bS.symm, bP.symm, defaultValue] using this
  have tkC := Takes.of_laid (v := .ref (W.heap.size + 2)) hk hord tyC (by rw [Y.causeType]; rfl)
  have tkS := Takes.of_laid (v := u0.v) hk hord tyS (by rw [Y.stackType]; exact fits_refV_array _ u0)
  have tkP := Takes.of_laid (v := sen.v) hk hord tyP (by rw [Y.suppType]; exact fits_refV_object _ sen)
  have tkM := Takes.of_laid (v := .ref (W.heap.size + 1)) hk hord tyM (by rw [Y.msgType]; rfl)
  have hskip : SkipFacts T e.platform s (fun u => u) u0 ((preparedCellV T.toThrowableT (freshCell P1.m.cls kX) (W.heap.size + 2) u0 sen).withEntry W.cur) := ⟨{ ci198 := ci198, i198 := i198, fBack := fB }, ⟨hk198, hg198, ha198, hsB⟩, hbk, fun _ _ => rfl⟩
  have h0 : At W g.method c below := by rw [hg]; exact X.here
  obtain ⟨hbeyond, hfreeW⟩ := X.vmMayThrow hsize (.throwNew cls (some text) none) (fun f hf => by cases hf) rfl hRlocals
  have hfr' : W.frames.length + Ps.length + 4 < (e.platform.stackLimits W.me).1 := by have := X.framesAbove hRframes; omega
  have hwd' : (stackUse (.java g :: W.frames.tail)).2 + 13 * Ps.length + 55 ≤ (e.platform.stackLimits W.me).2 := by have := X.stackAbove hsize (K := 13 * Ps.length + 55) (by omega); omega
  have hslots : W.slotsUsed + (stringBytes (stringToUtf16 text)).size + Zs.kS.instanceTypes.size + kX.instanceTypes.size ≤ e.platform.maxSlots := by
    have := X.slotsAbove hRslots
    rw [hn4, hn6]
    omega
  obtain ⟨vm', hW', st⟩ := Steps.vmThrowsMessageColdByV p (s₀ := s) (S := W) (g := g) h0 hexec T L Z LZ M LM X.warmed (t := W.cur) rfl Zs LZs P1 L1 Ps hL hlink1 hlink hsoe hoom hfound hk hinit hord hctor
    (Launch.admits_hotImplicitExceptions X.admits) hbeyond hfreeW htext hlimit hheap (X.cellsAbove hRcells) hslots (hfitv _) (hfitc _)
    (Nn := fun u => u) heapOnly_id (fun _ _ => rfl) (fun _ => rfl) (fun u x y => setCell_twice _ _ _ _) (fun _ => Nat.le_refl _) (cN := ((preparedCellV T.toThrowableT (freshCell P1.m.cls kX) (W.heap.size + 2) u0 sen).withEntry W.cur))
    hsel0 hcellS hknownS hvU tkS (fun _ hu => hu) (fun _ hu => hu) rfl rfl rfl (by simp [preparedCellV, Cell.setSlot, Cell.withEntry]) hskip (fun _ _ hA hW _ hroom _ hrest => L.nativeOff p htr hA hW hroom hrest) hselF hvSen tkC tkP tkM Y.objLocals rfl hfr' hwd'
  rw [plainBareV_eq T.toThrowableT (W.heap.size + 2) u0 sen (.ref (W.heap.size + 1)) W.cur rfl rfl] at st
  obtain ⟨-, -, w3, w4, -, -, -⟩ := withThrown_facts e.platform W Zs text P1.m.cls kX
  have X3 := ((X.pushed (bytesOf Zs.cB (stringToUtf16 text))).pushed (stringAt Zs.cS Zs.kS Zs.fv Zs.fc (stringToUtf16 text) W.heap.size)).pushed (freshCell P1.m.cls kX)
  rw [← withString_eq] at X3
  have X4 := X3.noted hW'
  have ha : (W.heap.size + 2) < ((withThrown W Zs text P1.m.cls kX).setVm vm').heap.size := by show _ < (withThrown W Zs text P1.m.cls kX).heap.size; rw [w3]; omega
  have hcell : ((withThrown W Zs text P1.m.cls kX).setVm vm').heap[(W.heap.size + 2)]? = some (freshCell P1.m.cls kX) := w4
  have X5 := ((((X4.stored hcell T.fCause.slot (.ref (W.heap.size + 2))).storedAgain ha T.fStack.slot u0.v).storedAgain ha T.fSupp.slot sen.v).storedAgain ha T.fStack.slot u0.v).storedAgain ha T.fMsg.slot (.ref (W.heap.size + 1))
  obtain ⟨g₁, hfrM⟩ := X5.frames_eq
  have hU : ((((withThrown W Zs text P1.m.cls kX).setVm vm').setCell (W.heap.size + 2) (plainBareV T.toThrowableT (freshCell P1.m.cls kX) (W.heap.size + 2) u0 sen (.ref (W.heap.size + 1)))).setTop g).pushFrame (.throwing (W.heap.size + 2)) = (((withThrown W Zs text P1.m.cls kX).setVm vm').setCell (W.heap.size + 2) (plainBareV T.toThrowableT (freshCell P1.m.cls kX) (W.heap.size + 2) u0 sen (.ref (W.heap.size + 1)))).setFrames (.throwing (W.heap.size + 2) :: .java g :: below) := by
    rw [State.pushFrame, State.frames_setTop _ hfrM, State.setTop_of_frames _ hfrM, State.setFrames_setFrames]
  have b1 : (bytesOf Zs.cB (stringToUtf16 text)).slots.size = (stringBytes (stringToUtf16 text)).size := by
    rw [(Cell.writeAll_facts _ _).2.2]; simp [bytes0]
  have b2 : (stringAt Zs.cS Zs.kS Zs.fv Zs.fc (stringToUtf16 text) W.heap.size).slots.size = 4 := by simp [string0, Cell.setSlot, hn4]
  have b3 : (freshCell P1.m.cls kX).slots.size = 6 := by simp [hn6]
  rw [b1, b2, b3] at X5
  have e9 : slots + (stringBytes (stringToUtf16 text)).size + 4 + 6 = slots + ((stringBytes (stringToUtf16 text)).size + 4 + 6) := by omega
  rw [e9] at X5
  simp only [List.append_assoc, List.cons_append, List.nil_append] at X5
  refine ⟨((withThrown W Zs text P1.m.cls kX).setVm vm').setCell (W.heap.size + 2) (plainBareV T.toThrowableT (freshCell P1.m.cls kX) (W.heap.size + 2) u0 sen (.ref (W.heap.size + 1))), W.heap.size + 2, _, fun target ht => st _ (by rw [X.tail, ← hU]; exact ht),
    X5.forget (fun y hy => ?_), heapAt_setCell_self _ ha, hfound, rfl⟩
  simp only [List.mem_cons, List.not_mem_nil, or_false] at hy
  have hge : s.heap.size ≤ W.heap.size := X.same.2.1
  rcases hy with rfl | rfl | rfl | rfl | rfl <;> exact Nat.le_trans hge (Nat.le_add_right _ 2)
set_option maxHeartbeats 1000000 in
/-- the machine throws NullPointerException, no traces kept: from its note over the frame g to 'throwing' over the same frame (follows the proof of Stand.vmThrowsNpe, Shelf42/KT2.lean; throwsNpeColdBareVAt, Shelf42/NT91.lean, called) -/
theorem vx_npeAt {p : Program} {l : Launch} {e : Env} {R : Room} {s : State} {m₀ : MethodId} {args : Array Value} {below : List Frame} {meth : Method} {c : Code} {W : State} {locs : List Loc} {cells slots : Nat}
    (X : Stand p l e R s m₀ args below meth c W locs cells slots) (hexec : p.tables.exec = Jvm.exec) (htr : e.platform.stackTraces = false) {n : Nat}
    (h : ∀ a ∈ Bundle.npeArmAtoms n, a.before args s = true)
    (hlocs : ∀ x ∈ locs, ∀ cell, s.heap[x.base]? = some cell → cell.vm.isStatics = false)
    {g : JFrame} (hg : g.method = m₀) (hsize : g.locals.size = c.maxLocals)
    (hRframes : 7 < R.frames) (hRlocals : 2 * g.monitorRoom + (g.stack.map fun v => v.category).sum + 10240 ≤ R.locals)
    (hRcells : cells + 1 ≤ R.cells) (hRslots : slots + n ≤ R.slots) (hlocks : meth.locks = false) :
    ∃ (S : State) (q : Addr) (ce : Cell), (∀ target, Steps p.tables e below ((S.setTop g).pushFrame (.throwing q)) target → Steps p.tables e below ((W.setTop g).pushFrame (.throwNew "java/lang/NullPointerException" none none)) target) ∧
      Stand p l e R s m₀ args below meth c S locs (cells + 1) (slots + n) ∧ S.heap[q]? = some ce ∧ s.vm.findClass "java/lang/NullPointerException" = some ce.cls ∧ ce.vm = .none := by
  have howns : e.platform.frameOwnsMonitors = true := by rw [X.admits.platform]
  have hfin : e.platform.finalization = false := by rw [X.admits.platform]
  have hpl : e.platform.magicAccessors = ({} : Platform).magicAccessors := by rw [X.admits.platform]
  have hpl2 : e.platform.arrayCloneIsPublic = true := by rw [X.admits.platform]
  have a' : ∀ x, x ∈ Bundle.npeArmAtoms n → x.holds args s none s [] = true := fun x hx => h x hx
  obtain ⟨T, Z, L, LZ, Y⟩ := ThrowableC.of_atoms (args := args) howns hfin hpl (fun x hx => h x (by simp [Bundle.npeArmAtoms, hx]))
  obtain ⟨N, LN, hcN, hnNF, hordN, hffS⟩ := NpeC.of_atoms (args := args) hpl hpl2 L Y (fun x hx => h x (by simp [Bundle.npeArmAtoms, hx]))
  obtain ⟨P1, L1, hP1m, hP1s⟩ := PassC.of_atoms (args := args) (s := s) hpl (X := Bundle.nN) (Y := Bundle.rN) (by decide) (by decide) LibCode.NullPointerException.Init0.at_0 LibCode.NullPointerException.Init0.at_1 LibCode.NullPointerException.Init0.at_4 (fun x hx => h x (by simp [Bundle.npeArmAtoms, hx]))
  obtain ⟨PR, LR, hPRm, hPRs⟩ := PassC.of_atoms (args := args) (s := s) hpl (X := Bundle.rN) (Y := Bundle.eN) (by decide) (by decide) LibCode.RuntimeException.Init0.at_0 LibCode.RuntimeException.Init0.at_1 LibCode.RuntimeException.Init0.at_4 (fun x hx => h x (by simp [Bundle.npeArmAtoms, hx]))
  obtain ⟨PE, LEx, hPEm, hPEs⟩ := PassC.of_atoms (args := args) (s := s) hpl (X := Bundle.eN) (Y := Bundle.tN) (by decide) (by decide) LibCode.Exception.Init0.at_0 LibCode.Exception.Init0.at_1 LibCode.Exception.Init0.at_4 (fun x hx => h x (by simp [Bundle.npeArmAtoms, hx]))
  have hfound : s.vm.findClass Bundle.nN = some P1.m.cls := findClass_of_methodNamed hP1m
  have ecls : N.cN = P1.m.cls := Option.some.inj (hcN.symm.trans hfound)
  have hk : s.vm.classes[P1.m.cls]? = some N.kN := by rw [← ecls]; exact LN.cls
  have hinit := Cond.initialized_spec hfound hk (a' (.initialized Bundle.nN) (by simp [Bundle.npeArmAtoms]))
  have hctor : N.kN.findMethod "<init>" "()V" = some P1.m.idx := findMethod_of_methodNamed hP1m hk
  obtain ⟨c1, k1, hc1, hk1, -, -, -, hn⟩ := Cond.instantiable_spec (a' (.instantiable Bundle.nN n) (by simp [Bundle.npeArmAtoms]))
  cases Option.some.inj (hc1.symm.trans hfound)
  cases Option.some.inj (hk1.symm.trans hk)
  have hfsz : (freshCell P1.m.cls N.kN).slots.size = n := by simp [hn]
  have hlink1 : P1.sup = PR.m := Option.some.inj (hP1s.symm.trans hPRm)
  have hlinkR : PR.sup = PE.m := Option.some.inj (hPRs.symm.trans hPEm)
  have hlinkE : PE.sup = Z.m T.toThrowableT := Option.some.inj (hPEs.symm.trans Y.init0)
  have hLs : ∀ P, P ∈ [PR, PE] → P.Links0 e.platform s := fun P hP => by
    simp only [List.mem_cons, List.not_mem_nil, or_false] at hP
    rcases hP with rfl | rfl
    · exact LR
    · exact LEx
  have hsel0 : selectMethod e.platform s.vm P1.m.cls T.fill0 = .method T.fill0 := by
    obtain ⟨c2, r2, m2, q1, q2, q3, q4, -⟩ := Cond.selects_spec (a' (.selects Bundle.nN Bundle.tFill0 Bundle.tFill0) (by simp [Bundle.npeArmAtoms]))
    cases Option.some.inj (q1.symm.trans hfound)
    cases Option.some.inj (q2.symm.trans (State.methodFound?_of_named Y.fill0 (by decide)))
    cases Option.some.inj (q3.symm.trans Y.fill0)
    rw [Launch.admits_selectMethod X.admits]; exact q4
  have hselF : selectMethod e.platform s.vm P1.m.cls T.fill = .method N.fill := by
    obtain ⟨c2, r2, m2, q1, q2, q3, q4, -⟩ := Cond.selects_spec (a' (.selects Bundle.nN Bundle.tFill Bundle.nFill) (by simp [Bundle.npeArmAtoms]))
    cases Option.some.inj (q1.symm.trans hfound)
    cases Option.some.inj (q2.symm.trans (State.methodFound?_of_named Y.fill (by decide)))
    cases Option.some.inj (q3.symm.trans hnNF)
    rw [Launch.admits_selectMethod X.admits]; exact q4
  obtain ⟨cellS0, hcS0, hiss⟩ := Y.statics
  obtain ⟨u0, hu0⟩ := Cond.staticRefV Y.unassigned L.unassignedStatic L.statics hcS0 hiss (a' (.isRef (.static Bundle.tN "UNASSIGNED_STACK" Bundle.steD)) (by simp [Bundle.npeArmAtoms]))
  obtain ⟨sen, hsen⟩ := Cond.staticRefV Y.sentinel L.sentinelStatic L.statics hcS0 hiss (a' (.isRef (.static Bundle.tN "SUPPRESSED_SENTINEL" Bundle.listD)) (by simp [Bundle.npeArmAtoms]))
  obtain ⟨ci198, i198, fB, hk198, hg198, ha198, hsB, -, hnB, htB, hffB⟩ := Cond.ownField (t := .object "java/lang/Object") Y.found L.cls (by decide +kernel) (a' (.fieldLink Bundle.tN 198 Bundle.tN "backtrace" Bundle.objD) (by simp [Bundle.npeArmAtoms])) (a' (.lays Bundle.tN Bundle.tN "backtrace" Bundle.objD) (by simp [Bundle.npeArmAtoms])) e.platform hpl
  obtain ⟨cellS, hcS', heS, -, hkeep⟩ := X.same.2.2.2.2.2 T.aS cellS0 hcS0
  have hcellS : W.heap[T.aS]? = some cellS := hcS'
  have hout' : ∀ i, (⟨T.aS, i⟩ : Loc) ∉ locs := fun i hmem => by
    have := hlocs _ hmem cellS0 hcS0
    rw [hiss] at this; cases this
  have hknownS : cellS.vm ≠ .unknown := by
    rw [heS]; intro hu
    rw [show cellS0.vm = .unknown from hu] at hiss
    cases hiss
  have hvU : cellS.slots[T.fUnassigned.slot]? = some u0.v := by rw [hkeep _ (hout' _)]; exact hu0
  have hvSen : cellS.slots[T.fSentinel.slot]? = some sen.v := by rw [hkeep _ (hout' _)]; exact hsen
  obtain ⟨tyC, dC, hdC, hdnC⟩ := Cond.laysAt hfound hk Y.cause (a' (.lays Bundle.nN Bundle.tN "cause" "Ljava/lang/Throwable;") (by simp [Bundle.npeArmAtoms]))
  obtain ⟨tyS, dS, hdS, hdnS⟩ := Cond.laysAt hfound hk Y.stack (a' (.lays Bundle.nN Bundle.tN "stackTrace" Bundle.steD) (by simp [Bundle.npeArmAtoms]))
  obtain ⟨tyP, dP, hdP, hdnP⟩ := Cond.laysAt hfound hk Y.supp (a' (.lays Bundle.nN Bundle.tN "suppressedExceptions" Bundle.listD) (by simp [Bundle.npeArmAtoms]))
  obtain ⟨tyX, dX, hdX, hdnX⟩ := Cond.laysAt hfound hk hffS (a' (.lays Bundle.nN Bundle.nN "extendedMessageState" "I") (by simp [Bundle.npeArmAtoms, Bundle.npeAtoms]))
  obtain ⟨hnX, htX⟩ := State.fieldFound?_type hffS (t := .int) (by decide +kernel)
  have xC := Cond.laysApart hdC hdX hdnC hdnX (by rw [hnX, Y.causeName]; decide)
  have xS := Cond.laysApart hdS hdX hdnS hdnX (by rw [hnX, Y.stackName]; decide)
  have xP := Cond.laysApart hdP hdX hdnP hdnX (by rw [hnX, Y.suppName]; decide)
  have hv0 : (freshCell P1.m.cls N.kN).slots[N.fState.slot]? = some (.int 0) := by
    have := fresh_default (c := P1.m.cls) tyX
    rw [htX] at this; exact this
  obtain ⟨tyB, dB, hdB, hdnB⟩ := Cond.laysAt hfound hk hffB (a' (.lays Bundle.nN Bundle.tN "backtrace" Bundle.objD) (by simp [Bundle.npeArmAtoms]))
  have bC := Cond.laysApart hdB hdC hdnB hdnC (by rw [hnB, Y.causeName]; decide)
  have bS := Cond.laysApart hdB hdS hdnB hdnS (by rw [hnB, Y.stackName]; decide)
  have bP := Cond.laysApart hdB hdP hdnB hdnP (by rw [hnB, Y.suppName]; decide)
  have bX := Cond.laysApart hdB hdX hdnB hdnX (by rw [hnB, hnX]; decide)
  have hbk : ((npeCell N.toNpeT (preparedCellV T.toThrowableT (freshCell P1.m.cls N.kN) W.heap.size u0 sen) W.cur).withEntry W.cur).slots[fB.slot]? = some .null := by
    have := fresh_default (c := P1.m.cls) tyB
    rw [htB] at this
    simpa [npeCell, preparedCellV, Cell.setSlot, Cell.withEntry, Array.getElem?_setIfInBounds, bC, bS, bP, bX, bC.symm, bS.symm, bP.symm, bX.symm, defaultValue] using this
  have tkC := Takes.of_laid (v := .ref W.heap.size) hk hordN tyC (by rw [Y.causeType]; rfl)
  have tkS := Takes.of_laid (v := u0.v) hk hordN tyS (by rw [Y.stackType]; exact fits_refV_array _ u0)
  have tkP := Takes.of_laid (v := sen.v) hk hordN tyP (by rw [Y.suppType]; exact fits_refV_object _ sen)
  have tkX := Takes.of_laid (v := .int 1) hk hordN tyX (by rw [htX]; rfl)
  have hskip : SkipFacts T e.platform s (fun u => u) u0 ((npeCell N.toNpeT (preparedCellV T.toThrowableT (freshCell P1.m.cls N.kN) W.heap.size u0 sen) W.cur).withEntry W.cur) := ⟨{ ci198 := ci198, i198 := i198, fBack := fB }, ⟨hk198, hg198, ha198, hsB⟩, hbk, fun _ _ => rfl⟩
  obtain ⟨vm', X3, st, -⟩ := X.throwsNpeColdBareVAt hexec hg hsize T L Z LZ N LN P1 L1 [PR, PE] hLs hlink1 ⟨hlinkR, hlinkE, trivial⟩ hfound hk hinit hordN hctor hsel0 hselF hcellS hknownS hvU hvSen
    hv0 xC xS xP tkC tkS tkP tkX Y.objLocals hskip (fun _ _ hA hW _ hroom _ hrest => L.nativeOff p htr hA hW hroom hrest) (by simpa using hRframes) hRlocals (by simp) hRcells (by rw [hn]; exact hRslots)
  have hlt : W.heap.size < ((W.pushCell (freshCell P1.m.cls N.kN)).setVm vm').heap.size := by
    show W.heap.size < (W.pushCell (freshCell P1.m.cls N.kN)).heap.size
    rw [State.heap_size_pushCell]; omega
  rw [hfsz] at X3
  obtain ⟨g₁, hfrM⟩ := X3.frames_eq
  have hU : ((((W.pushCell (freshCell P1.m.cls N.kN)).setVm vm').setCell W.heap.size (npeBareV T.toThrowableT N.toNpeT (freshCell P1.m.cls N.kN) W.heap.size u0 sen)).setTop g).pushFrame (.throwing W.heap.size) = (((W.pushCell (freshCell P1.m.cls N.kN)).setVm vm').setCell W.heap.size (npeBareV T.toThrowableT N.toNpeT (freshCell P1.m.cls N.kN) W.heap.size u0 sen)).setFrames (.throwing W.heap.size :: .java g :: below) := by
    rw [State.pushFrame, State.frames_setTop _ hfrM, State.setTop_of_frames _ hfrM, State.setFrames_setFrames]
  refine ⟨_, W.heap.size, _, fun target ht => st.trans (by rw [← hU]; exact ht), X3.forget (fun y hy => ?_), heapAt_setCell_self _ hlt, hfound, rfl⟩
  simp only [List.mem_cons, List.not_mem_nil, or_false] at hy
  have hge : s.heap.size ≤ W.heap.size := X.same.2.1
  rcases hy with rfl | rfl | rfl | rfl | rfl <;> exact hge
/-- the words of a machine's NullPointerException, but the four that speak of the heap -/
def vx_atN (n : Nat) : List Cond := (Bundle.npeArmAtoms n).filter vx_no
/-- the words of a machine's throw with a message, but the four that speak of the heap -/
def vx_atM (X : String) (names : List String) : List Cond := (Bundle.messageArmAtoms X names).filter vx_no
section
variable {p : Program} {l : Launch} {e : Env} {R : Room} {s : State} {m : MethodId} {args : Array Value} {below : List Frame} {meth : Method} {c : Code} {H : Heap} {locs : List Loc} {cells slots : Nat}
/-- a frame seen from a rebased start, seen from the first start again -/
theorem vx_back9 {T S : State} {R' : Room} {k n : Nat} (X : Stand p l e R s m args below meth c T locs cells slots) (Y : Stand p l e R' ((T.setVm s.vm).setFrames (.invoking m args :: below)) m args below meth c T [] 0 0) (Z : Stand p l e R' ((T.setVm s.vm).setFrames (.invoking m args :: below)) m args below meth c S [] k n) :
    Stand p l e R s m args below meth c S locs (cells + k) (slots + n) := by
  have hW0 : s.WarmedH ((T.setVm s.vm).setFrames (.invoking m args :: below)).vm := State.WarmedH.refl s
  refine { admits := X.admits, cas := X.cas, clock := X.clock, frames := X.frames, room := X.room, hears := X.hears, method := X.method, code := X.code, here := Z.here, tail := Z.tail, warmed := State.WarmedH.trans hW0 Z.warmed, limits := Z.limits.trans (Y.limits.symm.trans X.limits), bytes := Z.bytes.trans (Y.bytes.symm.trans X.bytes), same := ?_ }
  obtain ⟨e1, e2⟩ := Z.same
  rw [State.setFrames_setFrames] at e1
  have h2 : (T.setVm s.vm).sameButNew (S.setVm s.vm) [] k n := ⟨e1, e2⟩
  have h3 := X.same.trans h2
  rw [List.append_nil] at h3
  exact h3
/-- from the machine's note that E is thrown here with this text -/
def vx_Note (p : Program) (l : Launch) (e : Env) (R : Room) (s : State) (m : MethodId) (args : Array Value) (below : List Frame) (meth : Method) (c : Code) (H : Heap) (locs : List Loc) (cells slots : Nat) (Q : State → Prop) (g : JFrame) (E text : String) : Prop :=
  ∀ T : State, T.heap = H → Stand p l e R s m args below meth c T locs cells slots → ∃ t, Steps p.tables e below ((T.setTop g).pushFrame (.throwNew E (some text) none)) t ∧ Q t
theorem vx_vm {pc : Nat} {ls : Array Slot} {rest : List Value} {Q : State → Prop} (hexec : p.tables.exec = Jvm.exec) (hl : l.stackTraces = false) {cls text : String} {names : List String} {nb : Nat} {A : Nat → Prop}
    (hcls : Bundle.fit cls = true) (hnames : ∀ n ∈ names, Bundle.fit n = true) (hsoe : (cls == "java/lang/StackOverflowError") = false) (hoom : (cls == "java/lang/OutOfMemoryError") = false)
    (hat : ∀ w ∈ vx_atM cls names, w.before args s = true) (hgood : ∀ w ∈ vx_atM cls names, vx_ot w = true)
    (hU : vx_Zq Bundle.tN "UNASSIGNED_STACK" Bundle.steD A s s.heap) (hN : vx_Zq Bundle.tN "SUPPRESSED_SENTINEL" Bundle.listD A s s.heap) (hS : va_S A s.heap H locs) (hsize : ls.size = c.maxLocals)
    (htext : (text == notModelled) = false) (hnb : (stringBytes (stringToUtf16 text)).size ≤ nb) (hnb1 : nb ≤ 1000)
    (hRframes : names.length + 4 < R.frames) (hRlocals : (rest.map fun v => v.category).sum + 10240 ≤ R.locals) (hshort : 13 * names.length + 55 ≤ 10240) (hRcells : cells + 3 ≤ R.cells) (hRslots : slots + (nb + 10) ≤ R.slots) (hlocks : meth.locks = false)
    (k : ∀ (H1 : Heap) (q9 : Addr) (ce : Cell), H.size ≤ H1.size → (∀ q : Nat, q < H.size → H1[q]? = H[q]?) → va_S A s.heap H1 locs → H1[q9]? = some ce → ce.vm = .none → s.vm.findClass cls = some ce.cls → vx_W p l e R s m args below meth c H1 locs (cells + 3) (slots + (nb + 10)) Q (F0 m pc ls rest) q9) :
    vx_Note p l e R s m args below meth c H locs cells slots Q (F0 m pc ls rest) cls text := by
  intro T hT X
  have htr : e.platform.stackTraces = false := (show e.platform.stackTraces = l.stackTraces by rw [X.admits.platform]).trans hl
  have Y := vx_rebase X (R' := { frames := R.frames, locals := R.locals, cells := 3, slots := nb + 10 }) (Nat.le_refl _) (Nat.le_refl _) hRcells hRslots
  have hhp : ((T.setVm s.vm).setFrames (.invoking m args :: below)).heap = H := hT
  have hW0 : s.WarmedH ((T.setVm s.vm).setFrames (.invoking m args :: below)).vm := State.WarmedH.refl s
  have hat' : ∀ w ∈ vx_atM cls names, w.before args ((T.setVm s.vm).setFrames (.invoking m args :: below)) = true := fun w hw => vx_ot_at hW0 rfl (hgood w hw) (hat w hw)
  have hU' : vx_Zq Bundle.tN "UNASSIGNED_STACK" Bundle.steD A ((T.setVm s.vm).setFrames (.invoking m args :: below)) ((T.setVm s.vm).setFrames (.invoking m args :: below)).heap := by rw [hhp]; exact vx_Zq.moved hW0.alike (hU.kept hS.2.1)
  have hN' : vx_Zq Bundle.tN "SUPPRESSED_SENTINEL" Bundle.listD A ((T.setVm s.vm).setFrames (.invoking m args :: below)) ((T.setVm s.vm).setFrames (.invoking m args :: below)).heap := by rw [hhp]; exact vx_Zq.moved hW0.alike (hN.kept hS.2.1)
  obtain ⟨S, q, ce, st, Z, hce, hcl', hv⟩ := vx_vmAt Y hexec htr (cls := cls) (names := names) (text := text) hcls hnames hsoe hoom (vx_own hat' (vx_isRefq hU'.1) (vx_isRefq hN'.1) hU'.2.word hN'.2.word) (fun x hx => nomatch hx) htext
    (by rw [Launch.admits_arrayLengthLimit X.admits]; omega) (by rw [Launch.admits_maxHeapBytes X.admits]; simp only [componentBytes]; omega)
    (g := F0 m pc ls rest) rfl hsize hRframes (by show 2 * 0 + (rest.map fun v => v.category).sum + 10240 ≤ R.locals; omega) hshort (by show 0 + 3 ≤ 3; omega) (by show 0 + (_ + 4 + 6) ≤ nb + 10; omega) hlocks
  obtain ⟨f1, f2⟩ := vx_frame Z.same
  have f1' : H.size ≤ S.heap.size := by rw [← hT]; exact f1
  have f2' : ∀ q : Nat, q < H.size → S.heap[q]? = H[q]? := fun q hq => by
    rw [← hT]
    exact f2 q (by rw [← hT] at hq; exact hq) (fun z hz => nomatch hz)
  have X5 := vx_back9 X Y Z
  have X6 : Stand p l e R s m args below meth c S locs (cells + 3) (slots + (nb + 10)) := { X5 with same := X5.same.mono (by omega) (by omega) }
  obtain ⟨t, a1, b1⟩ := k S.heap q ce f1' f2' ⟨Nat.le_trans hS.1 f1', fun q h1 h2 => (f2' q (Nat.lt_of_lt_of_le h1 hS.1)).trans (hS.2.1 q h1 h2), hS.2.2⟩ hce hv hcl' S rfl X6
  exact ⟨t, st t a1, b1⟩
/-- from the machine's note that NullPointerException is thrown here -/
def vx_NoteN (p : Program) (l : Launch) (e : Env) (R : Room) (s : State) (m : MethodId) (args : Array Value) (below : List Frame) (meth : Method) (c : Code) (H : Heap) (locs : List Loc) (cells slots : Nat) (Q : State → Prop) (g : JFrame) : Prop :=
  ∀ T : State, T.heap = H → Stand p l e R s m args below meth c T locs cells slots → ∃ t, Steps p.tables e below ((T.setTop g).pushFrame (.throwNew "java/lang/NullPointerException" none none)) t ∧ Q t
theorem vx_npe {pc : Nat} {ls : Array Slot} {rest : List Value} {Q : State → Prop} (hexec : p.tables.exec = Jvm.exec) (hl : l.stackTraces = false) {nb : Nat} {A : Nat → Prop}
    (hat : ∀ w ∈ vx_atN nb, w.before args s = true) (hgood : ∀ w ∈ vx_atN nb, vx_ot w = true)
    (hU : vx_Zq Bundle.tN "UNASSIGNED_STACK" Bundle.steD A s s.heap) (hN : vx_Zq Bundle.tN "SUPPRESSED_SENTINEL" Bundle.listD A s s.heap) (hS : va_S A s.heap H locs) (hsize : ls.size = c.maxLocals)
    (hRframes : 7 < R.frames) (hRlocals : (rest.map fun v => v.category).sum + 10240 ≤ R.locals) (hRcells : cells + 1 ≤ R.cells) (hRslots : slots + nb ≤ R.slots) (hlocks : meth.locks = false)
    (k : ∀ (H1 : Heap) (q9 : Addr) (ce : Cell), H.size ≤ H1.size → (∀ q : Nat, q < H.size → H1[q]? = H[q]?) → va_S A s.heap H1 locs → H1[q9]? = some ce → ce.vm = .none → s.vm.findClass "java/lang/NullPointerException" = some ce.cls → vx_W p l e R s m args below meth c H1 locs (cells + 1) (slots + nb) Q (F0 m pc ls rest) q9) :
    vx_NoteN p l e R s m args below meth c H locs cells slots Q (F0 m pc ls rest) := by
  intro T hT X
  have htr : e.platform.stackTraces = false := (show e.platform.stackTraces = l.stackTraces by rw [X.admits.platform]).trans hl
  have Y := vx_rebase X (R' := { frames := R.frames, locals := R.locals, cells := 1, slots := nb }) (Nat.le_refl _) (Nat.le_refl _) hRcells hRslots
  have hhp : ((T.setVm s.vm).setFrames (.invoking m args :: below)).heap = H := hT
  have hW0 : s.WarmedH ((T.setVm s.vm).setFrames (.invoking m args :: below)).vm := State.WarmedH.refl s
  have hat' : ∀ w ∈ vx_atN nb, w.before args ((T.setVm s.vm).setFrames (.invoking m args :: below)) = true := fun w hw => vx_ot_at hW0 rfl (hgood w hw) (hat w hw)
  have hU' : vx_Zq Bundle.tN "UNASSIGNED_STACK" Bundle.steD A ((T.setVm s.vm).setFrames (.invoking m args :: below)) ((T.setVm s.vm).setFrames (.invoking m args :: below)).heap := by rw [hhp]; exact vx_Zq.moved hW0.alike (hU.kept hS.2.1)
  have hN' : vx_Zq Bundle.tN "SUPPRESSED_SENTINEL" Bundle.listD A ((T.setVm s.vm).setFrames (.invoking m args :: below)) ((T.setVm s.vm).setFrames (.invoking m args :: below)).heap := by rw [hhp]; exact vx_Zq.moved hW0.alike (hN.kept hS.2.1)
  obtain ⟨S, q, ce, st, Z, hce, hcl', hv⟩ := vx_npeAt Y hexec htr (n := nb) (vx_own hat' (vx_isRefq hU'.1) (vx_isRefq hN'.1) hU'.2.word hN'.2.word) (fun x hx => nomatch hx)
    (g := F0 m pc ls rest) rfl hsize hRframes (by show 2 * 0 + (rest.map fun v => v.category).sum + 10240 ≤ R.locals; omega) (by show 0 + 1 ≤ 1; omega) (by show 0 + nb ≤ nb; omega) hlocks
  obtain ⟨f1, f2⟩ := vx_frame Z.same
  have f1' : H.size ≤ S.heap.size := by rw [← hT]; exact f1
  have f2' : ∀ q : Nat, q < H.size → S.heap[q]? = H[q]? := fun q hq => by
    rw [← hT]
    exact f2 q (by rw [← hT] at hq; exact hq) (fun z hz => nomatch hz)
  have X5 := vx_back9 X Y Z
  have X6 : Stand p l e R s m args below meth c S locs (cells + 1) (slots + nb) := { X5 with same := X5.same.mono (by omega) (by omega) }
  obtain ⟨t, a1, b1⟩ := k S.heap q ce f1' f2' ⟨Nat.le_trans hS.1 f1', fun q h1 h2 => (f2' q (Nat.lt_of_lt_of_le h1 hS.1)).trans (hS.2.1 q h1 h2), hS.2.2⟩ hce hv hcl' S rfl X6
  exact ⟨t, st t a1, b1⟩
variable {Q : State → Prop} {cc : ByteArray} {pc : Nat} {ls : Array Slot} {rest : List Value}
theorem vx_idivZ (hexec : p.tables.exec = Jvm.exec) (hb : c.code = cc) {a b : Int32} (h0 : b = 0) (d : decode cc pc = .ok (.idiv, 1)) (k : vx_Note p l e R s m args below meth c H locs cells slots Q (F0 m pc ls rest) "java/lang/ArithmeticException" "/ by zero") :
    W p l e R s m args below meth c H locs cells slots Q (F0 m pc ls (.int b :: .int a :: rest)) := by
  intro T hT X
  obtain ⟨t, st, q⟩ := k T hT X
  exact ⟨t, X.idivZero hexec (g := F0 m pc ls (.int b :: .int a :: rest)) rfl (a := a) (rest := rest) (by rw [h0]) (by rw [hb]; exact d) t st, q⟩
theorem vx_iremZ (hexec : p.tables.exec = Jvm.exec) (hb : c.code = cc) {a b : Int32} (h0 : b = 0) (d : decode cc pc = .ok (.irem, 1)) (k : vx_Note p l e R s m args below meth c H locs cells slots Q (F0 m pc ls rest) "java/lang/ArithmeticException" "/ by zero") :
    W p l e R s m args below meth c H locs cells slots Q (F0 m pc ls (.int b :: .int a :: rest)) := by
  intro T hT X
  obtain ⟨t, st, q⟩ := k T hT X
  exact ⟨t, X.iremZero hexec (g := F0 m pc ls (.int b :: .int a :: rest)) rfl (a := a) (rest := rest) (by rw [h0]) (by rw [hb]; exact d) t st, q⟩
theorem vx_ldivZ (hexec : p.tables.exec = Jvm.exec) (hb : c.code = cc) {a b : Int64} (h0 : b = 0) (d : decode cc pc = .ok (.ldiv, 1)) (k : vx_Note p l e R s m args below meth c H locs cells slots Q (F0 m pc ls rest) "java/lang/ArithmeticException" "/ by zero") :
    W p l e R s m args below meth c H locs cells slots Q (F0 m pc ls (.long b :: .long a :: rest)) := by
  intro T hT X
  obtain ⟨t, st, q⟩ := k T hT X
  exact ⟨t, X.ldivZero hexec (g := F0 m pc ls (.long b :: .long a :: rest)) rfl (a := a) (rest := rest) (by rw [h0]) (by rw [hb]; exact d) t st, q⟩
theorem vx_lremZ (hexec : p.tables.exec = Jvm.exec) (hb : c.code = cc) {a b : Int64} (h0 : b = 0) (d : decode cc pc = .ok (.lrem, 1)) (k : vx_Note p l e R s m args below meth c H locs cells slots Q (F0 m pc ls rest) "java/lang/ArithmeticException" "/ by zero") :
    W p l e R s m args below meth c H locs cells slots Q (F0 m pc ls (.long b :: .long a :: rest)) := by
  intro T hT X
  obtain ⟨t, st, q⟩ := k T hT X
  exact ⟨t, X.lremZero hexec (g := F0 m pc ls (.long b :: .long a :: rest)) rfl (a := a) (rest := rest) (by rw [h0]) (by rw [hb]; exact d) t st, q⟩
theorem vx_ialdZ {D : va_G} {cl : List vw_C} {ws : va_W} {tys : List (ClassId × FieldType)} {a : Nat} (hexec : p.tables.exec = Jvm.exec) (hb : c.code = cc) (hK : va_K D cl tys s) (hP : va_P D cl ws H) (q0 t0 : Nat) {cA : ClassId} {n : Nat} {f : Nat → Int32} (ha : ws[q0]? = some (a, .inl (cA, n, .inl f))) (ht : tys[t0]? = some (cA, .int)) {i : Int32} (hout : ¬ vp_in i n) (hdg : decode cc pc = .ok (.iaload, 1))
    (k : ∀ tx : String, tx = (toString "Index " ++ toString i ++ toString " out of bounds for length " ++ toString n : String) → vx_Note p l e R s m args below meth c H locs cells slots Q (F0 m pc ls rest) "java/lang/ArrayIndexOutOfBoundsException" tx) : W p l e R s m args below meth c H locs cells slots Q (F0 m pc ls (.int i :: .ref a :: rest)) := by
  intro T hT X
  obtain ⟨t, st, q⟩ := k _ rfl T hT X
  refine ⟨t, ?_, q⟩
  have h1 := X.ialoadOut hexec (by rw [hT]; exact hP q0 _ ha) ((hK.2 t0 _ ht).1 n (fun j => .int (f j))) (j := i) (by show (i < 0 ∨ (arrV _ _ _).slots.size ≤ _); rw [arrV_size]; exact Classical.byContradiction hout) (g := F0 m pc ls (.int i :: .ref a :: rest)) rfl (rest := rest) rfl (by rw [hb]; exact hdg) t
  simp only [arrV_size] at h1
  exact h1 st
theorem vx_iastZ {D : va_G} {cl : List vw_C} {ws : va_W} {tys : List (ClassId × FieldType)} {a : Nat} (hexec : p.tables.exec = Jvm.exec) (hb : c.code = cc) (hK : va_K D cl tys s) (hP : va_P D cl ws H) (q0 t0 : Nat) {cA : ClassId} {n : Nat} {f : Nat → Int32} (ha : ws[q0]? = some (a, .inl (cA, n, .inl f))) (ht : tys[t0]? = some (cA, .int)) {i : Int32} {x : Int32} (hout : ¬ vp_in i n) (hdg : decode cc pc = .ok (.iastore, 1))
    (k : ∀ tx : String, tx = (toString "Index " ++ toString i ++ toString " out of bounds for length " ++ toString n : String) → vx_Note p l e R s m args below meth c H locs cells slots Q (F0 m pc ls rest) "java/lang/ArrayIndexOutOfBoundsException" tx) : W p l e R s m args below meth c H locs cells slots Q (F0 m pc ls (.int x :: .int i :: .ref a :: rest)) := by
  intro T hT X
  obtain ⟨t, st, q⟩ := k _ rfl T hT X
  refine ⟨t, ?_, q⟩
  have h1 := X.iastoreOut hexec (by rw [hT]; exact hP q0 _ ha) ((hK.2 t0 _ ht).1 n (fun j => .int (f j))) (j := i) (by show (i < 0 ∨ (arrV _ _ _).slots.size ≤ _); rw [arrV_size]; exact Classical.byContradiction hout) (g := F0 m pc ls (.int x :: .int i :: .ref a :: rest)) rfl (rest := rest) rfl (by rw [hb]; exact hdg) t
  simp only [arrV_size] at h1
  exact h1 st
theorem vx_baldZ {D : va_G} {cl : List vw_C} {ws : va_W} {tys : List (ClassId × FieldType)} {a : Nat} (hexec : p.tables.exec = Jvm.exec) (hb : c.code = cc) (hK : va_K D cl tys s) (hP : va_P D cl ws H) (q0 t0 : Nat) {cA : ClassId} {n : Nat} {f : Nat → Int32} (ha : ws[q0]? = some (a, .inl (cA, n, .inl f))) (ht : tys[t0]? = some (cA, .byte)) {i : Int32} (hout : ¬ vp_in i n) (hdg : decode cc pc = .ok (.baload, 1))
    (k : ∀ tx : String, tx = (toString "Index " ++ toString i ++ toString " out of bounds for length " ++ toString n : String) → vx_Note p l e R s m args below meth c H locs cells slots Q (F0 m pc ls rest) "java/lang/ArrayIndexOutOfBoundsException" tx) : W p l e R s m args below meth c H locs cells slots Q (F0 m pc ls (.int i :: .ref a :: rest)) := by
  intro T hT X
  obtain ⟨t, st, q⟩ := k _ rfl T hT X
  refine ⟨t, ?_, q⟩
  have h1 := X.baloadOut hexec (by rw [hT]; exact hP q0 _ ha) ((hK.2 t0 _ ht).1 n (fun j => .int (f j))) (j := i) (by show (i < 0 ∨ (arrV _ _ _).slots.size ≤ _); rw [arrV_size]; exact Classical.byContradiction hout) (g := F0 m pc ls (.int i :: .ref a :: rest)) rfl (rest := rest) rfl (by rw [hb]; exact hdg) t
  simp only [arrV_size] at h1
  exact h1 st
theorem vx_bastZ {D : va_G} {cl : List vw_C} {ws : va_W} {tys : List (ClassId × FieldType)} {a : Nat} (hexec : p.tables.exec = Jvm.exec) (hb : c.code = cc) (hK : va_K D cl tys s) (hP : va_P D cl ws H) (q0 t0 : Nat) {cA : ClassId} {n : Nat} {f : Nat → Int32} (ha : ws[q0]? = some (a, .inl (cA, n, .inl f))) (ht : tys[t0]? = some (cA, .byte)) {i : Int32} {x : Int32} (hout : ¬ vp_in i n) (hdg : decode cc pc = .ok (.bastore, 1))
    (k : ∀ tx : String, tx = (toString "Index " ++ toString i ++ toString " out of bounds for length " ++ toString n : String) → vx_Note p l e R s m args below meth c H locs cells slots Q (F0 m pc ls rest) "java/lang/ArrayIndexOutOfBoundsException" tx) : W p l e R s m args below meth c H locs cells slots Q (F0 m pc ls (.int x :: .int i :: .ref a :: rest)) := by
  intro T hT X
  obtain ⟨t, st, q⟩ := k _ rfl T hT X
  refine ⟨t, ?_, q⟩
  have h1 := X.bastoreOut hexec (by rw [hT]; exact hP q0 _ ha) ((hK.2 t0 _ ht).1 n (fun j => .int (f j))) (j := i) (by show (i < 0 ∨ (arrV _ _ _).slots.size ≤ _); rw [arrV_size]; exact Classical.byContradiction hout) (g := F0 m pc ls (.int x :: .int i :: .ref a :: rest)) rfl (rest := rest) rfl (by rw [hb]; exact hdg) t
  simp only [arrV_size] at h1
  exact h1 st
theorem vx_zaldZ {D : va_G} {cl : List vw_C} {ws : va_W} {tys : List (ClassId × FieldType)} {a : Nat} (hexec : p.tables.exec = Jvm.exec) (hb : c.code = cc) (hK : va_K D cl tys s) (hP : va_P D cl ws H) (q0 t0 : Nat) {cA : ClassId} {n : Nat} {f : Nat → Int32} (ha : ws[q0]? = some (a, .inl (cA, n, .inl f))) (ht : tys[t0]? = some (cA, .boolean)) {i : Int32} (hout : ¬ vp_in i n) (hdg : decode cc pc = .ok (.baload, 1))
    (k : ∀ tx : String, tx = (toString "Index " ++ toString i ++ toString " out of bounds for length " ++ toString n : String) → vx_Note p l e R s m args below meth c H locs cells slots Q (F0 m pc ls rest) "java/lang/ArrayIndexOutOfBoundsException" tx) : W p l e R s m args below meth c H locs cells slots Q (F0 m pc ls (.int i :: .ref a :: rest)) := by
  intro T hT X
  obtain ⟨t, st, q⟩ := k _ rfl T hT X
  refine ⟨t, ?_, q⟩
  have h1 := X.baloadOut hexec (by rw [hT]; exact hP q0 _ ha) ((hK.2 t0 _ ht).1 n (fun j => .int (f j))) (j := i) (by show (i < 0 ∨ (arrV _ _ _).slots.size ≤ _); rw [arrV_size]; exact Classical.byContradiction hout) (g := F0 m pc ls (.int i :: .ref a :: rest)) rfl (rest := rest) rfl (by rw [hb]; exact hdg) t
  simp only [arrV_size] at h1
  exact h1 st
theorem vx_zastZ {D : va_G} {cl : List vw_C} {ws : va_W} {tys : List (ClassId × FieldType)} {a : Nat} (hexec : p.tables.exec = Jvm.exec) (hb : c.code = cc) (hK : va_K D cl tys s) (hP : va_P D cl ws H) (q0 t0 : Nat) {cA : ClassId} {n : Nat} {f : Nat → Int32} (ha : ws[q0]? = some (a, .inl (cA, n, .inl f))) (ht : tys[t0]? = some (cA, .boolean)) {i : Int32} {x : Int32} (hout : ¬ vp_in i n) (hdg : decode cc pc = .ok (.bastore, 1))
    (k : ∀ tx : String, tx = (toString "Index " ++ toString i ++ toString " out of bounds for length " ++ toString n : String) → vx_Note p l e R s m args below meth c H locs cells slots Q (F0 m pc ls rest) "java/lang/ArrayIndexOutOfBoundsException" tx) : W p l e R s m args below meth c H locs cells slots Q (F0 m pc ls (.int x :: .int i :: .ref a :: rest)) := by
  intro T hT X
  obtain ⟨t, st, q⟩ := k _ rfl T hT X
  refine ⟨t, ?_, q⟩
  have h1 := X.bastoreOut hexec (by rw [hT]; exact hP q0 _ ha) ((hK.2 t0 _ ht).1 n (fun j => .int (f j))) (j := i) (by show (i < 0 ∨ (arrV _ _ _).slots.size ≤ _); rw [arrV_size]; exact Classical.byContradiction hout) (g := F0 m pc ls (.int x :: .int i :: .ref a :: rest)) rfl (rest := rest) rfl (by rw [hb]; exact hdg) t
  simp only [arrV_size] at h1
  exact h1 st
theorem vx_caldZ {D : va_G} {cl : List vw_C} {ws : va_W} {tys : List (ClassId × FieldType)} {a : Nat} (hexec : p.tables.exec = Jvm.exec) (hb : c.code = cc) (hK : va_K D cl tys s) (hP : va_P D cl ws H) (q0 t0 : Nat) {cA : ClassId} {n : Nat} {f : Nat → Int32} (ha : ws[q0]? = some (a, .inl (cA, n, .inl f))) (ht : tys[t0]? = some (cA, .char)) {i : Int32} (hout : ¬ vp_in i n) (hdg : decode cc pc = .ok (.caload, 1))
    (k : ∀ tx : String, tx = (toString "Index " ++ toString i ++ toString " out of bounds for length " ++ toString n : String) → vx_Note p l e R s m args below meth c H locs cells slots Q (F0 m pc ls rest) "java/lang/ArrayIndexOutOfBoundsException" tx) : W p l e R s m args below meth c H locs cells slots Q (F0 m pc ls (.int i :: .ref a :: rest)) := by
  intro T hT X
  obtain ⟨t, st, q⟩ := k _ rfl T hT X
  refine ⟨t, ?_, q⟩
  have h1 := X.caloadOut hexec (by rw [hT]; exact hP q0 _ ha) ((hK.2 t0 _ ht).1 n (fun j => .int (f j))) (j := i) (by show (i < 0 ∨ (arrV _ _ _).slots.size ≤ _); rw [arrV_size]; exact Classical.byContradiction hout) (g := F0 m pc ls (.int i :: .ref a :: rest)) rfl (rest := rest) rfl (by rw [hb]; exact hdg) t
  simp only [arrV_size] at h1
  exact h1 st
theorem vx_castZ {D : va_G} {cl : List vw_C} {ws : va_W} {tys : List (ClassId × FieldType)} {a : Nat} (hexec : p.tables.exec = Jvm.exec) (hb : c.code = cc) (hK : va_K D cl tys s) (hP : va_P D cl ws H) (q0 t0 : Nat) {cA : ClassId} {n : Nat} {f : Nat → Int32} (ha : ws[q0]? = some (a, .inl (cA, n, .inl f))) (ht : tys[t0]? = some (cA, .char)) {i : Int32} {x : Int32} (hout : ¬ vp_in i n) (hdg : decode cc pc = .ok (.castore, 1))
    (k : ∀ tx : String, tx = (toString "Index " ++ toString i ++ toString " out of bounds for length " ++ toString n : String) → vx_Note p l e R s m args below meth c H locs cells slots Q (F0 m pc ls rest) "java/lang/ArrayIndexOutOfBoundsException" tx) : W p l e R s m args below meth c H locs cells slots Q (F0 m pc ls (.int x :: .int i :: .ref a :: rest)) := by
  intro T hT X
  obtain ⟨t, st, q⟩ := k _ rfl T hT X
  refine ⟨t, ?_, q⟩
  have h1 := X.castoreOut hexec (by rw [hT]; exact hP q0 _ ha) ((hK.2 t0 _ ht).1 n (fun j => .int (f j))) (j := i) (by show (i < 0 ∨ (arrV _ _ _).slots.size ≤ _); rw [arrV_size]; exact Classical.byContradiction hout) (g := F0 m pc ls (.int x :: .int i :: .ref a :: rest)) rfl (rest := rest) rfl (by rw [hb]; exact hdg) t
  simp only [arrV_size] at h1
  exact h1 st
theorem vx_saldZ {D : va_G} {cl : List vw_C} {ws : va_W} {tys : List (ClassId × FieldType)} {a : Nat} (hexec : p.tables.exec = Jvm.exec) (hb : c.code = cc) (hK : va_K D cl tys s) (hP : va_P D cl ws H) (q0 t0 : Nat) {cA : ClassId} {n : Nat} {f : Nat → Int32} (ha : ws[q0]? = some (a, .inl (cA, n, .inl f))) (ht : tys[t0]? = some (cA, .short)) {i : Int32} (hout : ¬ vp_in i n) (hdg : decode cc pc = .ok (.saload, 1))
    (k : ∀ tx : String, tx = (toString "Index " ++ toString i ++ toString " out of bounds for length " ++ toString n : String) → vx_Note p l e R s m args below meth c H locs cells slots Q (F0 m pc ls rest) "java/lang/ArrayIndexOutOfBoundsException" tx) : W p l e R s m args below meth c H locs cells slots Q (F0 m pc ls (.int i :: .ref a :: rest)) := by
  intro T hT X
  obtain ⟨t, st, q⟩ := k _ rfl T hT X
  refine ⟨t, ?_, q⟩
  have h1 := X.saloadOut hexec (by rw [hT]; exact hP q0 _ ha) ((hK.2 t0 _ ht).1 n (fun j => .int (f j))) (j := i) (by show (i < 0 ∨ (arrV _ _ _).slots.size ≤ _); rw [arrV_size]; exact Classical.byContradiction hout) (g := F0 m pc ls (.int i :: .ref a :: rest)) rfl (rest := rest) rfl (by rw [hb]; exact hdg) t
  simp only [arrV_size] at h1
  exact h1 st
theorem vx_sastZ {D : va_G} {cl : List vw_C} {ws : va_W} {tys : List (ClassId × FieldType)} {a : Nat} (hexec : p.tables.exec = Jvm.exec) (hb : c.code = cc) (hK : va_K D cl tys s) (hP : va_P D cl ws H) (q0 t0 : Nat) {cA : ClassId} {n : Nat} {f : Nat → Int32} (ha : ws[q0]? = some (a, .inl (cA, n, .inl f))) (ht : tys[t0]? = some (cA, .short)) {i : Int32} {x : Int32} (hout : ¬ vp_in i n) (hdg : decode cc pc = .ok (.sastore, 1))
    (k : ∀ tx : String, tx = (toString "Index " ++ toString i ++ toString " out of bounds for length " ++ toString n : String) → vx_Note p l e R s m args below meth c H locs cells slots Q (F0 m pc ls rest) "java/lang/ArrayIndexOutOfBoundsException" tx) : W p l e R s m args below meth c H locs cells slots Q (F0 m pc ls (.int x :: .int i :: .ref a :: rest)) := by
  intro T hT X
  obtain ⟨t, st, q⟩ := k _ rfl T hT X
  refine ⟨t, ?_, q⟩
  have h1 := X.sastoreOut hexec (by rw [hT]; exact hP q0 _ ha) ((hK.2 t0 _ ht).1 n (fun j => .int (f j))) (j := i) (by show (i < 0 ∨ (arrV _ _ _).slots.size ≤ _); rw [arrV_size]; exact Classical.byContradiction hout) (g := F0 m pc ls (.int x :: .int i :: .ref a :: rest)) rfl (rest := rest) rfl (by rw [hb]; exact hdg) t
  simp only [arrV_size] at h1
  exact h1 st
theorem vx_laldZ {D : va_G} {cl : List vw_C} {ws : va_W} {tys : List (ClassId × FieldType)} {a : Nat} (hexec : p.tables.exec = Jvm.exec) (hb : c.code = cc) (hK : va_K D cl tys s) (hP : va_P D cl ws H) (q0 t0 : Nat) {cA : ClassId} {n : Nat} {f : Nat → Int64} (ha : ws[q0]? = some (a, .inl (cA, n, .inr (.inl f)))) (ht : tys[t0]? = some (cA, .long)) {i : Int32} (hout : ¬ vp_in i n) (hdg : decode cc pc = .ok (.laload, 1))
    (k : ∀ tx : String, tx = (toString "Index " ++ toString i ++ toString " out of bounds for length " ++ toString n : String) → vx_Note p l e R s m args below meth c H locs cells slots Q (F0 m pc ls rest) "java/lang/ArrayIndexOutOfBoundsException" tx) : W p l e R s m args below meth c H locs cells slots Q (F0 m pc ls (.int i :: .ref a :: rest)) := by
  intro T hT X
  obtain ⟨t, st, q⟩ := k _ rfl T hT X
  refine ⟨t, ?_, q⟩
  have h1 := X.laloadOut hexec (by rw [hT]; exact hP q0 _ ha) ((hK.2 t0 _ ht).1 n (fun j => .long (f j))) (j := i) (by show (i < 0 ∨ (arrV _ _ _).slots.size ≤ _); rw [arrV_size]; exact Classical.byContradiction hout) (g := F0 m pc ls (.int i :: .ref a :: rest)) rfl (rest := rest) rfl (by rw [hb]; exact hdg) t
  simp only [arrV_size] at h1
  exact h1 st
theorem vx_lastZ {D : va_G} {cl : List vw_C} {ws : va_W} {tys : List (ClassId × FieldType)} {a : Nat} (hexec : p.tables.exec = Jvm.exec) (hb : c.code = cc) (hK : va_K D cl tys s) (hP : va_P D cl ws H) (q0 t0 : Nat) {cA : ClassId} {n : Nat} {f : Nat → Int64} (ha : ws[q0]? = some (a, .inl (cA, n, .inr (.inl f)))) (ht : tys[t0]? = some (cA, .long)) {i : Int32} {x : Int64} (hout : ¬ vp_in i n) (hdg : decode cc pc = .ok (.lastore, 1))
    (k : ∀ tx : String, tx = (toString "Index " ++ toString i ++ toString " out of bounds for length " ++ toString n : String) → vx_Note p l e R s m args below meth c H locs cells slots Q (F0 m pc ls rest) "java/lang/ArrayIndexOutOfBoundsException" tx) : W p l e R s m args below meth c H locs cells slots Q (F0 m pc ls (.long x :: .int i :: .ref a :: rest)) := by
  intro T hT X
  obtain ⟨t, st, q⟩ := k _ rfl T hT X
  refine ⟨t, ?_, q⟩
  have h1 := X.lastoreOut hexec (by rw [hT]; exact hP q0 _ ha) ((hK.2 t0 _ ht).1 n (fun j => .long (f j))) (j := i) (by show (i < 0 ∨ (arrV _ _ _).slots.size ≤ _); rw [arrV_size]; exact Classical.byContradiction hout) (g := F0 m pc ls (.long x :: .int i :: .ref a :: rest)) rfl (rest := rest) rfl (by rw [hb]; exact hdg) t
  simp only [arrV_size] at h1
  exact h1 st
theorem vx_faldZ {D : va_G} {cl : List vw_C} {ws : va_W} {tys : List (ClassId × FieldType)} {a : Nat} (hexec : p.tables.exec = Jvm.exec) (hb : c.code = cc) (hK : va_K D cl tys s) (hP : va_P D cl ws H) (q0 t0 : Nat) {cA : ClassId} {n : Nat} {f : Nat → UInt32} (ha : ws[q0]? = some (a, .inl (cA, n, .inr (.inr (.inl f))))) (ht : tys[t0]? = some (cA, .float)) {i : Int32} (hout : ¬ vp_in i n) (hdg : decode cc pc = .ok (.faload, 1))
    (k : ∀ tx : String, tx = (toString "Index " ++ toString i ++ toString " out of bounds for length " ++ toString n : String) → vx_Note p l e R s m args below meth c H locs cells slots Q (F0 m pc ls rest) "java/lang/ArrayIndexOutOfBoundsException" tx) : W p l e R s m args below meth c H locs cells slots Q (F0 m pc ls (.int i :: .ref a :: rest)) := by
  intro T hT X
  obtain ⟨t, st, q⟩ := k _ rfl T hT X
  refine ⟨t, ?_, q⟩
  have h1 := X.faloadOut hexec (by rw [hT]; exact hP q0 _ ha) ((hK.2 t0 _ ht).1 n (fun j => .float (f j))) (j := i) (by show (i < 0 ∨ (arrV _ _ _).slots.size ≤ _); rw [arrV_size]; exact Classical.byContradiction hout) (g := F0 m pc ls (.int i :: .ref a :: rest)) rfl (rest := rest) rfl (by rw [hb]; exact hdg) t
  simp only [arrV_size] at h1
  exact h1 st
theorem vx_fastZ {D : va_G} {cl : List vw_C} {ws : va_W} {tys : List (ClassId × FieldType)} {a : Nat} (hexec : p.tables.exec = Jvm.exec) (hb : c.code = cc) (hK : va_K D cl tys s) (hP : va_P D cl ws H) (q0 t0 : Nat) {cA : ClassId} {n : Nat} {f : Nat → UInt32} (ha : ws[q0]? = some (a, .inl (cA, n, .inr (.inr (.inl f))))) (ht : tys[t0]? = some (cA, .float)) {i : Int32} {x : UInt32} (hout : ¬ vp_in i n) (hdg : decode cc pc = .ok (.fastore, 1))
    (k : ∀ tx : String, tx = (toString "Index " ++ toString i ++ toString " out of bounds for length " ++ toString n : String) → vx_Note p l e R s m args below meth c H locs cells slots Q (F0 m pc ls rest) "java/lang/ArrayIndexOutOfBoundsException" tx) : W p l e R s m args below meth c H locs cells slots Q (F0 m pc ls (.float x :: .int i :: .ref a :: rest)) := by
  intro T hT X
  obtain ⟨t, st, q⟩ := k _ rfl T hT X
  refine ⟨t, ?_, q⟩
  have h1 := X.fastoreOut hexec (by rw [hT]; exact hP q0 _ ha) ((hK.2 t0 _ ht).1 n (fun j => .float (f j))) (j := i) (by show (i < 0 ∨ (arrV _ _ _).slots.size ≤ _); rw [arrV_size]; exact Classical.byContradiction hout) (g := F0 m pc ls (.float x :: .int i :: .ref a :: rest)) rfl (rest := rest) rfl (by rw [hb]; exact hdg) t
  simp only [arrV_size] at h1
  exact h1 st
theorem vx_daldZ {D : va_G} {cl : List vw_C} {ws : va_W} {tys : List (ClassId × FieldType)} {a : Nat} (hexec : p.tables.exec = Jvm.exec) (hb : c.code = cc) (hK : va_K D cl tys s) (hP : va_P D cl ws H) (q0 t0 : Nat) {cA : ClassId} {n : Nat} {f : Nat → UInt64} (ha : ws[q0]? = some (a, .inl (cA, n, .inr (.inr (.inr (.inl f)))))) (ht : tys[t0]? = some (cA, .double)) {i : Int32} (hout : ¬ vp_in i n) (hdg : decode cc pc = .ok (.daload, 1))
    (k : ∀ tx : String, tx = (toString "Index " ++ toString i ++ toString " out of bounds for length " ++ toString n : String) → vx_Note p l e R s m args below meth c H locs cells slots Q (F0 m pc ls rest) "java/lang/ArrayIndexOutOfBoundsException" tx) : W p l e R s m args below meth c H locs cells slots Q (F0 m pc ls (.int i :: .ref a :: rest)) := by
  intro T hT X
  obtain ⟨t, st, q⟩ := k _ rfl T hT X
  refine ⟨t, ?_, q⟩
  have h1 := X.daloadOut hexec (by rw [hT]; exact hP q0 _ ha) ((hK.2 t0 _ ht).1 n (fun j => .double (f j))) (j := i) (by show (i < 0 ∨ (arrV _ _ _).slots.size ≤ _); rw [arrV_size]; exact Classical.byContradiction hout) (g := F0 m pc ls (.int i :: .ref a :: rest)) rfl (rest := rest) rfl (by rw [hb]; exact hdg) t
  simp only [arrV_size] at h1
  exact h1 st
theorem vx_dastZ {D : va_G} {cl : List vw_C} {ws : va_W} {tys : List (ClassId × FieldType)} {a : Nat} (hexec : p.tables.exec = Jvm.exec) (hb : c.code = cc) (hK : va_K D cl tys s) (hP : va_P D cl ws H) (q0 t0 : Nat) {cA : ClassId} {n : Nat} {f : Nat → UInt64} (ha : ws[q0]? = some (a, .inl (cA, n, .inr (.inr (.inr (.inl f)))))) (ht : tys[t0]? = some (cA, .double)) {i : Int32} {x : UInt64} (hout : ¬ vp_in i n) (hdg : decode cc pc = .ok (.dastore, 1))
    (k : ∀ tx : String, tx = (toString "Index " ++ toString i ++ toString " out of bounds for length " ++ toString n : String) → vx_Note p l e R s m args below meth c H locs cells slots Q (F0 m pc ls rest) "java/lang/ArrayIndexOutOfBoundsException" tx) : W p l e R s m args below meth c H locs cells slots Q (F0 m pc ls (.double x :: .int i :: .ref a :: rest)) := by
  intro T hT X
  obtain ⟨t, st, q⟩ := k _ rfl T hT X
  refine ⟨t, ?_, q⟩
  have h1 := X.dastoreOut hexec (by rw [hT]; exact hP q0 _ ha) ((hK.2 t0 _ ht).1 n (fun j => .double (f j))) (j := i) (by show (i < 0 ∨ (arrV _ _ _).slots.size ≤ _); rw [arrV_size]; exact Classical.byContradiction hout) (g := F0 m pc ls (.double x :: .int i :: .ref a :: rest)) rfl (rest := rest) rfl (by rw [hb]; exact hdg) t
  simp only [arrV_size] at h1
  exact h1 st
theorem vx_arraylengthN (hexec : p.tables.exec = Jvm.exec) (hb : c.code = cc) (hdg : decode cc pc = .ok (.arraylength, 1)) (k : vx_NoteN p l e R s m args below meth c H locs cells slots Q (F0 m pc ls rest)) : W p l e R s m args below meth c H locs cells slots Q (F0 m pc ls (.null :: rest)) := by
  intro T hT X
  obtain ⟨t, st, q⟩ := k T hT X
  exact ⟨t, X.arraylengthNull hexec (g := F0 m pc ls (.null :: rest)) rfl (rest := rest) rfl (by rw [hb]; exact hdg) t st, q⟩
theorem vx_ialoadN (hexec : p.tables.exec = Jvm.exec) (hb : c.code = cc) {i : Int32} (hdg : decode cc pc = .ok (.iaload, 1)) (k : vx_NoteN p l e R s m args below meth c H locs cells slots Q (F0 m pc ls rest)) : W p l e R s m args below meth c H locs cells slots Q (F0 m pc ls (.int i :: .null :: rest)) := by
  intro T hT X
  obtain ⟨t, st, q⟩ := k T hT X
  exact ⟨t, X.ialoadNull hexec (g := F0 m pc ls (.int i :: .null :: rest)) rfl (rest := rest) rfl (by rw [hb]; exact hdg) t st, q⟩
theorem vx_laloadN (hexec : p.tables.exec = Jvm.exec) (hb : c.code = cc) {i : Int32} (hdg : decode cc pc = .ok (.laload, 1)) (k : vx_NoteN p l e R s m args below meth c H locs cells slots Q (F0 m pc ls rest)) : W p l e R s m args below meth c H locs cells slots Q (F0 m pc ls (.int i :: .null :: rest)) := by
  intro T hT X
  obtain ⟨t, st, q⟩ := k T hT X
  exact ⟨t, X.laloadNull hexec (g := F0 m pc ls (.int i :: .null :: rest)) rfl (rest := rest) rfl (by rw [hb]; exact hdg) t st, q⟩
theorem vx_faloadN (hexec : p.tables.exec = Jvm.exec) (hb : c.code = cc) {i : Int32} (hdg : decode cc pc = .ok (.faload, 1)) (k : vx_NoteN p l e R s m args below meth c H locs cells slots Q (F0 m pc ls rest)) : W p l e R s m args below meth c H locs cells slots Q (F0 m pc ls (.int i :: .null :: rest)) := by
  intro T hT X
  obtain ⟨t, st, q⟩ := k T hT X
  exact ⟨t, X.faloadNull hexec (g := F0 m pc ls (.int i :: .null :: rest)) rfl (rest := rest) rfl (by rw [hb]; exact hdg) t st, q⟩
theorem vx_daloadN (hexec : p.tables.exec = Jvm.exec) (hb : c.code = cc) {i : Int32} (hdg : decode cc pc = .ok (.daload, 1)) (k : vx_NoteN p l e R s m args below meth c H locs cells slots Q (F0 m pc ls rest)) : W p l e R s m args below meth c H locs cells slots Q (F0 m pc ls (.int i :: .null :: rest)) := by
  intro T hT X
  obtain ⟨t, st, q⟩ := k T hT X
  exact ⟨t, X.daloadNull hexec (g := F0 m pc ls (.int i :: .null :: rest)) rfl (rest := rest) rfl (by rw [hb]; exact hdg) t st, q⟩
theorem vx_aaloadN (hexec : p.tables.exec = Jvm.exec) (hb : c.code = cc) {i : Int32} (hdg : decode cc pc = .ok (.aaload, 1)) (k : vx_NoteN p l e R s m args below meth c H locs cells slots Q (F0 m pc ls rest)) : W p l e R s m args below meth c H locs cells slots Q (F0 m pc ls (.int i :: .null :: rest)) := by
  intro T hT X
  obtain ⟨t, st, q⟩ := k T hT X
  exact ⟨t, X.aaloadNull hexec (g := F0 m pc ls (.int i :: .null :: rest)) rfl (rest := rest) rfl (by rw [hb]; exact hdg) t st, q⟩
theorem vx_baloadN (hexec : p.tables.exec = Jvm.exec) (hb : c.code = cc) {i : Int32} (hdg : decode cc pc = .ok (.baload, 1)) (k : vx_NoteN p l e R s m args below meth c H locs cells slots Q (F0 m pc ls rest)) : W p l e R s m args below meth c H locs cells slots Q (F0 m pc ls (.int i :: .null :: rest)) := by
  intro T hT X
  obtain ⟨t, st, q⟩ := k T hT X
  exact ⟨t, X.baloadNull hexec (g := F0 m pc ls (.int i :: .null :: rest)) rfl (rest := rest) rfl (by rw [hb]; exact hdg) t st, q⟩
theorem vx_caloadN (hexec : p.tables.exec = Jvm.exec) (hb : c.code = cc) {i : Int32} (hdg : decode cc pc = .ok (.caload, 1)) (k : vx_NoteN p l e R s m args below meth c H locs cells slots Q (F0 m pc ls rest)) : W p l e R s m args below meth c H locs cells slots Q (F0 m pc ls (.int i :: .null :: rest)) := by
  intro T hT X
  obtain ⟨t, st, q⟩ := k T hT X
  exact ⟨t, X.caloadNull hexec (g := F0 m pc ls (.int i :: .null :: rest)) rfl (rest := rest) rfl (by rw [hb]; exact hdg) t st, q⟩
theorem vx_saloadN (hexec : p.tables.exec = Jvm.exec) (hb : c.code = cc) {i : Int32} (hdg : decode cc pc = .ok (.saload, 1)) (k : vx_NoteN p l e R s m args below meth c H locs cells slots Q (F0 m pc ls rest)) : W p l e R s m args below meth c H locs cells slots Q (F0 m pc ls (.int i :: .null :: rest)) := by
  intro T hT X
  obtain ⟨t, st, q⟩ := k T hT X
  exact ⟨t, X.saloadNull hexec (g := F0 m pc ls (.int i :: .null :: rest)) rfl (rest := rest) rfl (by rw [hb]; exact hdg) t st, q⟩
theorem vx_iastoreN (hexec : p.tables.exec = Jvm.exec) (hb : c.code = cc) {x : Int32} {i : Int32} (hdg : decode cc pc = .ok (.iastore, 1)) (k : vx_NoteN p l e R s m args below meth c H locs cells slots Q (F0 m pc ls rest)) : W p l e R s m args below meth c H locs cells slots Q (F0 m pc ls (.int x :: .int i :: .null :: rest)) := by
  intro T hT X
  obtain ⟨t, st, q⟩ := k T hT X
  exact ⟨t, X.iastoreNull hexec (g := F0 m pc ls (.int x :: .int i :: .null :: rest)) rfl (rest := rest) rfl (by rw [hb]; exact hdg) t st, q⟩
theorem vx_lastoreN (hexec : p.tables.exec = Jvm.exec) (hb : c.code = cc) {x : Int64} {i : Int32} (hdg : decode cc pc = .ok (.lastore, 1)) (k : vx_NoteN p l e R s m args below meth c H locs cells slots Q (F0 m pc ls rest)) : W p l e R s m args below meth c H locs cells slots Q (F0 m pc ls (.long x :: .int i :: .null :: rest)) := by
  intro T hT X
  obtain ⟨t, st, q⟩ := k T hT X
  exact ⟨t, X.lastoreNull hexec (g := F0 m pc ls (.long x :: .int i :: .null :: rest)) rfl (rest := rest) rfl (by rw [hb]; exact hdg) t st, q⟩
theorem vx_fastoreN (hexec : p.tables.exec = Jvm.exec) (hb : c.code = cc) {x : UInt32} {i : Int32} (hdg : decode cc pc = .ok (.fastore, 1)) (k : vx_NoteN p l e R s m args below meth c H locs cells slots Q (F0 m pc ls rest)) : W p l e R s m args below meth c H locs cells slots Q (F0 m pc ls (.float x :: .int i :: .null :: rest)) := by
  intro T hT X
  obtain ⟨t, st, q⟩ := k T hT X
  exact ⟨t, X.fastoreNull hexec (g := F0 m pc ls (.float x :: .int i :: .null :: rest)) rfl (rest := rest) rfl (by rw [hb]; exact hdg) t st, q⟩
theorem vx_dastoreN (hexec : p.tables.exec = Jvm.exec) (hb : c.code = cc) {x : UInt64} {i : Int32} (hdg : decode cc pc = .ok (.dastore, 1)) (k : vx_NoteN p l e R s m args below meth c H locs cells slots Q (F0 m pc ls rest)) : W p l e R s m args below meth c H locs cells slots Q (F0 m pc ls (.double x :: .int i :: .null :: rest)) := by
  intro T hT X
  obtain ⟨t, st, q⟩ := k T hT X
  exact ⟨t, X.dastoreNull hexec (g := F0 m pc ls (.double x :: .int i :: .null :: rest)) rfl (rest := rest) rfl (by rw [hb]; exact hdg) t st, q⟩
theorem vx_bastoreN (hexec : p.tables.exec = Jvm.exec) (hb : c.code = cc) {x : Int32} {i : Int32} (hdg : decode cc pc = .ok (.bastore, 1)) (k : vx_NoteN p l e R s m args below meth c H locs cells slots Q (F0 m pc ls rest)) : W p l e R s m args below meth c H locs cells slots Q (F0 m pc ls (.int x :: .int i :: .null :: rest)) := by
  intro T hT X
  obtain ⟨t, st, q⟩ := k T hT X
  exact ⟨t, X.bastoreNull hexec (g := F0 m pc ls (.int x :: .int i :: .null :: rest)) rfl (rest := rest) rfl (by rw [hb]; exact hdg) t st, q⟩
theorem vx_castoreN (hexec : p.tables.exec = Jvm.exec) (hb : c.code = cc) {x : Int32} {i : Int32} (hdg : decode cc pc = .ok (.castore, 1)) (k : vx_NoteN p l e R s m args below meth c H locs cells slots Q (F0 m pc ls rest)) : W p l e R s m args below meth c H locs cells slots Q (F0 m pc ls (.int x :: .int i :: .null :: rest)) := by
  intro T hT X
  obtain ⟨t, st, q⟩ := k T hT X
  exact ⟨t, X.castoreNull hexec (g := F0 m pc ls (.int x :: .int i :: .null :: rest)) rfl (rest := rest) rfl (by rw [hb]; exact hdg) t st, q⟩
theorem vx_sastoreN (hexec : p.tables.exec = Jvm.exec) (hb : c.code = cc) {x : Int32} {i : Int32} (hdg : decode cc pc = .ok (.sastore, 1)) (k : vx_NoteN p l e R s m args below meth c H locs cells slots Q (F0 m pc ls rest)) : W p l e R s m args below meth c H locs cells slots Q (F0 m pc ls (.int x :: .int i :: .null :: rest)) := by
  intro T hT X
  obtain ⟨t, st, q⟩ := k T hT X
  exact ⟨t, X.sastoreNull hexec (g := F0 m pc ls (.int x :: .int i :: .null :: rest)) rfl (rest := rest) rfl (by rw [hb]; exact hdg) t st, q⟩
theorem vx_invokeN {own C : String} {index maxL : Nat} {y : MethodName} {bytes : ByteArray} {ret : Option FieldType} (hexec : p.tables.exec = Jvm.exec) (hb : c.code = cc) (hown : s.vm.findClass own = some m.cls) (hlink : (Cond.methodLink own index y).before args s = true) (hinst : (Cond.instanceMethod y).before args s = true) (hcode : (Cond.code y bytes maxL ret).before args s = true) (hsel : (Cond.selects C y y).before args s = true)
    (hx : y.cls ≠ "java/lang/invoke/MethodHandle" ∧ y.cls ≠ "java/lang/invoke/VarHandle") {As : List Value} (hlen : (parseMethodDescriptor y.desc).map (fun d => d.parameters.length) = some As.length) (hdg : decode cc pc = .ok (.invokevirtual index, 3))
    (k : vx_NoteN p l e R s m args below meth c H locs cells slots Q (F0 m pc ls rest)) {st0 : List Value} (hst : st0 = As.reverse ++ .null :: rest) : W p l e R s m args below meth c H locs cells slots Q (F0 m pc ls st0) := by
  intro T hT X
  obtain ⟨r0, r, hn, hrm, hstR, hsigR⟩ := va_Decl.of hinst hcode
  obtain ⟨c2, r2, m2, q1, q2, q3, q4, kP, hkP, hkPi⟩ := Cond.selects_spec hsel
  cases hn.symm.trans q3
  have hl9 : As.length = r.sig.parameters.length := by
    rw [hsigR] at hlen
    exact (Option.some.inj hlen).symm
  obtain ⟨vm', X1, st1⟩ := X.invokevirtualNull hexec hown hlink hn hrm hstR hkP hkPi hx (g := F0 m pc ls st0) rfl (argsL := As) (rest := rest) hl9 hst (by rw [hb]; exact hdg)
  obtain ⟨t, st, q⟩ := k (T.setVm vm') hT X1
  exact ⟨t, st1 t st, q⟩
theorem vx_newarrayZ {atype : ArrayType} (hexec : p.tables.exec = Jvm.exec) (hb : c.code = cc) {n : Int32} (h0 : n < 0) (hdg : decode cc pc = .ok (.newarray atype, 2)) (k : ∀ tx : String, tx = toString n → vx_Note p l e R s m args below meth c H locs cells slots Q (F0 m pc ls rest) "java/lang/NegativeArraySizeException" tx) : W p l e R s m args below meth c H locs cells slots Q (F0 m pc ls (.int n :: rest)) := by
  intro T hT X
  obtain ⟨t, st, q⟩ := k _ rfl T hT X
  exact ⟨t, X.newarrayNegative hexec (g := F0 m pc ls (.int n :: rest)) rfl h0 (rest := rest) rfl (by rw [hb]; exact hdg) t st, q⟩
end
end VXM
/-! ===== END ===== -/
/-! ===== BEGIN an exception as an object: made, kept, thrown later (no traces kept) ===== -/
section VXK
variable {p : Program} {l : Launch} {e : Env} {R : Room} {s : State} {m₀ : MethodId} {args : Array Value} {below : List Frame} {meth : Method} {c : Code} {W : State} {locs : List Loc} {cells slots : Nat}
set_option maxHeartbeats 1000000 in
theorem vx_ctorMadeS (X : Stand p l e R s m₀ args below meth c W locs cells slots) (hexec : p.tables.exec = Jvm.exec) (htr : e.platform.stackTraces = false) {own cls : String} {names : List String} {ic : Nat}
    (hown : s.vm.findClass own = some m₀.cls) (hcls : Bundle.fit cls = true) (hnames : ∀ n ∈ names, Bundle.fit n = true)
    (h : ∀ a ∈ Bundle.ownAtoms own ic cls names, a.before args s = true)
    (hlocs : ∀ x ∈ locs, ∀ cell, s.heap[x.base]? = some cell → cell.vm.isStatics = false)
    {a : Addr} {cX : ClassId} {kX : Class} (hfoundX : s.vm.findClass cls = some cX) (hkX : s.vm.classes[cX]? = some kX) (hcell : W.heap[a]? = some (freshCell cX kX)) (hnew : s.heap.size ≤ a)
    {msg : Value} (hmsg : msg.isRef = true)
    {g : JFrame} (hg : g.method = m₀) (hsize : g.locals.size = c.maxLocals) {rest : List Value} (hstack : g.stack = msg :: .ref a :: .ref a :: rest)
    (hd6 : decode c.code g.pc = .ok (.invokespecial ic, 3))
    (hRframes : names.length + 3 < R.frames) (hRlocals : 2 * g.monitorRoom + ((Value.ref a :: rest).map fun v => v.category).sum + (13 * (names.length + 1) + 42) ≤ R.locals) :
    ∃ (V : State) (ce : Cell) (L : List Loc), Stand p l e R s m₀ args below meth c (V.setCell a ce) (locs ++ L) cells slots ∧ (∀ y ∈ L, y.base = a) ∧ a < V.heap.size ∧ ce.cls = cX ∧ ce.vm = .none ∧
      ∀ target, Steps p.tables e below ((V.setCell a ce).setTop { g with stack := .ref a :: rest, pc := g.pc + 3 }) target → Steps p.tables e below (W.setTop g) target := by
  have howns : e.platform.frameOwnsMonitors = true := by rw [X.admits.platform]
  have hfin : e.platform.finalization = false := by rw [X.admits.platform]
  have hpl : e.platform.magicAccessors = ({} : Platform).magicAccessors := by rw [X.admits.platform]
  have a' : ∀ x, x ∈ Bundle.ownAtoms own ic cls names → x.holds args s none s [] = true := fun x hx => h x hx
  obtain ⟨T, Z0, L, -, Y⟩ := ThrowableC.of_atoms (args := args) howns hfin hpl (fun x hx => h x (by simp [Bundle.ownAtoms, hx]))
  obtain ⟨Z, M, LZ, LM, hnZ⟩ := Init0T.ofS_atoms (args := args) hpl L Y (fun x hx => h x (by simp [Bundle.ownAtoms, hx]))
  obtain ⟨P1, Ps, hlen, L1, hL, hP1m, hlink1, hlink⟩ := Bundle.chainS (args := args) hpl hnZ names cls hcls hnames (fun x hx => h x (by simp [Bundle.ownAtoms, hx]))
  have hfound : s.vm.findClass cls = some P1.m.cls := findClass_of_methodNamed hP1m
  cases Option.some.inj (hfoundX.symm.trans hfound)
  obtain ⟨c1, kX', hc1, hk, hord, -, -, hn6⟩ := Cond.instantiable_spec (a' (.instantiable cls 6) (by simp [Bundle.ownAtoms]))
  cases Option.some.inj (hc1.symm.trans hfound)
  cases Option.some.inj (hkX.symm.trans hk)
  have hsel0 : selectMethod e.platform s.vm P1.m.cls T.fill0 = .method T.fill0 := by
    obtain ⟨c2, r2, m2, q1, q2, q3, q4, -⟩ := Cond.selects_spec (a' (.selects cls Bundle.tFill0 Bundle.tFill0) (by simp [Bundle.ownAtoms]))
    cases Option.some.inj (q1.symm.trans hfound)
    cases Option.some.inj (q2.symm.trans (State.methodFound?_of_named Y.fill0 (by decide)))
    cases Option.some.inj (q3.symm.trans Y.fill0)
    rw [Launch.admits_selectMethod X.admits]; exact q4
  have hselF : selectMethod e.platform s.vm P1.m.cls T.fill = .method T.fill := by
    obtain ⟨c2, r2, m2, q1, q2, q3, q4, -⟩ := Cond.selects_spec (a' (.selects cls Bundle.tFill Bundle.tFill) (by simp [Bundle.ownAtoms]))
    cases Option.some.inj (q1.symm.trans hfound)
    cases Option.some.inj (q2.symm.trans (State.methodFound?_of_named Y.fill (by decide)))
    cases Option.some.inj (q3.symm.trans Y.fill)
    rw [Launch.admits_selectMethod X.admits]; exact q4
  obtain ⟨cellS0, hcS0, hiss⟩ := Y.statics
  obtain ⟨u0, hu0⟩ := Cond.staticRefV Y.unassigned L.unassignedStatic L.statics hcS0 hiss (a' (.isRef (.static Bundle.tN "UNASSIGNED_STACK" Bundle.steD)) (by simp [Bundle.ownAtoms]))
  obtain ⟨sen, hsen⟩ := Cond.staticRefV Y.sentinel L.sentinelStatic L.statics hcS0 hiss (a' (.isRef (.static Bundle.tN "SUPPRESSED_SENTINEL" Bundle.listD)) (by simp [Bundle.ownAtoms]))
  obtain ⟨ci198, i198, fB, hk198, hg198, ha198, hsB, -, hnB, htB, hffB⟩ := Cond.ownField (t := .object "java/lang/Object") Y.found L.cls (by decide +kernel) (a' (.fieldLink Bundle.tN 198 Bundle.tN "backtrace" "Ljava/lang/Object;") (by simp [Bundle.ownAtoms])) (a' (.lays Bundle.tN Bundle.tN "backtrace" "Ljava/lang/Object;") (by simp [Bundle.ownAtoms])) e.platform hpl
  obtain ⟨cellS, hcS', heS, -, hkeep⟩ := X.same.2.2.2.2.2 T.aS cellS0 hcS0
  have hcellS : W.heap[T.aS]? = some cellS := hcS'
  have hout' : ∀ i, (⟨T.aS, i⟩ : Loc) ∉ locs := fun i hmem => by
    have := hlocs _ hmem cellS0 hcS0
    rw [hiss] at this; cases this
  have hknownS : cellS.vm ≠ .unknown := by
    rw [heS]; intro hu
    rw [show cellS0.vm = .unknown from hu] at hiss
    cases hiss
  have hneS : T.aS ≠ a := Nat.ne_of_lt (Nat.lt_of_lt_of_le (Array.getElem?_eq_some_iff.mp hcS0).1 hnew)
  obtain ⟨iM, hffM⟩ := Y.msg
  obtain ⟨tyC, dC, hdC, hdnC⟩ := Cond.laysAt hfound hk Y.cause (a' (.lays cls Bundle.tN "cause" "Ljava/lang/Throwable;") (by simp [Bundle.ownAtoms]))
  obtain ⟨tyS, dS, hdS, hdnS⟩ := Cond.laysAt hfound hk Y.stack (a' (.lays cls Bundle.tN "stackTrace" Bundle.steD) (by simp [Bundle.ownAtoms]))
  obtain ⟨tyP, dP, hdP, hdnP⟩ := Cond.laysAt hfound hk Y.supp (a' (.lays cls Bundle.tN "suppressedExceptions" Bundle.listD) (by simp [Bundle.ownAtoms]))
  obtain ⟨tyM, dM, hdM, hdnM⟩ := Cond.laysAt hfound hk hffM (a' (.lays cls Bundle.tN "detailMessage" "Ljava/lang/String;") (by simp [Bundle.ownAtoms]))
  obtain ⟨tyB, dB, hdB, hdnB⟩ := Cond.laysAt hfound hk hffB (a' (.lays cls Bundle.tN "backtrace" "Ljava/lang/Object;") (by simp [Bundle.ownAtoms]))
  have bC := Cond.laysApart hdB hdC hdnB hdnC (by rw [hnB, Y.causeName]; decide)
  have bS := Cond.laysApart hdB hdS hdnB hdnS (by rw [hnB, Y.stackName]; decide)
  have bP := Cond.laysApart hdB hdP hdnB hdnP (by rw [hnB, Y.suppName]; decide)
  have hskip : SkipFacts T e.platform s (fun u => u) u0 ((preparedCellV T.toThrowableT (freshCell P1.m.cls kX) a u0 sen).withEntry W.cur) :=
    ⟨{ ci198 := ci198, i198 := i198, fBack := fB }, ⟨hk198, hg198, ha198, hsB⟩, by
      have := fresh_default (c := P1.m.cls) tyB
      rw [htB] at this
      simpa [preparedCellV, Cell.setSlot, Cell.withEntry, Array.getElem?_setIfInBounds, bC, bS, bP, bC.symm, bS.symm, bP.symm, defaultValue] using this, fun _ _ => rfl⟩
  obtain ⟨tm, methC, cdC, kC, vm₁, hnC, -, -, -, -, -, -, -, hW₁, st1⟩ := Steps.initColdS (tb := p.tables) (e := e) (below := below) (s := s) (U := W) X.here hexec X.warmed hpl hown (t := Bundle.initS cls) rfl rfl (Bundle.fit_spec hcls).2
    (a' (.methodLink own ic (Bundle.initS cls)) (by simp [Bundle.ownAtoms])) (h (.instanceMethod (Bundle.initS cls)) (by cases names <;> simp [Bundle.ownAtoms, Bundle.chainSAtoms, Bundle.passSAtoms])) (bytes := Bundle.six) (maxL := 2) (h (.code (Bundle.initS cls) Bundle.six 2 none) (by cases names <;> simp [Bundle.ownAtoms, Bundle.chainSAtoms, Bundle.passSAtoms]))
    (f := g) hg (a := a) (msg := msg) (rest := .ref a :: rest) hstack hd6
  cases Option.some.inj (hnC.symm.trans hP1m)
  have X₁ := X.noted hW₁
  obtain ⟨vm₂, X₂, st2⟩ := X₁.ctorMessageOffV hexec (g := { g with stack := .ref a :: rest }) hg hsize T L Z LZ M LM (P1 :: Ps)
    (fun P hP => by rcases List.mem_cons.mp hP with rfl | hP; exact L1; exact hL P hP) ⟨hlink1, hlink⟩ (u0 := u0) (sen := sen) (self := a) hmsg (cell := freshCell P1.m.cls kX) (cellS := cellS)
    hcell (fun _ => by simp) (by simp) rfl rfl hsel0 hselF hcellS hneS hknownS (by rw [hkeep _ (hout' _)]; exact hu0) (by rw [hkeep _ (hout' _)]; exact hsen)
    (Takes.of_laid hk hord tyC (by rw [Y.causeType]; rfl)) (Takes.of_laid hk hord tyS (by rw [Y.stackType]; exact fits_refV_array _ u0)) (Takes.of_laid hk hord tyP (by rw [Y.suppType]; exact fits_refV_object _ sen))
    (Takes.of_laid hk hord tyM (by rw [Y.msgType]; exact fits_refV_object _ ⟨msg, hmsg⟩)) Y.objLocals hskip htr [] hd6
    (by simp only [List.length_cons, hlen]; omega) (by simp only [List.length_cons, hlen]; exact hRlocals)
  have hlt : a < ((W.setVm vm₁).setVm vm₂).heap.size := (Array.getElem?_eq_some_iff.mp hcell).1
  refine ⟨(W.setVm vm₁).setVm vm₂, _, _, X₂, fun y hy => ?_, hlt, rfl, rfl, fun target hwalk => st1 _ (fun acts => ?_)⟩
  · simp only [List.mem_cons, List.not_mem_nil, or_false] at hy
    rcases hy with rfl | rfl | rfl | rfl | rfl <;> rfl
  · rw [doInvoke_state]
    exact st2 _ hwalk
set_option maxHeartbeats 1000000 in
theorem vx_ctorMade0 (X : Stand p l e R s m₀ args below meth c W locs cells slots) (hexec : p.tables.exec = Jvm.exec) (htr : e.platform.stackTraces = false) {own cls : String} {names : List String} {ic : Nat}
    (hown : s.vm.findClass own = some m₀.cls) (hcls : Bundle.fit cls = true) (hnames : ∀ n ∈ names, Bundle.fit n = true)
    (h : ∀ a ∈ Bundle.ownAtoms0 own ic cls names, a.before args s = true)
    (hlocs : ∀ x ∈ locs, ∀ cell, s.heap[x.base]? = some cell → cell.vm.isStatics = false)
    {a : Addr} {cX : ClassId} {kX : Class} (hfoundX : s.vm.findClass cls = some cX) (hkX : s.vm.classes[cX]? = some kX) (hcell : W.heap[a]? = some (freshCell cX kX)) (hnew : s.heap.size ≤ a)
    {g : JFrame} (hg : g.method = m₀) (hsize : g.locals.size = c.maxLocals) {rest : List Value} (hstack : g.stack = .ref a :: .ref a :: rest)
    (hd6 : decode c.code g.pc = .ok (.invokespecial ic, 3))
    (hRframes : names.length + 3 < R.frames) (hRlocals : 2 * g.monitorRoom + ((Value.ref a :: rest).map fun v => v.category).sum + (13 * (names.length + 1) + 41) ≤ R.locals) :
    ∃ (V : State) (ce : Cell) (L : List Loc), Stand p l e R s m₀ args below meth c (V.setCell a ce) (locs ++ L) cells slots ∧ (∀ y ∈ L, y.base = a) ∧ a < V.heap.size ∧ ce.cls = cX ∧ ce.vm = .none ∧
      ∀ target, Steps p.tables e below ((V.setCell a ce).setTop { g with stack := .ref a :: rest, pc := g.pc + 3 }) target → Steps p.tables e below (W.setTop g) target := by
  have howns : e.platform.frameOwnsMonitors = true := by rw [X.admits.platform]
  have hfin : e.platform.finalization = false := by rw [X.admits.platform]
  have hpl : e.platform.magicAccessors = ({} : Platform).magicAccessors := by rw [X.admits.platform]
  have a' : ∀ x, x ∈ Bundle.ownAtoms0 own ic cls names → x.holds args s none s [] = true := fun x hx => h x hx
  obtain ⟨T, Z, L, LZ, Y⟩ := ThrowableC.of_atoms (args := args) howns hfin hpl (fun x hx => h x (by simp [Bundle.ownAtoms0, hx]))
  obtain ⟨P1, Ps, hlen, L1, hL, hP1m, hlink1, hlink⟩ := Bundle.chain0 (args := args) hpl Y.init0 names cls hcls hnames (fun x hx => h x (by simp [Bundle.ownAtoms0, hx]))
  have hfound : s.vm.findClass cls = some P1.m.cls := findClass_of_methodNamed hP1m
  cases Option.some.inj (hfoundX.symm.trans hfound)
  obtain ⟨c1, kX', hc1, hk, hord, -, -, hn6⟩ := Cond.instantiable_spec (a' (.instantiable cls 6) (by simp [Bundle.ownAtoms0]))
  cases Option.some.inj (hc1.symm.trans hfound)
  cases Option.some.inj (hkX.symm.trans hk)
  have hsel0 : selectMethod e.platform s.vm P1.m.cls T.fill0 = .method T.fill0 := by
    obtain ⟨c2, r2, m2, q1, q2, q3, q4, -⟩ := Cond.selects_spec (a' (.selects cls Bundle.tFill0 Bundle.tFill0) (by simp [Bundle.ownAtoms0]))
    cases Option.some.inj (q1.symm.trans hfound)
    cases Option.some.inj (q2.symm.trans (State.methodFound?_of_named Y.fill0 (by decide)))
    cases Option.some.inj (q3.symm.trans Y.fill0)
    rw [Launch.admits_selectMethod X.admits]; exact q4
  have hselF : selectMethod e.platform s.vm P1.m.cls T.fill = .method T.fill := by
    obtain ⟨c2, r2, m2, q1, q2, q3, q4, -⟩ := Cond.selects_spec (a' (.selects cls Bundle.tFill Bundle.tFill) (by simp [Bundle.ownAtoms0]))
    cases Option.some.inj (q1.symm.trans hfound)
    cases Option.some.inj (q2.symm.trans (State.methodFound?_of_named Y.fill (by decide)))
    cases Option.some.inj (q3.symm.trans Y.fill)
    rw [Launch.admits_selectMethod X.admits]; exact q4
  obtain ⟨cellS0, hcS0, hiss⟩ := Y.statics
  obtain ⟨u0, hu0⟩ := Cond.staticRefV Y.unassigned L.unassignedStatic L.statics hcS0 hiss (a' (.isRef (.static Bundle.tN "UNASSIGNED_STACK" Bundle.steD)) (by simp [Bundle.ownAtoms0]))
  obtain ⟨sen, hsen⟩ := Cond.staticRefV Y.sentinel L.sentinelStatic L.statics hcS0 hiss (a' (.isRef (.static Bundle.tN "SUPPRESSED_SENTINEL" Bundle.listD)) (by simp [Bundle.ownAtoms0]))
  obtain ⟨ci198, i198, fB, hk198, hg198, ha198, hsB, -, hnB, htB, hffB⟩ := Cond.ownField (t := .object "java/lang/Object") Y.found L.cls (by decide +kernel) (a' (.fieldLink Bundle.tN 198 Bundle.tN "backtrace" "Ljava/lang/Object;") (by simp [Bundle.ownAtoms0])) (a' (.lays Bundle.tN Bundle.tN "backtrace" "Ljava/lang/Object;") (by simp [Bundle.ownAtoms0])) e.platform hpl
  obtain ⟨cellS, hcS', heS, -, hkeep⟩ := X.same.2.2.2.2.2 T.aS cellS0 hcS0
  have hcellS : W.heap[T.aS]? = some cellS := hcS'
  have hout' : ∀ i, (⟨T.aS, i⟩ : Loc) ∉ locs := fun i hmem => by
    have := hlocs _ hmem cellS0 hcS0
    rw [hiss] at this; cases this
  have hknownS : cellS.vm ≠ .unknown := by
    rw [heS]; intro hu
    rw [show cellS0.vm = .unknown from hu] at hiss
    cases hiss
  have hneS : T.aS ≠ a := Nat.ne_of_lt (Nat.lt_of_lt_of_le (Array.getElem?_eq_some_iff.mp hcS0).1 hnew)
  obtain ⟨iM, hffM⟩ := Y.msg
  obtain ⟨tyC, dC, hdC, hdnC⟩ := Cond.laysAt hfound hk Y.cause (a' (.lays cls Bundle.tN "cause" "Ljava/lang/Throwable;") (by simp [Bundle.ownAtoms0]))
  obtain ⟨tyS, dS, hdS, hdnS⟩ := Cond.laysAt hfound hk Y.stack (a' (.lays cls Bundle.tN "stackTrace" Bundle.steD) (by simp [Bundle.ownAtoms0]))
  obtain ⟨tyP, dP, hdP, hdnP⟩ := Cond.laysAt hfound hk Y.supp (a' (.lays cls Bundle.tN "suppressedExceptions" Bundle.listD) (by simp [Bundle.ownAtoms0]))
  obtain ⟨tyM, dM, hdM, hdnM⟩ := Cond.laysAt hfound hk hffM (a' (.lays cls Bundle.tN "detailMessage" "Ljava/lang/String;") (by simp [Bundle.ownAtoms0]))
  obtain ⟨tyB, dB, hdB, hdnB⟩ := Cond.laysAt hfound hk hffB (a' (.lays cls Bundle.tN "backtrace" "Ljava/lang/Object;") (by simp [Bundle.ownAtoms0]))
  have bC := Cond.laysApart hdB hdC hdnB hdnC (by rw [hnB, Y.causeName]; decide)
  have bS := Cond.laysApart hdB hdS hdnB hdnS (by rw [hnB, Y.stackName]; decide)
  have bP := Cond.laysApart hdB hdP hdnB hdnP (by rw [hnB, Y.suppName]; decide)
  have hskip : SkipFacts T e.platform s (fun u => u) u0 ((preparedCellV T.toThrowableT (freshCell P1.m.cls kX) a u0 sen).withEntry W.cur) :=
    ⟨{ ci198 := ci198, i198 := i198, fBack := fB }, ⟨hk198, hg198, ha198, hsB⟩, by
      have := fresh_default (c := P1.m.cls) tyB
      rw [htB] at this
      simpa [preparedCellV, Cell.setSlot, Cell.withEntry, Array.getElem?_setIfInBounds, bC, bS, bP, bC.symm, bS.symm, bP.symm, defaultValue] using this, fun _ _ => rfl⟩
  obtain ⟨tm, methC, cdC, kC, vm₁, hnC, -, -, -, -, -, -, -, hW₁, st1⟩ := Steps.initCold (tb := p.tables) (e := e) (below := below) (s := s) (U := W) X.here hexec X.warmed hpl hown (t := Bundle.init0 cls) rfl rfl (Bundle.fit_spec hcls).2
    (a' (.methodLink own ic (Bundle.init0 cls)) (by simp [Bundle.ownAtoms0])) (h (.instanceMethod (Bundle.init0 cls)) (by cases names <;> simp [Bundle.ownAtoms0, Bundle.chain0Atoms, Bundle.passAtoms])) (bytes := Bundle.five) (maxL := 1) (h (.code (Bundle.init0 cls) Bundle.five 1 none) (by cases names <;> simp [Bundle.ownAtoms0, Bundle.chain0Atoms, Bundle.passAtoms]))
    (f := g) hg (a := a) (rest := .ref a :: rest) hstack hd6
  cases Option.some.inj (hnC.symm.trans hP1m)
  have X₁ := X.noted hW₁
  obtain ⟨vm₂, X₂, st2⟩ := X₁.ctorPlainOffV hexec (g := { g with stack := .ref a :: rest }) hg hsize T L Z LZ (P1 :: Ps)
    (fun P hP => by rcases List.mem_cons.mp hP with rfl | hP; exact L1; exact hL P hP) ⟨hlink1, hlink⟩ (u0 := u0) (sen := sen) (self := a) (cell := freshCell P1.m.cls kX) (cellS := cellS)
    hcell (fun _ => by simp) (by simp) rfl rfl hsel0 hselF hcellS hneS hknownS (by rw [hkeep _ (hout' _)]; exact hu0) (by rw [hkeep _ (hout' _)]; exact hsen)
    (Takes.of_laid hk hord tyC (by rw [Y.causeType]; rfl)) (Takes.of_laid hk hord tyS (by rw [Y.stackType]; exact fits_refV_array _ u0)) (Takes.of_laid hk hord tyP (by rw [Y.suppType]; exact fits_refV_object _ sen)) Y.objLocals hskip htr [] hd6
    (by simp only [List.length_cons, hlen]; omega) (by simp only [List.length_cons, hlen]; exact hRlocals)
  have hlt : a < ((W.setVm vm₁).setVm vm₂).heap.size := (Array.getElem?_eq_some_iff.mp hcell).1
  refine ⟨(W.setVm vm₁).setVm vm₂, _, _, X₂, fun y hy => ?_, hlt, rfl, rfl, fun target hwalk => st1 _ (fun acts => ?_)⟩
  · simp only [List.mem_cons, List.not_mem_nil, or_false] at hy
    rcases hy with rfl | rfl | rfl | rfl <;> rfl
  · rw [doInvoke_state]
    exact st2 _ hwalk
end VXK
section VXK2
variable {p : Program} {l : Launch} {e : Env} {R : Room} {s : State} {m : MethodId} {args : Array Value} {below : List Frame} {meth : Method} {c : Code} {H : Heap} {locs : List Loc} {cells slots : Nat} {Q : State → Prop}
variable {ls : Array Slot} {rest : List Value} {D : va_G} {cl : List vw_C} {tys : List (ClassId × FieldType)} {ws : va_W}
/-- 'new E("text")' that isn't thrown at once: the object goes on the stack -/
theorem vx_makeS {cc : ByteArray} {pc : Nat} (hexec : p.tables.exec = Jvm.exec) (hb : c.code = cc) (hl : l.stackTraces = false) {own cls text : String} {names : List String} {ik is ic sa ci : Nat} {A : Nat → Prop} {T0 : u_T}
    (hown : s.vm.findClass own = some m.cls) (hcls : Bundle.fit cls = true) (hnames : ∀ n ∈ names, Bundle.fit n = true)
    (hk : (Cond.classLink own ik cls).before args s = true) (hini : (Cond.initialized cls).before args s = true) (hstr : vk_R own is text sa s) (hat : ∀ w ∈ vx_atS own ic cls names, w.before args s = true)
    (hgood : ∀ w ∈ Cond.classLink own ik cls :: Cond.initialized cls :: vx_atS own ic cls names, vx_ot w = true)
    (hU : vx_Zq Bundle.tN "UNASSIGNED_STACK" Bundle.steD A s s.heap) (hN : vx_Zq Bundle.tN "SUPPRESSED_SENTINEL" Bundle.listD A s s.heap) (hS : va_S A s.heap H locs) (hsize : ls.size = c.maxLocals)
    (d0 : decode cc pc = .ok (.new ik, 3)) (d3 : decode cc (pc + 3) = .ok (.dup, 1)) (d4 : decode cc (pc + 4) = .ok (.ldc is, 2)) (d6 : decode cc (pc + 6) = .ok (.invokespecial ic, 3))
    (hK : va_K D cl tys s) (hP : va_P D cl ws H) (hD : va_D A ws) (hA : ∀ q, s.heap.size ≤ q → A q) (hc : cl[ci]? = some (cls, T0, 0))
    (hRframes : names.length + 3 < R.frames) (hRlocals : (rest.map fun v => v.category).sum + (13 * (names.length + 1) + 43) ≤ R.locals) (hRcells : cells + 1 ≤ R.cells) (hRslots : slots + 6 ≤ R.slots)
    (kk : ∀ (q : Nat) (H1 : Heap), va_P D cl (ws ++ [(q, .inr (ci, []))]) H1 → va_D A (ws ++ [(q, .inr (ci, []))]) → va_S A s.heap H1 locs → W p l e R s m args below meth c H1 locs (cells + 1) (slots + 6) Q (F0 m (pc + 9) ls (.ref q :: rest))) :
    W p l e R s m args below meth c H locs cells slots Q (F0 m pc ls rest) := by
  intro T hT X
  subst hT
  have htr : e.platform.stackTraces = false := (show e.platform.stackTraces = l.stackTraces by rw [X.admits.platform]).trans hl
  have Y := vx_rebase X (R' := { frames := R.frames, locals := R.locals, cells := 1, slots := 6 }) (Nat.le_refl _) (Nat.le_refl _) hRcells hRslots
  obtain ⟨s', hA'⟩ : ∃ z, z = (T.setVm s.vm).setFrames (.invoking m args :: below) := ⟨_, rfl⟩
  rw [← hA'] at Y
  have hvm : s'.vm = s.vm := by rw [hA']; rfl
  have hhp : s'.heap = T.heap := by rw [hA']; rfl
  have hW0 : s.WarmedH s'.vm := by rw [hvm]; exact State.WarmedH.refl s
  have hat' : ∀ w ∈ vx_atS own ic cls names, w.before args s' = true := fun w hw => vx_ot_at hW0 hvm.symm (hgood w (List.mem_cons_of_mem _ (List.mem_cons_of_mem _ hw))) (hat w hw)
  have hk' : (Cond.classLink own ik cls).before args s' = true := vx_ot_at hW0 hvm.symm (hgood _ List.mem_cons_self) hk
  have hini' : (Cond.initialized cls).before args s' = true := vx_ot_at hW0 hvm.symm (hgood _ (List.mem_cons_of_mem _ List.mem_cons_self)) hini
  have hU' : vx_Zq Bundle.tN "UNASSIGNED_STACK" Bundle.steD A s' s'.heap := by rw [hhp]; exact vx_Zq.moved hW0.alike (hU.kept hS.2.1)
  have hN' : vx_Zq Bundle.tN "SUPPRESSED_SENTINEL" Bundle.listD A s' s'.heap := by rw [hhp]; exact vx_Zq.moved hW0.alike (hN.kept hS.2.1)
  have h : ∀ w ∈ Bundle.ownAtoms own ic cls names, w.before args s' = true := vx_own hat' (vx_isRefq hU'.1) (vx_isRefq hN'.1) hU'.2.word hN'.2.word
  have hown' : s'.vm.findClass own = some m.cls := by rw [hvm]; exact hown
  have hins : (Cond.instantiable cls 6).before args s' = true := h _ (by simp [Bundle.ownAtoms])
  obtain ⟨vm₁, cX, kX, hfX, hkX, -, -, X₁, st1⟩ := Y.newCold hexec (own := own) (C := cls) (index := ik) (n := 6) hown' hk' hins hini'
    (g := F0 m pc ls rest) rfl (by rw [hb]; exact d0) (Nat.le_refl _) (Nat.le_refl _)
  generalize hT1 : (T.setVm vm₁).pushCell { cls := cX, slots := kX.instanceTypes.map defaultValue, vm := .none } = T1 at X₁ st1
  have hcat : (Value.ref T.heap.size).category = 1 := rfl
  have hcellA : T1.heap[T.heap.size]? = some (freshCell cX kX) := by rw [← hT1]; exact State.heap_pushCell_size _ _
  have d3' : decode c.code (pc + 3) = .ok (.dup, 1) := by rw [hb]; exact d3
  have d4' : decode c.code (pc + 4) = .ok (.ldc is, 2) := by rw [hb]; exact d4
  have hstr' : vk_R own is text sa s' := vk_R.warm hW0 hstr
  obtain ⟨V, ce, L, Z, hL, hlt, hcl9, hvm9, st⟩ := vx_ctorMadeS X₁ hexec htr (own := own) (cls := cls) (names := names) (ic := ic) hown' hcls hnames h (fun x hx => nomatch hx) hfX hkX hcellA (by rw [hhp]; exact Nat.le_refl _) (msg := .ref sa) rfl
    (g := { method := m, pc := pc + 6, locals := ls, stack := .ref sa :: .ref T.heap.size :: .ref T.heap.size :: rest, locked := none }) rfl hsize (rest := rest) rfl
    (by rw [hb]; exact d6) hRframes (by simp only [List.map_cons, List.sum_cons, hcat]; omega)
  have Z0 := Stand.forget (locs := []) Z (fun y hy => by rw [hL y hy, hhp]; exact Nat.le_refl _)
  obtain ⟨f1, f2⟩ := vx_frame Z0.same
  rw [hhp] at f1 f2
  have hcid : ce.cls = D.1 ci := by
    rw [hcl9]
    have h1 := (hK.1 ci _ hc).2.1
    rw [hvm] at hfX
    exact Option.some.inj (hfX.symm.trans h1)
  have hh : (V.setCell T.heap.size ce).heap[T.heap.size]? = some ce := heapAt_setCell_self (s := V) ce hlt
  subst hA'
  have X5 := vx_back9 X Y Z0
  have X6 : Stand p l e R s m args below meth c (V.setCell T.heap.size ce) locs (cells + 1) (slots + 6) := { X5 with same := X5.same.mono (by omega) (by omega) }
  have hk9 : ∀ (k : Nat) (x : Nat × va_E), ws[k]? = some x → (V.setCell T.heap.size ce).heap[x.1]? = T.heap[x.1]? := fun k x hx => f2 x.1 ((hP k x hx).lt) (fun z hz => nomatch hz)
  obtain ⟨t, a1, b1⟩ := kk T.heap.size (V.setCell T.heap.size ce).heap ((hP.kept hk9).app (fun k x hx => by
      have hz : k < 1 := (List.getElem?_eq_some_iff.mp hx).1
      rw [show k = 0 by omega] at hx
      cases hx
      exact ⟨_, hc, ce, hh, hcid, hvm9, fun k hk => absurd hk (Nat.not_lt_zero k)⟩)) (hD.push hP rfl (hA _ hS.1)) ⟨Nat.le_trans hS.1 f1, fun q h1 h2 => (f2 q (Nat.lt_of_lt_of_le h1 hS.1) (fun z hz => nomatch hz)).trans (hS.2.1 q h1 h2), hS.2.2⟩ _ rfl X6
  refine ⟨t, st1 _ ?_, b1⟩
  show Steps p.tables e below (T1.setTop { method := m, pc := pc + 3, locals := ls, stack := .ref T.heap.size :: rest, locked := none }) _
  jvm_step X₁.here [X₁.here.top, hexec, d3', Value.category]
  exact X₁.ldcString hexec (own := own) (text := text) (index := is) (a := sa) hown' hstr'.1 hstr'.2
    (g := { method := m, pc := pc + 4, locals := ls, stack := .ref T.heap.size :: .ref T.heap.size :: rest, locked := none }) rfl d4' _ (st _ a1)
/-- 'new E()' that isn't thrown at once: the object goes on the stack -/
theorem vx_make0 {cc : ByteArray} {pc : Nat} (hexec : p.tables.exec = Jvm.exec) (hb : c.code = cc) (hl : l.stackTraces = false) {own cls : String} {names : List String} {ik ic ci : Nat} {A : Nat → Prop} {T0 : u_T}
    (hown : s.vm.findClass own = some m.cls) (hcls : Bundle.fit cls = true) (hnames : ∀ n ∈ names, Bundle.fit n = true)
    (hk : (Cond.classLink own ik cls).before args s = true) (hini : (Cond.initialized cls).before args s = true) (hat : ∀ w ∈ vx_at0 own ic cls names, w.before args s = true)
    (hgood : ∀ w ∈ Cond.classLink own ik cls :: Cond.initialized cls :: vx_at0 own ic cls names, vx_ot w = true)
    (hU : vx_Zq Bundle.tN "UNASSIGNED_STACK" Bundle.steD A s s.heap) (hN : vx_Zq Bundle.tN "SUPPRESSED_SENTINEL" Bundle.listD A s s.heap) (hS : va_S A s.heap H locs) (hsize : ls.size = c.maxLocals)
    (d0 : decode cc pc = .ok (.new ik, 3)) (d3 : decode cc (pc + 3) = .ok (.dup, 1)) (d4 : decode cc (pc + 4) = .ok (.invokespecial ic, 3))
    (hK : va_K D cl tys s) (hP : va_P D cl ws H) (hD : va_D A ws) (hA : ∀ q, s.heap.size ≤ q → A q) (hc : cl[ci]? = some (cls, T0, 0))
    (hRframes : names.length + 3 < R.frames) (hRlocals : (rest.map fun v => v.category).sum + (13 * (names.length + 1) + 42) ≤ R.locals) (hRcells : cells + 1 ≤ R.cells) (hRslots : slots + 6 ≤ R.slots)
    (kk : ∀ (q : Nat) (H1 : Heap), va_P D cl (ws ++ [(q, .inr (ci, []))]) H1 → va_D A (ws ++ [(q, .inr (ci, []))]) → va_S A s.heap H1 locs → W p l e R s m args below meth c H1 locs (cells + 1) (slots + 6) Q (F0 m (pc + 7) ls (.ref q :: rest))) :
    W p l e R s m args below meth c H locs cells slots Q (F0 m pc ls rest) := by
  intro T hT X
  subst hT
  have htr : e.platform.stackTraces = false := (show e.platform.stackTraces = l.stackTraces by rw [X.admits.platform]).trans hl
  have Y := vx_rebase X (R' := { frames := R.frames, locals := R.locals, cells := 1, slots := 6 }) (Nat.le_refl _) (Nat.le_refl _) hRcells hRslots
  obtain ⟨s', hA'⟩ : ∃ z, z = (T.setVm s.vm).setFrames (.invoking m args :: below) := ⟨_, rfl⟩
  rw [← hA'] at Y
  have hvm : s'.vm = s.vm := by rw [hA']; rfl
  have hhp : s'.heap = T.heap := by rw [hA']; rfl
  have hW0 : s.WarmedH s'.vm := by rw [hvm]; exact State.WarmedH.refl s
  have hat' : ∀ w ∈ vx_at0 own ic cls names, w.before args s' = true := fun w hw => vx_ot_at hW0 hvm.symm (hgood w (List.mem_cons_of_mem _ (List.mem_cons_of_mem _ hw))) (hat w hw)
  have hk' : (Cond.classLink own ik cls).before args s' = true := vx_ot_at hW0 hvm.symm (hgood _ List.mem_cons_self) hk
  have hini' : (Cond.initialized cls).before args s' = true := vx_ot_at hW0 hvm.symm (hgood _ (List.mem_cons_of_mem _ List.mem_cons_self)) hini
  have hU' : vx_Zq Bundle.tN "UNASSIGNED_STACK" Bundle.steD A s' s'.heap := by rw [hhp]; exact vx_Zq.moved hW0.alike (hU.kept hS.2.1)
  have hN' : vx_Zq Bundle.tN "SUPPRESSED_SENTINEL" Bundle.listD A s' s'.heap := by rw [hhp]; exact vx_Zq.moved hW0.alike (hN.kept hS.2.1)
  have h : ∀ w ∈ Bundle.ownAtoms0 own ic cls names, w.before args s' = true := vx_own hat' (vx_isRefq hU'.1) (vx_isRefq hN'.1) hU'.2.word hN'.2.word
  have hown' : s'.vm.findClass own = some m.cls := by rw [hvm]; exact hown
  have hins : (Cond.instantiable cls 6).before args s' = true := h _ (by simp [Bundle.ownAtoms0])
  obtain ⟨vm₁, cX, kX, hfX, hkX, -, -, X₁, st1⟩ := Y.newCold hexec (own := own) (C := cls) (index := ik) (n := 6) hown' hk' hins hini'
    (g := F0 m pc ls rest) rfl (by rw [hb]; exact d0) (Nat.le_refl _) (Nat.le_refl _)
  generalize hT1 : (T.setVm vm₁).pushCell { cls := cX, slots := kX.instanceTypes.map defaultValue, vm := .none } = T1 at X₁ st1
  have hcat : (Value.ref T.heap.size).category = 1 := rfl
  have hcellA : T1.heap[T.heap.size]? = some (freshCell cX kX) := by rw [← hT1]; exact State.heap_pushCell_size _ _
  have d3' : decode c.code (pc + 3) = .ok (.dup, 1) := by rw [hb]; exact d3
  obtain ⟨V, ce, L, Z, hL, hlt, hcl9, hvm9, st⟩ := vx_ctorMade0 X₁ hexec htr (own := own) (cls := cls) (names := names) (ic := ic) hown' hcls hnames h (fun x hx => nomatch hx) hfX hkX hcellA (by rw [hhp]; exact Nat.le_refl _)
    (g := { method := m, pc := pc + 4, locals := ls, stack := .ref T.heap.size :: .ref T.heap.size :: rest, locked := none }) rfl hsize (rest := rest) rfl
    (by rw [hb]; exact d4) hRframes (by simp only [List.map_cons, List.sum_cons, hcat]; omega)
  have Z0 := Stand.forget (locs := []) Z (fun y hy => by rw [hL y hy, hhp]; exact Nat.le_refl _)
  obtain ⟨f1, f2⟩ := vx_frame Z0.same
  rw [hhp] at f1 f2
  have hcid : ce.cls = D.1 ci := by
    rw [hcl9]
    have h1 := (hK.1 ci _ hc).2.1
    rw [hvm] at hfX
    exact Option.some.inj (hfX.symm.trans h1)
  have hh : (V.setCell T.heap.size ce).heap[T.heap.size]? = some ce := heapAt_setCell_self (s := V) ce hlt
  subst hA'
  have X5 := vx_back9 X Y Z0
  have X6 : Stand p l e R s m args below meth c (V.setCell T.heap.size ce) locs (cells + 1) (slots + 6) := { X5 with same := X5.same.mono (by omega) (by omega) }
  have hk9 : ∀ (k : Nat) (x : Nat × va_E), ws[k]? = some x → (V.setCell T.heap.size ce).heap[x.1]? = T.heap[x.1]? := fun k x hx => f2 x.1 ((hP k x hx).lt) (fun z hz => nomatch hz)
  obtain ⟨t, a1, b1⟩ := kk T.heap.size (V.setCell T.heap.size ce).heap ((hP.kept hk9).app (fun k x hx => by
      have hz : k < 1 := (List.getElem?_eq_some_iff.mp hx).1
      rw [show k = 0 by omega] at hx
      cases hx
      exact ⟨_, hc, ce, hh, hcid, hvm9, fun k hk => absurd hk (Nat.not_lt_zero k)⟩)) (hD.push hP rfl (hA _ hS.1)) ⟨Nat.le_trans hS.1 f1, fun q h1 h2 => (f2 q (Nat.lt_of_lt_of_le h1 hS.1) (fun z hz => nomatch hz)).trans (hS.2.1 q h1 h2), hS.2.2⟩ _ rfl X6
  refine ⟨t, st1 _ ?_, b1⟩
  show Steps p.tables e below (T1.setTop { method := m, pc := pc + 3, locals := ls, stack := .ref T.heap.size :: rest, locked := none }) _
  jvm_step X₁.here [X₁.here.top, hexec, d3', Value.category]
  exact st _ a1
/-- 'throw x' of an object that was made before -/
theorem vx_athrow {cc : ByteArray} {pc : Nat} (hexec : p.tables.exec = Jvm.exec) (hb : c.code = cc) {q : Addr} (hdg : decode cc pc = .ok (.athrow, 1)) (k : vx_W p l e R s m args below meth c H locs cells slots Q (F0 m pc ls rest) q) : W p l e R s m args below meth c H locs cells slots Q (F0 m pc ls (.ref q :: rest)) := by
  intro T hT X
  obtain ⟨t, st, hq⟩ := k T hT X
  refine ⟨t, ?_, hq⟩
  have hdg' : decode c.code pc = .ok (.athrow, 1) := by rw [hb]; exact hdg
  jvm_step X.here [X.here.top, hexec, hdg', athrow.wp_sem]
  exact st
end VXK2
/-! ===== END ===== -/
/-! ===== BEGIN a constructor that throws (launches without stack traces) ===== -/
section VXIA
variable {p : Program} {l : Launch} {e : Env} {R : Room} {s : State} {m : MethodId} {args : Array Value} {below : List Frame} {meth : Method} {c : Code} {T : State} {locs : List Loc} {cells slots : Nat}
theorem vx_callI (X : Stand p l e R s m args below meth c T locs cells slots) (hexec : p.tables.exec = Jvm.exec) {own : String} {index : Nat} {y : MethodName} {bytes : ByteArray} {maxL : Nat}
    (hown : s.vm.findClass own = some m.cls) (hy1 : y.name = "<init>") (hlink : (Cond.methodLink own index y).before args s = true) (hinst : (Cond.instanceMethod y).before args s = true)
    (hcode : (Cond.code y bytes maxL none).before args s = true) (hy : y.cls ≠ "java/lang/invoke/MethodHandle" ∧ y.cls ≠ "java/lang/invoke/VarHandle")
    {W9 : Nat} {Pre : Pt → Array Value → Prop} {Post : Pt → Array Value → Option Value → Pt → Prop} {PostX : Pt → Array Value → Addr → Pt → Prop} (hK : vx_Back l R p e below s args y 3 W9 Pre Post PostX)
    {g : JFrame} (hg : g.method = m) (hsize : g.locals.size = c.maxLocals) {a : Addr} {argsL rest : List Value} (hlen : ∀ sig, parseMethodDescriptor y.desc = some sig → argsL.length = sig.parameters.length)
    (hstack : g.stack = argsL.reverse ++ .ref a :: rest) (hW : 2 * g.monitorRoom + (rest.map fun v => v.category).sum ≤ W9) (hdg : decode c.code g.pc = .ok (.invokespecial index, 3))
    (hpre : ∀ vm₁, s.WarmedH vm₁ → Pre ⟨T.setVm vm₁, locs, cells, slots⟩ (Value.ref a :: argsL).toArray) :
    (∃ (v : Option Value) (vm₁ : Vm) (B : Pt), s.WarmedH vm₁ ∧ Stand p l e R s m args below meth c B.U B.locs B.cells B.slots ∧ Post ⟨T.setVm vm₁, locs, cells, slots⟩ (Value.ref a :: argsL).toArray v B ∧
      ∀ target, Steps p.tables e below (B.U.setTop { g with pc := g.pc + 3, stack := v.toList ++ rest }) target → Steps p.tables e below (T.setTop g) target) ∨
    (∃ (q : Addr) (vm₁ : Vm) (B : Pt), s.WarmedH vm₁ ∧ Stand p l e R s m args below meth c B.U B.locs B.cells B.slots ∧ PostX ⟨T.setVm vm₁, locs, cells, slots⟩ (Value.ref a :: argsL).toArray q B ∧
      Steps p.tables e below (T.setTop g) ((B.U.setTop { g with stack := rest }).pushFrame (.throwing q))) := by
  subst hg
  have hpl : e.platform.magicAccessors = ({} : Platform).magicAccessors := by rw [X.admits.platform]
  obtain ⟨mk, methM, cM, kP, vm₁, hnamed, hmethM, hcodeM, -, hlocalsM, -, hkP, -, hW₁, hstep₁⟩ := Steps.initColdArgs (e := e) X.here hexec X.warmed hpl hown hy1 hy hlink hinst hcode (f := g) rfl hlen hstack hdg
  have X₁ := X.noted hW₁
  rcases hK g.method meth c ⟨T.setVm vm₁, locs, cells, slots⟩ { g with stack := rest } (.invokespecial index) mk (Value.ref a :: argsL).toArray X₁ rfl hsize hdg hW (X₁.named hnamed) (hpre vm₁ X₁.warmed) with ⟨v, B, X', hpost, hsteps⟩ | ⟨q, B, X', hpost, hsteps⟩
  · exact Or.inl ⟨v, vm₁, B, X₁.warmed, X', hpost, fun target h => hstep₁ _ fun acts => by rw [doInvoke_state]; exact hsteps.trans h⟩
  · exact Or.inr ⟨q, vm₁, B, X₁.warmed, X', hpost, hstep₁ _ fun acts => by rw [doInvoke_state]; exact hsteps⟩
end VXIA
section VXIB
variable {p : Program} {l : Launch} {e : Env} {R : Room} {s : State} {m : MethodId} {args : Array Value} {below : List Frame} {meth : Method} {c : Code} {H : Heap} {locs : List Loc} {cells slots : Nat}
variable {y : MethodName} {bytes cc : ByteArray} {maxL nL mc ms n index : Nat} {ret : Option FieldType} {ws : List Cond} {rm : Room} {Pc : Array Value → State → Prop} {Qc : Array Value → State → Outcome → State → Prop} {XC : String → State → State → Prop} {free : Addr → Prop} {Ts : List Cond} {own C : String} {b : Addr} {As rest : List Value} {g : JFrame}
theorem vx_runI (S : CallFix p m c cc nL s args Ts own) (hM : vx_Met l y ws rm Pc Qc XC mc ms free) (cw : CallB R s args own index y bytes maxL none ws rm mc ms n ∧ y.name = "<init>" ∧ (Cond.instanceMethod y).before args s = true) (hp : PreS s H Pc (.ref b :: As))
    (hg : g.method = m) (hn : As.length = n) (hsize : g.locals.size = nL) (hstack : g.stack = As.reverse ++ .ref b :: rest) (hW : 2 * g.monitorRoom + (rest.map fun v => v.category).sum ≤ 8) (hdg : decode cc g.pc = .ok (.invokespecial index, 3)) (hf : cells + mc ≤ R.cells ∧ slots + ms ≤ R.slots) :
    vx_Run p l e R s m args below meth c H locs cells slots mc ms g rest (Qc (Value.ref b :: As).toArray) XC free := by
  have hK : vx_Back l R p e below s args y 3 8 (PreOf R mc ms Pc) (PostOf Qc mc ms free) (vx_Post XC mc ms free) := vx_callBack cw.1 hM hp.1
  obtain ⟨⟨-, -, -, -, -, -, hcode, -, hy, hlen, hl⟩, hy1, hin⟩ := cw
  obtain ⟨hx, hb, hml, ho, -⟩ := S
  have hPc := hp.2
  intro T hT X
  rcases vx_callI X hx (bytes := bytes) (maxL := maxL) ho hy1 hl hin hcode hy hK hg (hsize.trans hml.symm) (a := b) (argsL := As) (rest := rest) (fun sig h => hn.trans (hlen sig h)) hstack hW (by rw [hb]; exact hdg)
    (fun vm₁ hW₁ => ⟨hf.1, hf.2, hPc (T.setVm vm₁) hT hW₁⟩) with ⟨v, vm₁, ⟨U', l2, c2, s2⟩, hW₁, X', ⟨g', mk, t, L, e1, e2, hq, h1, hL, h2, h3⟩, st⟩ | ⟨q, vm₁, ⟨U', l2, c2, s2⟩, hW₁, X', ⟨g', mk, t, L, E, ce, e1, e2, hq, hce, hcv, hcl, h1, hL, h2, h3⟩, st⟩
  · dsimp only [Pt.U, Pt.locs, Pt.cells, Pt.slots] at X' e1 e2 h1 h2 h3 st
    subst h1; subst h2; subst h3
    exact Or.inl ⟨v, (T.setVm vm₁).calling g' mk (Value.ref b :: As).toArray, t, U', L, hT, X', hL, e1, e2, hq, st⟩
  · dsimp only [Pt.U, Pt.locs, Pt.cells, Pt.slots] at X' e1 e2 h1 h2 h3 st hcl
    subst h1; subst h2; subst h3
    exact Or.inr ⟨q, (T.setVm vm₁).calling g' mk (Value.ref b :: As).toArray, t, U', L, E, ce, hT, X', hL, e1, e2, hq, hce, hcv, vx_cls hW₁ hcl, st⟩
end VXIB
/-! ===== END ===== -/
/-! ===== BEGIN a private constructor of a nest mate that throws ===== -/
section VXIC
variable {p : Program} {l : Launch} {e : Env} {R : Room} {s : State} {m : MethodId} {args : Array Value} {below : List Frame} {meth : Method} {c : Code} {T : State} {locs : List Loc} {cells slots : Nat}
theorem vx_callIN (X : Stand p l e R s m args below meth c T locs cells slots) (hexec : p.tables.exec = Jvm.exec) {own : String} {index : Nat} {host : String} {y : MethodName} {bytes : ByteArray} {maxL : Nat}
    (hown : s.vm.findClass own = some m.cls) (hy1 : y.name = "<init>") (hlink : (Cond.methodLinkNest own index y host).before args s = true) (hinst : (Cond.instanceMethod y).before args s = true)
    (hcode : (Cond.code y bytes maxL none).before args s = true) (hy : y.cls ≠ "java/lang/invoke/MethodHandle" ∧ y.cls ≠ "java/lang/invoke/VarHandle")
    {W9 : Nat} {Pre : Pt → Array Value → Prop} {Post : Pt → Array Value → Option Value → Pt → Prop} {PostX : Pt → Array Value → Addr → Pt → Prop} (hK : vx_Back l R p e below s args y 3 W9 Pre Post PostX)
    {g : JFrame} (hg : g.method = m) (hsize : g.locals.size = c.maxLocals) {a : Addr} {argsL rest : List Value} (hlen : ∀ sig, parseMethodDescriptor y.desc = some sig → argsL.length = sig.parameters.length)
    (hstack : g.stack = argsL.reverse ++ .ref a :: rest) (hW : 2 * g.monitorRoom + (rest.map fun v => v.category).sum ≤ W9) (hdg : decode c.code g.pc = .ok (.invokespecial index, 3))
    (hpre : ∀ vm₁, s.WarmedH vm₁ → Pre ⟨T.setVm vm₁, locs, cells, slots⟩ (Value.ref a :: argsL).toArray) :
    (∃ (v : Option Value) (vm₁ : Vm) (B : Pt), s.WarmedH vm₁ ∧ Stand p l e R s m args below meth c B.U B.locs B.cells B.slots ∧ Post ⟨T.setVm vm₁, locs, cells, slots⟩ (Value.ref a :: argsL).toArray v B ∧
      ∀ target, Steps p.tables e below (B.U.setTop { g with pc := g.pc + 3, stack := v.toList ++ rest }) target → Steps p.tables e below (T.setTop g) target) ∨
    (∃ (q : Addr) (vm₁ : Vm) (B : Pt), s.WarmedH vm₁ ∧ Stand p l e R s m args below meth c B.U B.locs B.cells B.slots ∧ PostX ⟨T.setVm vm₁, locs, cells, slots⟩ (Value.ref a :: argsL).toArray q B ∧
      Steps p.tables e below (T.setTop g) ((B.U.setTop { g with stack := rest }).pushFrame (.throwing q))) := by
  subst hg
  have hpl : e.platform.magicAccessors = ({} : Platform).magicAccessors := by rw [X.admits.platform]
  obtain ⟨mk, methM, cM, kP, vm₁, hnamed, hmethM, hcodeM, -, hlocalsM, -, hkP, -, hW₁, hstep₁⟩ := Steps.initColdArgsNest (e := e) X.here hexec X.warmed hpl hown hy1 hy hlink hinst hcode (f := g) rfl hlen hstack hdg
  have X₁ := X.noted hW₁
  rcases hK g.method meth c ⟨T.setVm vm₁, locs, cells, slots⟩ { g with stack := rest } (.invokespecial index) mk (Value.ref a :: argsL).toArray X₁ rfl hsize hdg hW (X₁.named hnamed) (hpre vm₁ X₁.warmed) with ⟨v, B, X', hpost, hsteps⟩ | ⟨q, B, X', hpost, hsteps⟩
  · exact Or.inl ⟨v, vm₁, B, X₁.warmed, X', hpost, fun target h => hstep₁ _ fun acts => by rw [doInvoke_state]; exact hsteps.trans h⟩
  · exact Or.inr ⟨q, vm₁, B, X₁.warmed, X', hpost, hstep₁ _ fun acts => by rw [doInvoke_state]; exact hsteps⟩
end VXIC
section VXID
variable {p : Program} {l : Launch} {e : Env} {R : Room} {s : State} {m : MethodId} {args : Array Value} {below : List Frame} {meth : Method} {c : Code} {H : Heap} {locs : List Loc} {cells slots : Nat}
theorem vx_runIN {y : MethodName} {bytes cc : ByteArray} {maxL nL mc ms n index : Nat} {ws : List Cond} {rm : Room} {Pc : Array Value → State → Prop} {Qc : Array Value → State → Outcome → State → Prop} {XC : String → State → State → Prop} {free : Addr → Prop} {Ts : List Cond} {own host : String} {b : Addr} {As rest : List Value} {g : JFrame}
    (S : CallFix p m c cc nL s args Ts own) (hM : vx_Met l y ws rm Pc Qc XC mc ms free) (cw : va_CN R s args own index y host bytes maxL none ws rm mc ms n ∧ y.name = "<init>" ∧ (Cond.instanceMethod y).before args s = true) (hp : PreS s H Pc (.ref b :: As))
    (hg : g.method = m) (hn : As.length = n) (hsize : g.locals.size = nL) (hstack : g.stack = As.reverse ++ .ref b :: rest) (hW : 2 * g.monitorRoom + (rest.map fun v => v.category).sum ≤ 8) (hdg : decode cc g.pc = .ok (.invokespecial index, 3)) (hf : cells + mc ≤ R.cells ∧ slots + ms ≤ R.slots) :
    vx_Run p l e R s m args below meth c H locs cells slots mc ms g rest (Qc (Value.ref b :: As).toArray) XC free := by
  obtain ⟨⟨⟨hrc, hrs, hfr, hlo, hws, hcw⟩, hcode, hini, hy, hlen, hl⟩, hx1, hx2⟩ := cw
  have hK : vx_Back l R p e below s args y 3 8 (PreOf R mc ms Pc) (PostOf Qc mc ms free) (vx_Post XC mc ms free) := vx_back (bytes := bytes) (maxL := maxL) (ret := none) hM hp.1 hrc hrs hfr hlo hws hcw (fun a' U hW => word_at hW (Or.inl (by first | rfl | simp [Cond.onTables, Cond.keeps, Cond.steady])) hini)
  obtain ⟨hx, hb, hml, ho, -⟩ := S
  have hPc := hp.2
  intro T hT X
  rcases vx_callIN X hx (bytes := bytes) (maxL := maxL) ho hx1 hl hx2 hcode hy hK hg (hsize.trans hml.symm) (a := b) (argsL := As) (rest := rest) (fun sig h => hn.trans (hlen sig h)) hstack hW (by rw [hb]; exact hdg)
    (fun vm₁ hW₁ => ⟨hf.1, hf.2, hPc (T.setVm vm₁) hT hW₁⟩) with ⟨v, vm₁, ⟨U', l2, c2, s2⟩, hW₁, X', ⟨g', mk, t, L, e1, e2, hq, h1, hL, h2, h3⟩, st⟩ | ⟨q, vm₁, ⟨U', l2, c2, s2⟩, hW₁, X', ⟨g', mk, t, L, E, ce, e1, e2, hq, hce, hcv, hcl, h1, hL, h2, h3⟩, st⟩
  · dsimp only [Pt.U, Pt.locs, Pt.cells, Pt.slots] at X' e1 e2 h1 h2 h3 st
    subst h1; subst h2; subst h3
    exact Or.inl ⟨v, (T.setVm vm₁).calling g' mk (Value.ref b :: As).toArray, t, U', L, hT, X', hL, e1, e2, hq, st⟩
  · dsimp only [Pt.U, Pt.locs, Pt.cells, Pt.slots] at X' e1 e2 h1 h2 h3 st hcl
    subst h1; subst h2; subst h3
    exact Or.inr ⟨q, (T.setVm vm₁).calling g' mk (Value.ref b :: As).toArray, t, U', L, E, ce, hT, X', hL, e1, e2, hq, hce, hcv, vx_cls hW₁ hcl, st⟩
end VXID
/-! ===== END ===== -/
/-! ===== BEGIN a method of a class above, found by the receiver, that may throw (follows va_callVU, va_runU of this kit) ===== -/
section
variable {p : Program} {l : Launch} {e : Env} {R : Room} {s : State} {m : MethodId} {args : Array Value} {below : List Frame} {meth : Method} {c : Code} {H : Heap} {locs : List Loc} {cells slots : Nat}
theorem vx_callVU {T : State} {locs : List Loc} {cells slots : Nat} (X : Stand p l e R s m args below meth c T locs cells slots) (hexec : p.tables.exec = Jvm.exec) {own C owner : String} {index : Nat} {x y : MethodName} {bytes : ByteArray} {maxL : Nat} {ret : Option FieldType}
    (hown : s.vm.findClass own = some m.cls) (hlink : (Cond.methodLink own index x).before args s = true) (hsame : (Cond.sameMethod x.cls owner x.name x.desc).before args s = true)
    (hd0 : va_Decl s ⟨owner, x.name, x.desc⟩) (howner : owner ≠ "java/lang/invoke/MethodHandle" ∧ owner ≠ "java/lang/invoke/VarHandle")
    (hsel : (Cond.selects C x y).before args s = true) (hinst : (Cond.instanceMethod y).before args s = true) (hcode : (Cond.code y bytes maxL ret).before args s = true)
    {W : Nat} {Pre : Pt → Array Value → Prop} {Post : Pt → Array Value → Option Value → Pt → Prop} {PostX : Pt → Array Value → Addr → Pt → Prop} (hK : vx_Back l R p e below s args y 3 W Pre Post PostX)
    {b : Addr} {cellB : Cell} (hcell : T.heap[b]? = some cellB) (hobj : cellB.vm.isStatics = false) (hcls : s.vm.findClass C = some cellB.cls)
    {g : JFrame} (hg : g.method = m) (hsize : g.locals.size = c.maxLocals) {argsL rest : List Value} (hlen : ∀ sig, parseMethodDescriptor x.desc = some sig → argsL.length = sig.parameters.length)
    (hstack : g.stack = argsL.reverse ++ .ref b :: rest) (hW : 2 * g.monitorRoom + (rest.map fun v => v.category).sum ≤ W) (hdg : decode c.code g.pc = .ok (.invokevirtual index, 3))
    (hpre : ∀ vm₁, s.WarmedH vm₁ → Pre ⟨T.setVm vm₁, locs, cells, slots⟩ (Value.ref b :: argsL).toArray) :
    (∃ (v : Option Value) (vm₁ : Vm) (B : Pt), s.WarmedH vm₁ ∧ Stand p l e R s m args below meth c B.U B.locs B.cells B.slots ∧ Post ⟨T.setVm vm₁, locs, cells, slots⟩ (Value.ref b :: argsL).toArray v B ∧
      ∀ target, Steps p.tables e below (B.U.setTop { g with pc := g.pc + 3, stack := v.toList ++ rest }) target → Steps p.tables e below (T.setTop g) target) ∨
    (∃ (q : Addr) (vm₁ : Vm) (B : Pt), s.WarmedH vm₁ ∧ Stand p l e R s m args below meth c B.U B.locs B.cells B.slots ∧ PostX ⟨T.setVm vm₁, locs, cells, slots⟩ (Value.ref b :: argsL).toArray q B ∧
      Steps p.tables e below (T.setTop g) ((B.U.setTop { g with stack := rest }).pushFrame (.throwing q))) := by
  obtain ⟨r0, r, hn, hrm, hstR, hsigR⟩ := hd0
  obtain ⟨cn, ck, r1, hcn, hck, hni, hf, hn1⟩ := Cond.sameMethod_found hsame
  cases hn.symm.trans hn1
  obtain ⟨mk, methM, hnamed, hmethM, -, habM⟩ := Cond.instanceMethod_spec hinst
  obtain ⟨c2, r2, m2, q1, q2, q3, q4, kP, hkP, hkPi⟩ := Cond.selects_spec hsel
  cases hcls.symm.trans q1
  cases hf.symm.trans q2
  cases hnamed.symm.trans q3
  have hselP : selectMethod e.platform s.vm cellB.cls r0 = .method mk := by rw [Launch.admits_selectMethod X.admits]; exact q4
  obtain ⟨vm₁, X₁, hstep₁⟩ := X.invokevirtualUp hexec hown hlink hsame howner hn hrm hstR (a := b) (cell := cellB) hcell
    (fun z h => by rw [h] at hobj; cases hobj) hselP hmethM habM hkP hkPi (g := g) hg (argsL := argsL) (rest := rest) (hlen _ hsigR) hstack hdg
  rcases hK m meth c ⟨T.setVm vm₁, locs, cells, slots⟩ { g with stack := rest } (.invokevirtual index) mk (Value.ref b :: argsL).toArray X₁ hg hsize hdg hW (X₁.named hnamed) (hpre vm₁ X₁.warmed) with ⟨v, B, X', hpost, hsteps⟩ | ⟨q, B, X', hpost, hsteps⟩
  · exact Or.inl ⟨v, vm₁, B, X₁.warmed, X', hpost, fun target h => hstep₁ _ fun acts => by rw [doInvoke_state]; exact hsteps.trans h⟩
  · exact Or.inr ⟨q, vm₁, B, X₁.warmed, X', hpost, hstep₁ _ fun acts => by rw [doInvoke_state]; exact hsteps⟩
theorem vx_runU {x y : MethodName} {bytes cc : ByteArray} {maxL nL mc ms n index : Nat} {ret : Option FieldType} {ws : List Cond} {rm : Room} {Pc : Array Value → State → Prop} {Qc : Array Value → State → Outcome → State → Prop} {XC : String → State → State → Prop} {free : Addr → Prop} {Ts : List Cond} {own C owner : String} {b : Addr} {As rest : List Value} {g : JFrame}
    (S : CallFix p m c cc nL s args Ts own) (hM : vx_Met l y ws rm Pc Qc XC mc ms free) (cw : va_CU R s args own C owner index x y bytes maxL ret ws rm mc ms n) (hp : PreV s H C b Pc As)
    (hg : g.method = m) (hn : As.length = n) (hsize : g.locals.size = nL) (hstack : g.stack = As.reverse ++ .ref b :: rest) (hW : 2 * g.monitorRoom + (rest.map fun v => v.category).sum ≤ 8) (hdg : decode cc g.pc = .ok (.invokevirtual index, 3)) (hf : cells + mc ≤ R.cells ∧ slots + ms ≤ R.slots) :
    vx_Run p l e R s m args below meth c H locs cells slots mc ms g rest (Qc (Value.ref b :: As).toArray) XC free := by
  obtain ⟨hrc, hrs, hfr, hlo, hws, hcw⟩ := cw.back
  have hini := cw.init
  have hK : vx_Back l R p e below s args y 3 8 (PreOf R mc ms Pc) (PostOf Qc mc ms free) (vx_Post XC mc ms free) := vx_back (bytes := bytes) (maxL := maxL) (ret := ret) hM hp.1 hrc hrs hfr hlo hws hcw (fun a' U hW => word_at hW (Or.inl (by first | rfl | simp [Cond.onTables, Cond.keeps, Cond.steady])) hini)
  obtain ⟨hx, hb, hml, ho, -⟩ := S
  obtain ⟨-, ⟨cellB, hcB, hoB, hclB⟩, hPc⟩ := hp
  intro T hT X
  rcases vx_callVU X hx (C := C) (owner := owner) (bytes := bytes) (maxL := maxL) (ret := ret) ho cw.link cw.same cw.decl cw.notMH cw.sel cw.inst cw.code hK (by rw [hT]; exact hcB) hoB hclB hg (hsize.trans hml.symm) (argsL := As) (rest := rest) (fun sig h => hn.trans (cw.len sig h)) hstack hW (by rw [hb]; exact hdg)
    (fun vm₁ hW₁ => ⟨hf.1, hf.2, hPc (T.setVm vm₁) hT hW₁⟩) with ⟨v, vm₁, ⟨U', l2, c2, s2⟩, hW₁, X', ⟨g', mk, t, L, e1, e2, hq, h1, hL, h2, h3⟩, st⟩ | ⟨q, vm₁, ⟨U', l2, c2, s2⟩, hW₁, X', ⟨g', mk, t, L, E, ce, e1, e2, hq, hce, hcv, hcl, h1, hL, h2, h3⟩, st⟩
  · dsimp only [Pt.U, Pt.locs, Pt.cells, Pt.slots] at X' e1 e2 h1 h2 h3 st
    subst h1; subst h2; subst h3
    exact Or.inl ⟨v, (T.setVm vm₁).calling g' mk (Value.ref b :: As).toArray, t, U', L, hT, X', hL, e1, e2, hq, st⟩
  · dsimp only [Pt.U, Pt.locs, Pt.cells, Pt.slots] at X' e1 e2 h1 h2 h3 st hcl
    subst h1; subst h2; subst h3
    exact Or.inr ⟨q, (T.setVm vm₁).calling g' mk (Value.ref b :: As).toArray, t, U', L, E, ce, hT, X', hL, e1, e2, hq, hce, hcv, vx_cls hW₁ hcl, st⟩
end
/-! ===== END ===== -/
/-! ===== BEGIN super.m(..) that may throw (follows va_callSU, va_runSU) ===== -/
section
variable {p : Program} {l : Launch} {e : Env} {R : Room} {s : State} {m : MethodId} {args : Array Value} {below : List Frame} {meth : Method} {c : Code} {H : Heap} {locs : List Loc} {cells slots : Nat}
theorem vx_callSU {T : State} {locs : List Loc} {cells slots : Nat} (X : Stand p l e R s m args below meth c T locs cells slots) (hexec : p.tables.exec = Jvm.exec) {own : String} {index : Nat} {y : MethodName} {bytes : ByteArray} {maxL : Nat} {ret : Option FieldType}
    (hown : s.vm.findClass own = some m.cls) (hlink : (Cond.methodLink own index y).before args s = true) (hsame : (Cond.sameMethod y.cls y.cls y.name y.desc).before args s = true) (hsup : (Cond.superclass own y.cls).before args s = true)
    (hinst : (Cond.instanceMethod y).before args s = true) (hcode : (Cond.code y bytes maxL ret).before args s = true) (hno : y.name ≠ "<init>")
    {W : Nat} {Pre : Pt → Array Value → Prop} {Post : Pt → Array Value → Option Value → Pt → Prop} {PostX : Pt → Array Value → Addr → Pt → Prop} (hK : vx_Back l R p e below s args y 3 W Pre Post PostX)
    {b : Addr} {cellB : Cell} {kB : Class} (hcell : T.heap[b]? = some cellB) (hobj : cellB.vm.isStatics = false) (hkB : s.vm.classes[cellB.cls]? = some kB)
    {g : JFrame} (hg : g.method = m) (hsize : g.locals.size = c.maxLocals) {argsL rest : List Value} (hlen : ∀ sig, parseMethodDescriptor y.desc = some sig → argsL.length = sig.parameters.length)
    (hstack : g.stack = argsL.reverse ++ .ref b :: rest) (hW : 2 * g.monitorRoom + (rest.map fun v => v.category).sum ≤ W) (hdg : decode c.code g.pc = .ok (.invokespecial index, 3))
    (hpre : ∀ vm₁, s.WarmedH vm₁ → Pre ⟨T.setVm vm₁, locs, cells, slots⟩ (Value.ref b :: argsL).toArray) :
    (∃ (v : Option Value) (vm₁ : Vm) (B : Pt), s.WarmedH vm₁ ∧ Stand p l e R s m args below meth c B.U B.locs B.cells B.slots ∧ Post ⟨T.setVm vm₁, locs, cells, slots⟩ (Value.ref b :: argsL).toArray v B ∧
      ∀ target, Steps p.tables e below (B.U.setTop { g with pc := g.pc + 3, stack := v.toList ++ rest }) target → Steps p.tables e below (T.setTop g) target) ∨
    (∃ (q : Addr) (vm₁ : Vm) (B : Pt), s.WarmedH vm₁ ∧ Stand p l e R s m args below meth c B.U B.locs B.cells B.slots ∧ PostX ⟨T.setVm vm₁, locs, cells, slots⟩ (Value.ref b :: argsL).toArray q B ∧
      Steps p.tables e below (T.setTop g) ((B.U.setTop { g with stack := rest }).pushFrame (.throwing q))) := by
  obtain ⟨mk, methM, hnamed, hmethM, hstM, habM⟩ := Cond.instanceMethod_spec hinst
  obtain ⟨methM', cM, hmethM', -, -, -, -, -, -, hsigM⟩ := Cond.code_spec hnamed hcode
  cases hmethM.symm.trans hmethM'
  obtain ⟨ps, dk, kp, hps, hdk, hkp, hsuper, -, -, hnid⟩ := Cond.superclass_spec hown hsup
  have hn : s.methodNamed? ⟨y.cls, y.name, y.desc⟩ = some mk := hnamed
  have hpm : ps = mk.cls := Option.some.inj (hps.symm.trans (findClass_of_methodNamed hnamed))
  have hsub : s.vm.isSubclass ps mk.cls = true := by rw [hpm]; simp [Vm.isSubclass, Vm.isSubclassAux]
  obtain ⟨vm₁, X₁, hstep₁⟩ := X.invokespecialUp hexec hown hlink hsame hn hmethM hstM habM hno hdk hnid hps hsuper hsub (a := b) (cell := cellB) hcell
    (fun z h => by rw [h] at hobj; cases hobj) hkB (g := g) hg (argsL := argsL) (rest := rest) (hlen _ hsigM) hstack hdg
  rcases hK m meth c ⟨T.setVm vm₁, locs, cells, slots⟩ { g with stack := rest } (.invokespecial index) mk (Value.ref b :: argsL).toArray X₁ hg hsize hdg hW (X₁.named hnamed) (hpre vm₁ X₁.warmed) with ⟨v, B, X', hpost, hsteps⟩ | ⟨q, B, X', hpost, hsteps⟩
  · exact Or.inl ⟨v, vm₁, B, X₁.warmed, X', hpost, fun target h => hstep₁ _ (by rw [doInvoke_state]; exact hsteps.trans h)⟩
  · exact Or.inr ⟨q, vm₁, B, X₁.warmed, X', hpost, hstep₁ _ (by rw [doInvoke_state]; exact hsteps)⟩
theorem vx_runSU {y : MethodName} {bytes cc : ByteArray} {maxL nL mc ms n index : Nat} {ret : Option FieldType} {ws : List Cond} {rm : Room} {Pc : Array Value → State → Prop} {Qc : Array Value → State → Outcome → State → Prop} {XC : String → State → State → Prop} {free : Addr → Prop} {Ts : List Cond} {own C : String} {cC : ClassId} {b : Addr} {As rest : List Value} {g : JFrame}
    (hat : ClassAt s C cC) (S : CallFix p m c cc nL s args Ts own) (hM : vx_Met l y ws rm Pc Qc XC mc ms free) (cw : va_CS R s args own index y bytes maxL ret ws rm mc ms n) (hp : PreV s H C b Pc As)
    (hg : g.method = m) (hn : As.length = n) (hsize : g.locals.size = nL) (hstack : g.stack = As.reverse ++ .ref b :: rest) (hW : 2 * g.monitorRoom + (rest.map fun v => v.category).sum ≤ 8) (hdg : decode cc g.pc = .ok (.invokespecial index, 3)) (hf : cells + mc ≤ R.cells ∧ slots + ms ≤ R.slots) :
    vx_Run p l e R s m args below meth c H locs cells slots mc ms g rest (Qc (Value.ref b :: As).toArray) XC free := by
  obtain ⟨⟨hrc, hrs, hfr, hlo, hws, hcw⟩, hl1, hl2, hl3, hl4, hini, hcode, hno, hlen⟩ := cw
  have hK : vx_Back l R p e below s args y 3 8 (PreOf R mc ms Pc) (PostOf Qc mc ms free) (vx_Post XC mc ms free) := vx_back (bytes := bytes) (maxL := maxL) (ret := ret) hM hp.1 hrc hrs hfr hlo hws hcw (fun a' U hW => word_at hW (Or.inl (by first | rfl | simp [Cond.onTables, Cond.keeps, Cond.steady])) hini)
  obtain ⟨hx, hb, hml, ho, -⟩ := S
  obtain ⟨-, ⟨cellB, hcB, hoB, hclB⟩, hPc⟩ := hp
  obtain ⟨hfc, kB, hkB, -⟩ := hat
  cases hfc.symm.trans hclB
  intro T hT X
  rcases vx_callSU X hx (bytes := bytes) (maxL := maxL) (ret := ret) ho hl1 hl2 hl3 hl4 hcode hno hK (by rw [hT]; exact hcB) hoB hkB hg (hsize.trans hml.symm) (argsL := As) (rest := rest) (fun sig h => hn.trans (hlen sig h)) hstack hW (by rw [hb]; exact hdg)
    (fun vm₁ hW₁ => ⟨hf.1, hf.2, hPc (T.setVm vm₁) hT hW₁⟩) with ⟨v, vm₁, ⟨U', l2, c2, s2⟩, hW₁, X', ⟨g', mk, t, L, e1, e2, hq, h1, hL, h2, h3⟩, st⟩ | ⟨q, vm₁, ⟨U', l2, c2, s2⟩, hW₁, X', ⟨g', mk, t, L, E, ce, e1, e2, hq, hce, hcv, hcl, h1, hL, h2, h3⟩, st⟩
  · dsimp only [Pt.U, Pt.locs, Pt.cells, Pt.slots] at X' e1 e2 h1 h2 h3 st
    subst h1; subst h2; subst h3
    exact Or.inl ⟨v, (T.setVm vm₁).calling g' mk (Value.ref b :: As).toArray, t, U', L, hT, X', hL, e1, e2, hq, st⟩
  · dsimp only [Pt.U, Pt.locs, Pt.cells, Pt.slots] at X' e1 e2 h1 h2 h3 st hcl
    subst h1; subst h2; subst h3
    exact Or.inr ⟨q, (T.setVm vm₁).calling g' mk (Value.ref b :: As).toArray, t, U', L, E, ce, hT, X', hL, e1, e2, hq, hce, hcv, vx_cls hW₁ hcl, st⟩
end
/-! ===== END ===== -/
/-! ===== BEGIN a private method of a nest mate that may throw (follows va_callVN, va_callSN, va_runVN, va_runSN) ===== -/
section
variable {p : Program} {l : Launch} {e : Env} {R : Room} {s : State} {m : MethodId} {args : Array Value} {below : List Frame} {meth : Method} {c : Code} {H : Heap} {locs : List Loc} {cells slots : Nat}
variable {T : State}
theorem vx_callVN (X : Stand p l e R s m args below meth c T locs cells slots) (hexec : p.tables.exec = Jvm.exec) {own C : String} {index : Nat} {host : String} {y : MethodName} {bytes : ByteArray} {maxL : Nat} {ret : Option FieldType}
    (hown : s.vm.findClass own = some m.cls) (hlink : (Cond.methodLinkNest own index y host).before args s = true) (hinst : (Cond.instanceMethod y).before args s = true) (hsel : (Cond.selects C y y).before args s = true)
    (hcode : (Cond.code y bytes maxL ret).before args s = true) (hy : y.cls ≠ "java/lang/invoke/MethodHandle" ∧ y.cls ≠ "java/lang/invoke/VarHandle")
    {W : Nat} {Pre : Pt → Array Value → Prop} {Post : Pt → Array Value → Option Value → Pt → Prop} {PostX : Pt → Array Value → Addr → Pt → Prop} (hK : vx_Back l R p e below s args y 3 W Pre Post PostX)
    {b : Addr} {cellB : Cell} (hcell : T.heap[b]? = some cellB) (hobj : cellB.vm.isStatics = false) (hcls : s.vm.findClass C = some cellB.cls)
    {g : JFrame} (hg : g.method = m) (hsize : g.locals.size = c.maxLocals) {argsL rest : List Value} (hlen : ∀ sig, parseMethodDescriptor y.desc = some sig → argsL.length = sig.parameters.length)
    (hstack : g.stack = argsL.reverse ++ .ref b :: rest) (hW : 2 * g.monitorRoom + (rest.map fun v => v.category).sum ≤ W) (hdg : decode c.code g.pc = .ok (.invokevirtual index, 3))
    (hpre : ∀ vm₁, s.WarmedH vm₁ → Pre ⟨T.setVm vm₁, locs, cells, slots⟩ (Value.ref b :: argsL).toArray) :
    (∃ (v : Option Value) (vm₁ : Vm) (B : Pt), s.WarmedH vm₁ ∧ Stand p l e R s m args below meth c B.U B.locs B.cells B.slots ∧ Post ⟨T.setVm vm₁, locs, cells, slots⟩ (Value.ref b :: argsL).toArray v B ∧
      ∀ target, Steps p.tables e below (B.U.setTop { g with pc := g.pc + 3, stack := v.toList ++ rest }) target → Steps p.tables e below (T.setTop g) target) ∨
    (∃ (q : Addr) (vm₁ : Vm) (B : Pt), s.WarmedH vm₁ ∧ Stand p l e R s m args below meth c B.U B.locs B.cells B.slots ∧ PostX ⟨T.setVm vm₁, locs, cells, slots⟩ (Value.ref b :: argsL).toArray q B ∧
      Steps p.tables e below (T.setTop g) ((B.U.setTop { g with stack := rest }).pushFrame (.throwing q))) := by
  obtain ⟨mk, methM, hnamed, hmethM, hstM, habM⟩ := Cond.instanceMethod_spec hinst
  obtain ⟨methM', cM, hmethM', -, -, -, -, -, -, hsigM⟩ := Cond.code_spec hnamed hcode
  cases hmethM.symm.trans hmethM'
  obtain ⟨c2, r2, m2, q1, q2, q3, q4, kP, hkP, hkPi⟩ := Cond.selects_spec hsel
  cases hcls.symm.trans q1
  cases (State.methodFound?_of_named hnamed hy).symm.trans q2
  cases hnamed.symm.trans q3
  have hselP : selectMethod e.platform s.vm cellB.cls mk = .method mk := by rw [Launch.admits_selectMethod X.admits]; exact q4
  obtain ⟨vm₁, X₁, hstep₁⟩ := X.invokevirtualNest hexec hown hlink hnamed hmethM hstM hkP hkPi hy (a := b) (cell := cellB) hcell
    (fun z h => by rw [h] at hobj; cases hobj) hselP hmethM habM hkP hkPi (g := g) hg (argsL := argsL) (rest := rest) (hlen _ hsigM) hstack hdg
  rcases hK m meth c ⟨T.setVm vm₁, locs, cells, slots⟩ { g with stack := rest } (.invokevirtual index) mk (Value.ref b :: argsL).toArray X₁ hg hsize hdg hW (X₁.named hnamed) (hpre vm₁ X₁.warmed) with ⟨v, B, X', hpost, hsteps⟩ | ⟨q, B, X', hpost, hsteps⟩
  · exact Or.inl ⟨v, vm₁, B, X₁.warmed, X', hpost, fun target h => hstep₁ _ fun acts => by rw [doInvoke_state]; exact hsteps.trans h⟩
  · exact Or.inr ⟨q, vm₁, B, X₁.warmed, X', hpost, hstep₁ _ fun acts => by rw [doInvoke_state]; exact hsteps⟩
theorem vx_callSN (X : Stand p l e R s m args below meth c T locs cells slots) (hexec : p.tables.exec = Jvm.exec) {own : String} {index : Nat} {host : String} {y : MethodName} {bytes : ByteArray} {maxL : Nat} {ret : Option FieldType}
    (hown : s.vm.findClass own = some m.cls) (hlink : (Cond.methodLinkNest own index y host).before args s = true) (hstat : (Cond.static y).before args s = true) (hinit : (Cond.initialized y.cls).before args s = true)
    (hcode : (Cond.code y bytes maxL ret).before args s = true) (hy : y.cls ≠ "java/lang/invoke/MethodHandle" ∧ y.cls ≠ "java/lang/invoke/VarHandle")
    {W : Nat} {Pre : Pt → Array Value → Prop} {Post : Pt → Array Value → Option Value → Pt → Prop} {PostX : Pt → Array Value → Addr → Pt → Prop} (hK : vx_Back l R p e below s args y 3 W Pre Post PostX)
    {g : JFrame} (hg : g.method = m) (hsize : g.locals.size = c.maxLocals) {argsL rest : List Value} (hlen : ∀ sig, parseMethodDescriptor y.desc = some sig → argsL.length = sig.parameters.length)
    (hstack : g.stack = argsL.reverse ++ rest) (hW : 2 * g.monitorRoom + (rest.map fun v => v.category).sum ≤ W) (hdg : decode c.code g.pc = .ok (.invokestatic index, 3))
    (hpre : ∀ vm₁, s.WarmedH vm₁ → Pre ⟨T.setVm vm₁, locs, cells, slots⟩ argsL.toArray) :
    (∃ (v : Option Value) (vm₁ : Vm) (B : Pt), s.WarmedH vm₁ ∧ Stand p l e R s m args below meth c B.U B.locs B.cells B.slots ∧ Post ⟨T.setVm vm₁, locs, cells, slots⟩ argsL.toArray v B ∧
      ∀ target, Steps p.tables e below (B.U.setTop { g with pc := g.pc + 3, stack := v.toList ++ rest }) target → Steps p.tables e below (T.setTop g) target) ∨
    (∃ (q : Addr) (vm₁ : Vm) (B : Pt), s.WarmedH vm₁ ∧ Stand p l e R s m args below meth c B.U B.locs B.cells B.slots ∧ PostX ⟨T.setVm vm₁, locs, cells, slots⟩ argsL.toArray q B ∧
      Steps p.tables e below (T.setTop g) ((B.U.setTop { g with stack := rest }).pushFrame (.throwing q))) := by
  obtain ⟨mk, hnamed⟩ := Cond.code_named hcode
  obtain ⟨methM, cM, hmethM, -, -, -, -, -, -, hsigM⟩ := Cond.code_spec hnamed hcode
  have hstatic : methM.isStatic = true := Cond.static_spec hnamed hmethM hstat
  obtain ⟨kP, hkP, -⟩ := className_of_methodNamed hnamed
  have hinitP : kP.init = .initialized := Cond.initialized_spec (findClass_of_methodNamed hnamed) hkP hinit
  obtain ⟨vm₁, X₁, hstep₁⟩ := X.invokestaticNest hexec hown hlink hnamed hmethM hstatic hkP hinitP hy (g := g) hg (argsL := argsL) (rest := rest) (hlen _ hsigM) hstack hdg
  rcases hK m meth c ⟨T.setVm vm₁, locs, cells, slots⟩ { g with stack := rest } (.invokestatic index) mk argsL.toArray X₁ hg hsize hdg hW (X₁.named hnamed) (hpre vm₁ X₁.warmed) with ⟨v, B, X', hpost, hsteps⟩ | ⟨q, B, X', hpost, hsteps⟩
  · exact Or.inl ⟨v, vm₁, B, X₁.warmed, X', hpost, fun target h => hstep₁ _ fun acts => by rw [doInvoke_state]; exact hsteps.trans h⟩
  · exact Or.inr ⟨q, vm₁, B, X₁.warmed, X', hpost, hstep₁ _ fun acts => by rw [doInvoke_state]; exact hsteps⟩
theorem vx_runVN {y : MethodName} {bytes cc : ByteArray} {maxL nL mc ms n index : Nat} {ret : Option FieldType} {ws : List Cond} {rm : Room} {Pc : Array Value → State → Prop} {Qc : Array Value → State → Outcome → State → Prop} {XC : String → State → State → Prop} {free : Addr → Prop} {Ts : List Cond} {own C host : String} {b : Addr} {As rest : List Value} {g : JFrame}
    (S : CallFix p m c cc nL s args Ts own) (hM : vx_Met l y ws rm Pc Qc XC mc ms free) (cw : va_CN R s args own index y host bytes maxL ret ws rm mc ms n ∧ (Cond.instanceMethod y).before args s = true ∧ (Cond.selects C y y).before args s = true) (hp : PreV s H C b Pc As)
    (hg : g.method = m) (hn : As.length = n) (hsize : g.locals.size = nL) (hstack : g.stack = As.reverse ++ .ref b :: rest) (hW : 2 * g.monitorRoom + (rest.map fun v => v.category).sum ≤ 8) (hdg : decode cc g.pc = .ok (.invokevirtual index, 3)) (hf : cells + mc ≤ R.cells ∧ slots + ms ≤ R.slots) :
    vx_Run p l e R s m args below meth c H locs cells slots mc ms g rest (Qc (Value.ref b :: As).toArray) XC free := by
  obtain ⟨⟨⟨hrc, hrs, hfr, hlo, hws, hcw⟩, hcode, hini, hy, hlen, hl⟩, hx1, hx2⟩ := cw
  have hK : vx_Back l R p e below s args y 3 8 (PreOf R mc ms Pc) (PostOf Qc mc ms free) (vx_Post XC mc ms free) := vx_back (bytes := bytes) (maxL := maxL) (ret := ret) hM hp.1 hrc hrs hfr hlo hws hcw (fun a' U hW => word_at hW (Or.inl (by first | rfl | simp [Cond.onTables, Cond.keeps, Cond.steady])) hini)
  obtain ⟨hx, hb, hml, ho, -⟩ := S
  obtain ⟨-, ⟨cellB, hcB, hoB, hclB⟩, hPc⟩ := hp
  intro T hT X
  rcases vx_callVN X hx (C := C) (bytes := bytes) (maxL := maxL) (ret := ret) ho hl hx1 hx2 hcode hy hK (by rw [hT]; exact hcB) hoB hclB hg (hsize.trans hml.symm) (argsL := As) (rest := rest) (fun sig h => hn.trans (hlen sig h)) hstack hW (by rw [hb]; exact hdg)
    (fun vm₁ hW₁ => ⟨hf.1, hf.2, hPc (T.setVm vm₁) hT hW₁⟩) with ⟨v, vm₁, ⟨U', l2, c2, s2⟩, hW₁, X', ⟨g', mk, t, L, e1, e2, hq, h1, hL, h2, h3⟩, st⟩ | ⟨q, vm₁, ⟨U', l2, c2, s2⟩, hW₁, X', ⟨g', mk, t, L, E, ce, e1, e2, hq, hce, hcv, hcl, h1, hL, h2, h3⟩, st⟩
  · dsimp only [Pt.U, Pt.locs, Pt.cells, Pt.slots] at X' e1 e2 h1 h2 h3 st
    subst h1; subst h2; subst h3
    exact Or.inl ⟨v, (T.setVm vm₁).calling g' mk (Value.ref b :: As).toArray, t, U', L, hT, X', hL, e1, e2, hq, st⟩
  · dsimp only [Pt.U, Pt.locs, Pt.cells, Pt.slots] at X' e1 e2 h1 h2 h3 st hcl
    subst h1; subst h2; subst h3
    exact Or.inr ⟨q, (T.setVm vm₁).calling g' mk (Value.ref b :: As).toArray, t, U', L, E, ce, hT, X', hL, e1, e2, hq, hce, hcv, vx_cls hW₁ hcl, st⟩
theorem vx_runSN {y : MethodName} {bytes cc : ByteArray} {maxL nL mc ms n index : Nat} {ret : Option FieldType} {ws : List Cond} {rm : Room} {Pc : Array Value → State → Prop} {Qc : Array Value → State → Outcome → State → Prop} {XC : String → State → State → Prop} {free : Addr → Prop} {Ts : List Cond} {own host : String} {As rest : List Value} {g : JFrame}
    (S : CallFix p m c cc nL s args Ts own) (hM : vx_Met l y ws rm Pc Qc XC mc ms free) (cw : va_CN R s args own index y host bytes maxL ret ws rm mc ms n ∧ (Cond.static y).before args s = true ∧ True) (hp : PreS s H Pc As)
    (hg : g.method = m) (hn : As.length = n) (hsize : g.locals.size = nL) (hstack : g.stack = As.reverse ++ rest) (hW : 2 * g.monitorRoom + (rest.map fun v => v.category).sum ≤ 8) (hdg : decode cc g.pc = .ok (.invokestatic index, 3)) (hf : cells + mc ≤ R.cells ∧ slots + ms ≤ R.slots) :
    vx_Run p l e R s m args below meth c H locs cells slots mc ms g rest (Qc As.toArray) XC free := by
  obtain ⟨⟨⟨hrc, hrs, hfr, hlo, hws, hcw⟩, hcode, hini, hy, hlen, hl⟩, hx1, hx2⟩ := cw
  have hK : vx_Back l R p e below s args y 3 8 (PreOf R mc ms Pc) (PostOf Qc mc ms free) (vx_Post XC mc ms free) := vx_back (bytes := bytes) (maxL := maxL) (ret := ret) hM hp.1 hrc hrs hfr hlo hws hcw (fun a' U hW => word_at hW (Or.inl (by first | rfl | simp [Cond.onTables, Cond.keeps, Cond.steady])) hini)
  obtain ⟨hx, hb, hml, ho, -⟩ := S
  have hPc := hp.2
  intro T hT X
  rcases vx_callSN X hx (bytes := bytes) (maxL := maxL) (ret := ret) ho hl hx1 hini hcode hy hK hg (hsize.trans hml.symm) (argsL := As) (rest := rest) (fun sig h => hn.trans (hlen sig h)) hstack hW (by rw [hb]; exact hdg)
    (fun vm₁ hW₁ => ⟨hf.1, hf.2, hPc (T.setVm vm₁) hT hW₁⟩) with ⟨v, vm₁, ⟨U', l2, c2, s2⟩, hW₁, X', ⟨g', mk, t, L, e1, e2, hq, h1, hL, h2, h3⟩, st⟩ | ⟨q, vm₁, ⟨U', l2, c2, s2⟩, hW₁, X', ⟨g', mk, t, L, E, ce, e1, e2, hq, hce, hcv, hcl, h1, hL, h2, h3⟩, st⟩
  · dsimp only [Pt.U, Pt.locs, Pt.cells, Pt.slots] at X' e1 e2 h1 h2 h3 st
    subst h1; subst h2; subst h3
    exact Or.inl ⟨v, (T.setVm vm₁).calling g' mk As.toArray, t, U', L, hT, X', hL, e1, e2, hq, st⟩
  · dsimp only [Pt.U, Pt.locs, Pt.cells, Pt.slots] at X' e1 e2 h1 h2 h3 st hcl
    subst h1; subst h2; subst h3
    exact Or.inr ⟨q, (T.setVm vm₁).calling g' mk As.toArray, t, U', L, E, ce, hT, X', hL, e1, e2, hq, hce, hcv, vx_cls hW₁ hcl, st⟩
end
/-! ===== END ===== -/
/-! ===== BEGIN calls by an interface of methods that may throw (vx_callIF, vx_runF follow va_callIF, va_runF of this kit) ===== -/
section
variable {p : Program} {l : Launch} {e : Env} {R : Room} {s : State} {m : MethodId} {args : Array Value} {below : List Frame} {meth : Method} {c : Code} {H : Heap} {locs : List Loc} {cells slots : Nat} {Q : State → Prop}
variable {mc ms : Nat} {free : Addr → Prop} {A0 A1 : Nat → Prop} {H0 : Heap} {a : Array Value} {pc : Nat} {ls : Array Slot} {st0 rest : List Value}
def vx_Run5 (p : Program) (l : Launch) (e : Env) (R : Room) (s : State) (m : MethodId) (args : Array Value) (below : List Frame) (meth : Method) (c : Code) (H : Heap) (locs : List Loc) (cells slots mc ms : Nat) (g : JFrame) (rest : List Value) (Qa : State → Outcome → State → Prop) (XC : String → State → State → Prop) (free : Addr → Prop) : Prop :=
  ∀ T : State, T.heap = H → Stand p l e R s m args below meth c T locs cells slots →
    (∃ (v : Option Value) (st₀ t T' : State) (L : List Loc), st₀.heap = H ∧ Stand p l e R s m args below meth c T' (locs ++ L) (cells + mc) (slots + ms) ∧ (∀ q ∈ L, free q.base) ∧ T'.heap = t.heap ∧ T'.vm = t.vm ∧ Qa st₀ (.returned v) t ∧
      Goes p e below T g T' { g with pc := g.pc + 5, stack := v.toList ++ rest }) ∨
    (∃ (q : Addr) (st₀ t T' : State) (L : List Loc) (E : String) (ce : Cell), st₀.heap = H ∧ Stand p l e R s m args below meth c T' (locs ++ L) (cells + mc) (slots + ms) ∧ (∀ z ∈ L, free z.base) ∧ T'.heap = t.heap ∧ T'.vm = t.vm ∧ XC E st₀ t ∧ t.heap[q]? = some ce ∧ ce.vm = .none ∧ s.vm.findClass E = some ce.cls ∧
      Steps p.tables e below (T.setTop g) ((T'.setTop { g with stack := rest }).pushFrame (.throwing q)))
theorem vx_callIF {T : State} (X : Stand p l e R s m args below meth c T locs cells slots) (hexec : p.tables.exec = Jvm.exec) {own C : String} {index count : Nat} {x y : MethodName} {bytes : ByteArray} {maxL : Nat} {ret : Option FieldType}
    (hown : s.vm.findClass own = some m.cls) (hlink : (Cond.methodLink own index x).before args s = true) (hdecl : (Cond.declares x).before args s = true) (hface : (Cond.interfaceMethod x.cls x.cls x.name x.desc).before args s = true)
    (hsel : (Cond.selects C x y).before args s = true) (hinst : (Cond.instanceMethod y).before args s = true) (hpub : (Cond.publicMethod y).before args s = true) (hunh : (Cond.unhidden C x.name x.desc).before args s = true)
    (hcast : (Cond.castable C x.cls).before args s = true) (hcode : (Cond.code y bytes maxL ret).before args s = true) (hx : x.cls ≠ "java/lang/invoke/MethodHandle" ∧ x.cls ≠ "java/lang/invoke/VarHandle")
    {W9 : Nat} {Pre : Pt → Array Value → Prop} {Post : Pt → Array Value → Option Value → Pt → Prop} {PostX : Pt → Array Value → Addr → Pt → Prop} (hK : vx_Back l R p e below s args y 5 W9 Pre Post PostX)
    {b : Addr} {cellB : Cell} {kB : Class} (hcell : T.heap[b]? = some cellB) (hobj : cellB.vm.isStatics = false) (hcls : s.vm.findClass C = some cellB.cls) (hkB : s.vm.classes[cellB.cls]? = some kB)
    {g : JFrame} (hg : g.method = m) (hsize : g.locals.size = c.maxLocals) {argsL rest : List Value} (hlen : ∀ sig, parseMethodDescriptor x.desc = some sig → argsL.length = sig.parameters.length)
    (hstack : g.stack = argsL.reverse ++ .ref b :: rest) (hW : 2 * g.monitorRoom + (rest.map fun v => v.category).sum ≤ W9) (hdg : decode c.code g.pc = .ok (.invokeinterface index count, 5))
    (hpre : ∀ vm₁, s.WarmedH vm₁ → Pre ⟨T.setVm vm₁, locs, cells, slots⟩ (Value.ref b :: argsL).toArray) :
    (∃ (v : Option Value) (vm₁ : Vm) (B : Pt), s.WarmedH vm₁ ∧ Stand p l e R s m args below meth c B.U B.locs B.cells B.slots ∧ Post ⟨T.setVm vm₁, locs, cells, slots⟩ (Value.ref b :: argsL).toArray v B ∧
      ∀ target, Steps p.tables e below (B.U.setTop { g with pc := g.pc + 5, stack := v.toList ++ rest }) target → Steps p.tables e below (T.setTop g) target) ∨
    (∃ (q : Addr) (vm₁ : Vm) (B : Pt), s.WarmedH vm₁ ∧ Stand p l e R s m args below meth c B.U B.locs B.cells B.slots ∧ PostX ⟨T.setVm vm₁, locs, cells, slots⟩ (Value.ref b :: argsL).toArray q B ∧
      Steps p.tables e below (T.setTop g) ((B.U.setTop { g with stack := rest }).pushFrame (.throwing q))) := by
  obtain ⟨r0, r, hn, hrm, hstR, hsigR⟩ := Cond.declares_spec hdecl
  obtain ⟨cL, kL, r1, hcL, hkL, hiL, hfoundL, hn1⟩ := Cond.interfaceMethod_spec hface
  cases hn.symm.trans hn1
  have hr0cls : r0.cls = cL := Option.some.inj ((findClass_of_methodNamed hn).symm.trans hcL)
  obtain ⟨hnameR, hdescR⟩ := name_of_methodNamed hn hrm
  obtain ⟨mk, methM, hnamed, hmethM, -, habM⟩ := Cond.instanceMethod_spec hinst
  obtain ⟨c2, r2, m2, q1, q2, q3, q4, -⟩ := Cond.selects_spec hsel
  cases hcls.symm.trans q1
  cases hfoundL.symm.trans q2
  cases hnamed.symm.trans q3
  have hselP : selectMethod e.platform s.vm cellB.cls r0 = .method mk := by rw [Launch.admits_selectMethod X.admits]; exact q4
  have hpubM : hasFlag methM.accessFlags Acc.public_ = true := Cond.publicMethod_spec hnamed hmethM hpub
  have hway : ((cellB.cls :: s.vm.superclasses cellB.cls).any fun k => (declaredIn s.vm r.name r.desc k).any fun (_, z) => z.isPrivate || z.isStatic) = false := by
    rw [hnameR, hdescR]; exact Cond.unhidden_spec hcls hunh
  obtain ⟨c3, t3, w1, w2, w3⟩ := Cond.castable_spec hcast
  cases hcls.symm.trans w1
  cases hcL.symm.trans w2
  obtain ⟨vm₁, X₁, hstep₁⟩ := X.invokeinterface hexec hown hlink hn hrm hstR (by rw [hr0cls]; exact hkL) hiL hx (a := b) (cell := cellB) (kcell := kB) hcell
    (fun z h => by rw [h] at hobj; cases hobj) hkB (by rw [hr0cls]; exact w3) hselP hmethM hway hpubM habM (g := g) hg (argsL := argsL) (rest := rest) (hlen _ hsigR) hstack hdg
  rcases hK m meth c ⟨T.setVm vm₁, locs, cells, slots⟩ { g with stack := rest } (.invokeinterface index count) mk (Value.ref b :: argsL).toArray X₁ hg hsize hdg hW (X₁.named hnamed) (hpre vm₁ X₁.warmed) with ⟨v, B, X', hpost, hsteps⟩ | ⟨q, B, X', hpost, hsteps⟩
  · exact Or.inl ⟨v, vm₁, B, X₁.warmed, X', hpost, fun target h => hstep₁ _ fun acts => by rw [doInvoke_state]; exact hsteps.trans h⟩
  · exact Or.inr ⟨q, vm₁, B, X₁.warmed, X', hpost, hstep₁ _ fun acts => by rw [doInvoke_state]; exact hsteps⟩
theorem vx_runF {x y : MethodName} {bytes cc : ByteArray} {maxL nL mc ms n index count : Nat} {ret : Option FieldType} {ws : List Cond} {rm : Room} {Pc : Array Value → State → Prop} {Qc : Array Value → State → Outcome → State → Prop} {XC : String → State → State → Prop} {free : Addr → Prop} {Ts : List Cond} {own C : String} {cC : ClassId} {b : Addr} {As rest : List Value} {g : JFrame}
    (hat : ClassAt s C cC) (S : CallFix p m c cc nL s args Ts own) (hM : vx_Met l y ws rm Pc Qc XC mc ms free) (cw : va_CI R s args own C index x y bytes maxL ret ws rm mc ms n) (hp : PreV s H C b Pc As)
    (hg : g.method = m) (hn : As.length = n) (hsize : g.locals.size = nL) (hstack : g.stack = As.reverse ++ .ref b :: rest) (hW : 2 * g.monitorRoom + (rest.map fun v => v.category).sum ≤ 8) (hdg : decode cc g.pc = .ok (.invokeinterface index count, 5)) (hf : cells + mc ≤ R.cells ∧ slots + ms ≤ R.slots) :
    vx_Run5 p l e R s m args below meth c H locs cells slots mc ms g rest (Qc (Value.ref b :: As).toArray) XC free := by
  obtain ⟨hrc, hrs, hfr, hlo, hws, hcw⟩ := cw.back
  have hini := cw.init
  have hK : vx_Back l R p e below s args y 5 8 (PreOf R mc ms Pc) (PostOf Qc mc ms free) (vx_Post XC mc ms free) := vx_back (bytes := bytes) (maxL := maxL) (ret := ret) hM hp.1 hrc hrs hfr hlo hws hcw (fun a' U hW => word_at hW (Or.inl (by first | rfl | simp [Cond.onTables, Cond.keeps, Cond.steady])) hini)
  obtain ⟨hx, hb, hml, ho, -⟩ := S
  obtain ⟨-, ⟨cellB, hcB, hoB, hclB⟩, hPc⟩ := hp
  obtain ⟨hfc, kB, hkB, -⟩ := hat
  cases hfc.symm.trans hclB
  intro T hT X
  rcases vx_callIF X hx (C := C) (bytes := bytes) (maxL := maxL) (ret := ret) ho cw.link cw.decl cw.face cw.sel cw.inst cw.pub cw.unh cw.cast cw.code cw.notMH hK (by rw [hT]; exact hcB) hoB hclB hkB hg (hsize.trans hml.symm) (argsL := As) (rest := rest) (fun sig h => hn.trans (cw.len sig h)) hstack hW (by rw [hb]; exact hdg)
    (fun vm₁ hW₁ => ⟨hf.1, hf.2, hPc (T.setVm vm₁) hT hW₁⟩) with ⟨v, vm₁, ⟨U', l2, c2, s2⟩, hW₁, X', ⟨g', mk, t, L, e1, e2, hq, h1, hL, h2, h3⟩, st⟩ | ⟨q, vm₁, ⟨U', l2, c2, s2⟩, hW₁, X', ⟨g', mk, t, L, E, ce, e1, e2, hq, hce, hcv, hcl, h1, hL, h2, h3⟩, st⟩
  · dsimp only [Pt.U, Pt.locs, Pt.cells, Pt.slots] at X' e1 e2 h1 h2 h3 st
    subst h1; subst h2; subst h3
    exact Or.inl ⟨v, (T.setVm vm₁).calling g' mk (Value.ref b :: As).toArray, t, U', L, hT, X', hL, e1, e2, hq, st⟩
  · dsimp only [Pt.U, Pt.locs, Pt.cells, Pt.slots] at X' e1 e2 h1 h2 h3 st hcl
    subst h1; subst h2; subst h3
    exact Or.inr ⟨q, (T.setVm vm₁).calling g' mk (Value.ref b :: As).toArray, t, U', L, E, ce, hT, X', hL, e1, e2, hq, hce, hcv, vx_cls hW₁ hcl, st⟩
theorem vx_callFv {S SX : Type} {post : S → Prop} {px : SX → Prop} {B : S → State → Prop} {BX : String → SX → State → Prop} {AX : Nat → Prop} (hr : vx_Run5 p l e R s m args below meth c H locs cells slots mc ms (F0 m pc ls st0) rest (va_Qv post B A1 a) (vx_X px BX AX) free) (hS : va_S A0 H0 H locs) (hA : ∀ q, q < H.size → A1 q → A0 q) (hf : ∀ q, free q → A0 q) (hAX : ∀ q, q < H.size → AX q → A0 q)
    (kx : ∀ (E : String) (ce : Cell) (q9 : Addr) (u : SX) (t : State) (H1 : Heap) (locs1 : List Loc), t.heap = H1 → s.vm.Alike t.vm → px u → BX E u t → H.size ≤ H1.size → (∀ q : Nat, q < H.size → ¬ AX q → H1[q]? = H[q]?) → va_S A0 H0 H1 locs1 → H1[q9]? = some ce → ce.vm = .none → s.vm.findClass E = some ce.cls → vx_W p l e R s m args below meth c H1 locs1 (cells + mc) (slots + ms) Q (F0 m pc ls rest) q9)
    (kk : ∀ (u : S) (t : State) (H1 : Heap) (locs1 : List Loc), t.heap = H1 → s.vm.Alike t.vm → post u → B u t → H.size ≤ H1.size → (∀ q : Nat, q < H.size → ¬ A1 q → H1[q]? = H[q]?) → va_S A0 H0 H1 locs1 → W p l e R s m args below meth c H1 locs1 (cells + mc) (slots + ms) Q (F0 m (pc + 5) ls (rest))) : W p l e R s m args below meth c H locs cells slots Q (F0 m pc ls st0) := by
  intro T hT X
  rcases hr T hT X with ⟨v, st₀, t, T', L, h0, X', hL, e1, e2, ⟨⟨u, hv, hp, hb⟩, hF⟩, st⟩ | ⟨q, st₀, t, T', L, E, ce, h0, X', hL, e1, e2, ⟨u, hp, hb, hF⟩, hce, hcv, hcl, st⟩
  · cases hv
    obtain ⟨k1, k2, k3⟩ := vx_keep h0 e1 hS hA hf hL hF
    obtain ⟨t2, a1, b1⟩ := kk u t T'.heap (locs ++ L) e1.symm (by rw [← e2]; exact X'.warmed.alike) hp hb k1 k2 k3 T' rfl X'
    exact ⟨t2, st t2 a1, b1⟩
  · obtain ⟨k1, k2, k3⟩ := vx_keep h0 e1 hS hAX hf hL hF
    obtain ⟨t2, a1, b1⟩ := kx E ce q u t T'.heap (locs ++ L) e1.symm (by rw [← e2]; exact X'.warmed.alike) hp hb k1 k2 k3 (by rw [e1]; exact hce) hcv hcl T' rfl X'
    exact ⟨t2, st.trans a1, b1⟩
theorem vx_callFi {S SX : Type} {post : Int32 → S → Prop} {px : SX → Prop} {B : S → State → Prop} {BX : String → SX → State → Prop} {AX : Nat → Prop} (hr : vx_Run5 p l e R s m args below meth c H locs cells slots mc ms (F0 m pc ls st0) rest (va_Qi post B A1 a) (vx_X px BX AX) free) (hS : va_S A0 H0 H locs) (hA : ∀ q, q < H.size → A1 q → A0 q) (hf : ∀ q, free q → A0 q) (hAX : ∀ q, q < H.size → AX q → A0 q)
    (kx : ∀ (E : String) (ce : Cell) (q9 : Addr) (u : SX) (t : State) (H1 : Heap) (locs1 : List Loc), t.heap = H1 → s.vm.Alike t.vm → px u → BX E u t → H.size ≤ H1.size → (∀ q : Nat, q < H.size → ¬ AX q → H1[q]? = H[q]?) → va_S A0 H0 H1 locs1 → H1[q9]? = some ce → ce.vm = .none → s.vm.findClass E = some ce.cls → vx_W p l e R s m args below meth c H1 locs1 (cells + mc) (slots + ms) Q (F0 m pc ls rest) q9)
    (kk : ∀ (r : Int32) (u : S) (t : State) (H1 : Heap) (locs1 : List Loc), t.heap = H1 → s.vm.Alike t.vm → post r u → B u t → H.size ≤ H1.size → (∀ q : Nat, q < H.size → ¬ A1 q → H1[q]? = H[q]?) → va_S A0 H0 H1 locs1 → W p l e R s m args below meth c H1 locs1 (cells + mc) (slots + ms) Q (F0 m (pc + 5) ls (.int r :: rest))) : W p l e R s m args below meth c H locs cells slots Q (F0 m pc ls st0) := by
  intro T hT X
  rcases hr T hT X with ⟨v, st₀, t, T', L, h0, X', hL, e1, e2, ⟨⟨r, u, hv, hp, hb⟩, hF⟩, st⟩ | ⟨q, st₀, t, T', L, E, ce, h0, X', hL, e1, e2, ⟨u, hp, hb, hF⟩, hce, hcv, hcl, st⟩
  · cases hv
    obtain ⟨k1, k2, k3⟩ := vx_keep h0 e1 hS hA hf hL hF
    obtain ⟨t2, a1, b1⟩ := kk r u t T'.heap (locs ++ L) e1.symm (by rw [← e2]; exact X'.warmed.alike) hp hb k1 k2 k3 T' rfl X'
    exact ⟨t2, st t2 a1, b1⟩
  · obtain ⟨k1, k2, k3⟩ := vx_keep h0 e1 hS hAX hf hL hF
    obtain ⟨t2, a1, b1⟩ := kx E ce q u t T'.heap (locs ++ L) e1.symm (by rw [← e2]; exact X'.warmed.alike) hp hb k1 k2 k3 (by rw [e1]; exact hce) hcv hcl T' rfl X'
    exact ⟨t2, st.trans a1, b1⟩
theorem vx_callFl {S SX : Type} {post : Int64 → S → Prop} {px : SX → Prop} {B : S → State → Prop} {BX : String → SX → State → Prop} {AX : Nat → Prop} (hr : vx_Run5 p l e R s m args below meth c H locs cells slots mc ms (F0 m pc ls st0) rest (va_Ql post B A1 a) (vx_X px BX AX) free) (hS : va_S A0 H0 H locs) (hA : ∀ q, q < H.size → A1 q → A0 q) (hf : ∀ q, free q → A0 q) (hAX : ∀ q, q < H.size → AX q → A0 q)
    (kx : ∀ (E : String) (ce : Cell) (q9 : Addr) (u : SX) (t : State) (H1 : Heap) (locs1 : List Loc), t.heap = H1 → s.vm.Alike t.vm → px u → BX E u t → H.size ≤ H1.size → (∀ q : Nat, q < H.size → ¬ AX q → H1[q]? = H[q]?) → va_S A0 H0 H1 locs1 → H1[q9]? = some ce → ce.vm = .none → s.vm.findClass E = some ce.cls → vx_W p l e R s m args below meth c H1 locs1 (cells + mc) (slots + ms) Q (F0 m pc ls rest) q9)
    (kk : ∀ (r : Int64) (u : S) (t : State) (H1 : Heap) (locs1 : List Loc), t.heap = H1 → s.vm.Alike t.vm → post r u → B u t → H.size ≤ H1.size → (∀ q : Nat, q < H.size → ¬ A1 q → H1[q]? = H[q]?) → va_S A0 H0 H1 locs1 → W p l e R s m args below meth c H1 locs1 (cells + mc) (slots + ms) Q (F0 m (pc + 5) ls (.long r :: rest))) : W p l e R s m args below meth c H locs cells slots Q (F0 m pc ls st0) := by
  intro T hT X
  rcases hr T hT X with ⟨v, st₀, t, T', L, h0, X', hL, e1, e2, ⟨⟨r, u, hv, hp, hb⟩, hF⟩, st⟩ | ⟨q, st₀, t, T', L, E, ce, h0, X', hL, e1, e2, ⟨u, hp, hb, hF⟩, hce, hcv, hcl, st⟩
  · cases hv
    obtain ⟨k1, k2, k3⟩ := vx_keep h0 e1 hS hA hf hL hF
    obtain ⟨t2, a1, b1⟩ := kk r u t T'.heap (locs ++ L) e1.symm (by rw [← e2]; exact X'.warmed.alike) hp hb k1 k2 k3 T' rfl X'
    exact ⟨t2, st t2 a1, b1⟩
  · obtain ⟨k1, k2, k3⟩ := vx_keep h0 e1 hS hAX hf hL hF
    obtain ⟨t2, a1, b1⟩ := kx E ce q u t T'.heap (locs ++ L) e1.symm (by rw [← e2]; exact X'.warmed.alike) hp hb k1 k2 k3 (by rw [e1]; exact hce) hcv hcl T' rfl X'
    exact ⟨t2, st.trans a1, b1⟩
theorem vx_callFf {S SX : Type} {post : UInt32 → S → Prop} {px : SX → Prop} {B : S → State → Prop} {BX : String → SX → State → Prop} {AX : Nat → Prop} (hr : vx_Run5 p l e R s m args below meth c H locs cells slots mc ms (F0 m pc ls st0) rest (va_Qf post B A1 a) (vx_X px BX AX) free) (hS : va_S A0 H0 H locs) (hA : ∀ q, q < H.size → A1 q → A0 q) (hf : ∀ q, free q → A0 q) (hAX : ∀ q, q < H.size → AX q → A0 q)
    (kx : ∀ (E : String) (ce : Cell) (q9 : Addr) (u : SX) (t : State) (H1 : Heap) (locs1 : List Loc), t.heap = H1 → s.vm.Alike t.vm → px u → BX E u t → H.size ≤ H1.size → (∀ q : Nat, q < H.size → ¬ AX q → H1[q]? = H[q]?) → va_S A0 H0 H1 locs1 → H1[q9]? = some ce → ce.vm = .none → s.vm.findClass E = some ce.cls → vx_W p l e R s m args below meth c H1 locs1 (cells + mc) (slots + ms) Q (F0 m pc ls rest) q9)
    (kk : ∀ (r : UInt32) (u : S) (t : State) (H1 : Heap) (locs1 : List Loc), t.heap = H1 → s.vm.Alike t.vm → post r u → B u t → H.size ≤ H1.size → (∀ q : Nat, q < H.size → ¬ A1 q → H1[q]? = H[q]?) → va_S A0 H0 H1 locs1 → W p l e R s m args below meth c H1 locs1 (cells + mc) (slots + ms) Q (F0 m (pc + 5) ls (.float r :: rest))) : W p l e R s m args below meth c H locs cells slots Q (F0 m pc ls st0) := by
  intro T hT X
  rcases hr T hT X with ⟨v, st₀, t, T', L, h0, X', hL, e1, e2, ⟨⟨r, u, hv, hp, hb⟩, hF⟩, st⟩ | ⟨q, st₀, t, T', L, E, ce, h0, X', hL, e1, e2, ⟨u, hp, hb, hF⟩, hce, hcv, hcl, st⟩
  · cases hv
    obtain ⟨k1, k2, k3⟩ := vx_keep h0 e1 hS hA hf hL hF
    obtain ⟨t2, a1, b1⟩ := kk r u t T'.heap (locs ++ L) e1.symm (by rw [← e2]; exact X'.warmed.alike) hp hb k1 k2 k3 T' rfl X'
    exact ⟨t2, st t2 a1, b1⟩
  · obtain ⟨k1, k2, k3⟩ := vx_keep h0 e1 hS hAX hf hL hF
    obtain ⟨t2, a1, b1⟩ := kx E ce q u t T'.heap (locs ++ L) e1.symm (by rw [← e2]; exact X'.warmed.alike) hp hb k1 k2 k3 (by rw [e1]; exact hce) hcv hcl T' rfl X'
    exact ⟨t2, st.trans a1, b1⟩
theorem vx_callFd {S SX : Type} {post : UInt64 → S → Prop} {px : SX → Prop} {B : S → State → Prop} {BX : String → SX → State → Prop} {AX : Nat → Prop} (hr : vx_Run5 p l e R s m args below meth c H locs cells slots mc ms (F0 m pc ls st0) rest (va_Qd post B A1 a) (vx_X px BX AX) free) (hS : va_S A0 H0 H locs) (hA : ∀ q, q < H.size → A1 q → A0 q) (hf : ∀ q, free q → A0 q) (hAX : ∀ q, q < H.size → AX q → A0 q)
    (kx : ∀ (E : String) (ce : Cell) (q9 : Addr) (u : SX) (t : State) (H1 : Heap) (locs1 : List Loc), t.heap = H1 → s.vm.Alike t.vm → px u → BX E u t → H.size ≤ H1.size → (∀ q : Nat, q < H.size → ¬ AX q → H1[q]? = H[q]?) → va_S A0 H0 H1 locs1 → H1[q9]? = some ce → ce.vm = .none → s.vm.findClass E = some ce.cls → vx_W p l e R s m args below meth c H1 locs1 (cells + mc) (slots + ms) Q (F0 m pc ls rest) q9)
    (kk : ∀ (r : UInt64) (u : S) (t : State) (H1 : Heap) (locs1 : List Loc), t.heap = H1 → s.vm.Alike t.vm → post r u → B u t → H.size ≤ H1.size → (∀ q : Nat, q < H.size → ¬ A1 q → H1[q]? = H[q]?) → va_S A0 H0 H1 locs1 → W p l e R s m args below meth c H1 locs1 (cells + mc) (slots + ms) Q (F0 m (pc + 5) ls (.double r :: rest))) : W p l e R s m args below meth c H locs cells slots Q (F0 m pc ls st0) := by
  intro T hT X
  rcases hr T hT X with ⟨v, st₀, t, T', L, h0, X', hL, e1, e2, ⟨⟨r, u, hv, hp, hb⟩, hF⟩, st⟩ | ⟨q, st₀, t, T', L, E, ce, h0, X', hL, e1, e2, ⟨u, hp, hb, hF⟩, hce, hcv, hcl, st⟩
  · cases hv
    obtain ⟨k1, k2, k3⟩ := vx_keep h0 e1 hS hA hf hL hF
    obtain ⟨t2, a1, b1⟩ := kk r u t T'.heap (locs ++ L) e1.symm (by rw [← e2]; exact X'.warmed.alike) hp hb k1 k2 k3 T' rfl X'
    exact ⟨t2, st t2 a1, b1⟩
  · obtain ⟨k1, k2, k3⟩ := vx_keep h0 e1 hS hAX hf hL hF
    obtain ⟨t2, a1, b1⟩ := kx E ce q u t T'.heap (locs ++ L) e1.symm (by rw [← e2]; exact X'.warmed.alike) hp hb k1 k2 k3 (by rw [e1]; exact hce) hcv hcl T' rfl X'
    exact ⟨t2, st.trans a1, b1⟩
end
/-! ===== END ===== -/
/-! ===== BEGIN by an interface, a method with a table of its own that may throw (follows va_callIFW, va_runFW) ===== -/
section
variable {p : Program} {l : Launch} {e : Env} {R : Room} {s : State} {m : MethodId} {args : Array Value} {below : List Frame} {meth : Method} {c : Code} {H : Heap} {locs : List Loc} {cells slots : Nat}
theorem vx_callIFW {T : State} (X : Stand p l e R s m args below meth c T locs cells slots) (hexec : p.tables.exec = Jvm.exec) {own C : String} {index count : Nat} {x y : MethodName} {bytes : ByteArray} {maxL : Nat} {ret : Option FieldType} {hh : List (Nat × Nat × Nat × Nat)}
    (hown : s.vm.findClass own = some m.cls) (hlink : (Cond.methodLink own index x).before args s = true) (hdecl : (Cond.declares x).before args s = true) (hface : (Cond.interfaceMethod x.cls x.cls x.name x.desc).before args s = true)
    (hsel : (Cond.selects C x y).before args s = true) (hinst : (Cond.instanceMethod y).before args s = true) (hpub : (Cond.publicMethod y).before args s = true) (hunh : (Cond.unhidden C x.name x.desc).before args s = true)
    (hcast : (Cond.castable C x.cls).before args s = true) (hcode : (Cond.codeWith y bytes maxL ret hh).before args s = true) (hx : x.cls ≠ "java/lang/invoke/MethodHandle" ∧ x.cls ≠ "java/lang/invoke/VarHandle")
    {W : Nat} {Pre : Pt → Array Value → Prop} {Post : Pt → Array Value → Option Value → Pt → Prop} {PostX : Pt → Array Value → Addr → Pt → Prop} (hK : vx_Back l R p e below s args y 5 W Pre Post PostX)
    {b : Addr} {cellB : Cell} {kB : Class} (hcell : T.heap[b]? = some cellB) (hobj : cellB.vm.isStatics = false) (hcls : s.vm.findClass C = some cellB.cls) (hkB : s.vm.classes[cellB.cls]? = some kB)
    {g : JFrame} (hg : g.method = m) (hsize : g.locals.size = c.maxLocals) {argsL rest : List Value} (hlen : ∀ sig, parseMethodDescriptor x.desc = some sig → argsL.length = sig.parameters.length)
    (hstack : g.stack = argsL.reverse ++ .ref b :: rest) (hW : 2 * g.monitorRoom + (rest.map fun v => v.category).sum ≤ W) (hdg : decode c.code g.pc = .ok (.invokeinterface index count, 5))
    (hpre : ∀ vm₁, s.WarmedH vm₁ → Pre ⟨T.setVm vm₁, locs, cells, slots⟩ (Value.ref b :: argsL).toArray) :
    (∃ (v : Option Value) (vm₁ : Vm) (B : Pt), s.WarmedH vm₁ ∧ Stand p l e R s m args below meth c B.U B.locs B.cells B.slots ∧ Post ⟨T.setVm vm₁, locs, cells, slots⟩ (Value.ref b :: argsL).toArray v B ∧
      ∀ target, Steps p.tables e below (B.U.setTop { g with pc := g.pc + 5, stack := v.toList ++ rest }) target → Steps p.tables e below (T.setTop g) target) ∨
    (∃ (q : Addr) (vm₁ : Vm) (B : Pt), s.WarmedH vm₁ ∧ Stand p l e R s m args below meth c B.U B.locs B.cells B.slots ∧ PostX ⟨T.setVm vm₁, locs, cells, slots⟩ (Value.ref b :: argsL).toArray q B ∧
      Steps p.tables e below (T.setTop g) ((B.U.setTop { g with stack := rest }).pushFrame (.throwing q))) := by
  obtain ⟨r0, r, hn, hrm, hstR, hsigR⟩ := Cond.declares_spec hdecl
  obtain ⟨cL, kL, r1, hcL, hkL, hiL, hfoundL, hn1⟩ := Cond.interfaceMethod_spec hface
  cases hn.symm.trans hn1
  have hr0cls : r0.cls = cL := Option.some.inj ((findClass_of_methodNamed hn).symm.trans hcL)
  obtain ⟨hnameR, hdescR⟩ := name_of_methodNamed hn hrm
  obtain ⟨mk, methM, hnamed, hmethM, -, habM⟩ := Cond.instanceMethod_spec hinst
  obtain ⟨c2, r2, m2, q1, q2, q3, q4, -⟩ := Cond.selects_spec hsel
  cases hcls.symm.trans q1
  cases hfoundL.symm.trans q2
  cases hnamed.symm.trans q3
  have hselP : selectMethod e.platform s.vm cellB.cls r0 = .method mk := by rw [Launch.admits_selectMethod X.admits]; exact q4
  have hpubM : hasFlag methM.accessFlags Acc.public_ = true := Cond.publicMethod_spec hnamed hmethM hpub
  have hway : ((cellB.cls :: s.vm.superclasses cellB.cls).any fun k => (declaredIn s.vm r.name r.desc k).any fun (_, z) => z.isPrivate || z.isStatic) = false := by
    rw [hnameR, hdescR]; exact Cond.unhidden_spec hcls hunh
  obtain ⟨c3, t3, w1, w2, w3⟩ := Cond.castable_spec hcast
  cases hcls.symm.trans w1
  cases hcL.symm.trans w2
  obtain ⟨vm₁, X₁, hstep₁⟩ := X.invokeinterface hexec hown hlink hn hrm hstR (by rw [hr0cls]; exact hkL) hiL hx (a := b) (cell := cellB) (kcell := kB) hcell
    (fun z h => by rw [h] at hobj; cases hobj) hkB (by rw [hr0cls]; exact w3) hselP hmethM hway hpubM habM (g := g) hg (argsL := argsL) (rest := rest) (hlen _ hsigR) hstack hdg
  rcases hK m meth c ⟨T.setVm vm₁, locs, cells, slots⟩ { g with stack := rest } (.invokeinterface index count) mk (Value.ref b :: argsL).toArray X₁ hg hsize hdg hW (X₁.named hnamed) (hpre vm₁ X₁.warmed) with ⟨v, B, X', hpost, hsteps⟩ | ⟨q, B, X', hpost, hsteps⟩
  · exact Or.inl ⟨v, vm₁, B, X₁.warmed, X', hpost, fun target h => hstep₁ _ fun acts => by rw [doInvoke_state]; exact hsteps.trans h⟩
  · exact Or.inr ⟨q, vm₁, B, X₁.warmed, X', hpost, hstep₁ _ fun acts => by rw [doInvoke_state]; exact hsteps⟩
theorem vx_runFW {x y : MethodName} {bytes cc : ByteArray} {maxL nL mc ms n index count : Nat} {ret : Option FieldType} {hh : List (Nat × Nat × Nat × Nat)} {ws : List Cond} {rm : Room} {Pc : Array Value → State → Prop} {Qc : Array Value → State → Outcome → State → Prop} {XC : String → State → State → Prop} {free : Addr → Prop} {Ts : List Cond} {own C : String} {cC : ClassId} {b : Addr} {As rest : List Value} {g : JFrame}
    (hat : ClassAt s C cC) (S : CallFix p m c cc nL s args Ts own) (hM : vx_Met l y ws rm Pc Qc XC mc ms free) (cw : va_CIW R s args own C index x y bytes maxL ret hh ws rm mc ms n) (hp : PreV s H C b Pc As)
    (hg : g.method = m) (hn : As.length = n) (hsize : g.locals.size = nL) (hstack : g.stack = As.reverse ++ .ref b :: rest) (hW : 2 * g.monitorRoom + (rest.map fun v => v.category).sum ≤ 8) (hdg : decode cc g.pc = .ok (.invokeinterface index count, 5)) (hf : cells + mc ≤ R.cells ∧ slots + ms ≤ R.slots) :
    vx_Run5 p l e R s m args below meth c H locs cells slots mc ms g rest (Qc (Value.ref b :: As).toArray) XC free := by
  obtain ⟨hrc, hrs, hfr, hlo, hws, hcw⟩ := cw.back
  have hini := cw.init
  have hK : vx_Back l R p e below s args y 5 8 (PreOf R mc ms Pc) (PostOf Qc mc ms free) (vx_Post XC mc ms free) := vx_backW (hh := hh) (bytes := bytes) (maxL := maxL) (ret := ret) hM hp.1 hrc hrs hfr hlo hws hcw (fun a' U hW => word_at hW (Or.inl (by first | rfl | simp [Cond.onTables, Cond.keeps, Cond.steady])) hini)
  obtain ⟨hx, hb, hml, ho, -⟩ := S
  obtain ⟨-, ⟨cellB, hcB, hoB, hclB⟩, hPc⟩ := hp
  obtain ⟨hfc, kB, hkB, -⟩ := hat
  cases hfc.symm.trans hclB
  intro T hT X
  rcases vx_callIFW X hx (C := C) (hh := hh) (bytes := bytes) (maxL := maxL) (ret := ret) ho cw.link cw.decl cw.face cw.sel cw.inst cw.pub cw.unh cw.cast cw.code cw.notMH hK (by rw [hT]; exact hcB) hoB hclB hkB hg (hsize.trans hml.symm) (argsL := As) (rest := rest) (fun sig h => hn.trans (cw.len sig h)) hstack hW (by rw [hb]; exact hdg)
    (fun vm₁ hW₁ => ⟨hf.1, hf.2, hPc (T.setVm vm₁) hT hW₁⟩) with ⟨v, vm₁, ⟨U', l2, c2, s2⟩, hW₁, X', ⟨g', mk, t, L, e1, e2, hq, h1, hL, h2, h3⟩, st⟩ | ⟨q, vm₁, ⟨U', l2, c2, s2⟩, hW₁, X', ⟨g', mk, t, L, E, ce, e1, e2, hq, hce, hcv, hcl, h1, hL, h2, h3⟩, st⟩
  · dsimp only [Pt.U, Pt.locs, Pt.cells, Pt.slots] at X' e1 e2 h1 h2 h3 st
    subst h1; subst h2; subst h3
    exact Or.inl ⟨v, (T.setVm vm₁).calling g' mk (Value.ref b :: As).toArray, t, U', L, hT, X', hL, e1, e2, hq, st⟩
  · dsimp only [Pt.U, Pt.locs, Pt.cells, Pt.slots] at X' e1 e2 h1 h2 h3 st hcl
    subst h1; subst h2; subst h3
    exact Or.inr ⟨q, (T.setVm vm₁).calling g' mk (Value.ref b :: As).toArray, t, U', L, E, ce, hT, X', hL, e1, e2, hq, hce, hcv, vx_cls hW₁ hcl, st⟩
end
/-! ===== END ===== -/
/-! ===== BEGIN .. of methods that hand back an object of the pool ===== -/
section
variable {p : Program} {l : Launch} {e : Env} {R : Room} {s : State} {m : MethodId} {args : Array Value} {below : List Frame} {meth : Method} {c : Code} {H : Heap} {locs : List Loc} {cells slots : Nat} {Q : State → Prop}
variable {mc ms : Nat} {free : Addr → Prop} {A0 A1 : Nat → Prop} {H0 : Heap} {a : Array Value} {pc : Nat} {ls : Array Slot} {st0 rest : List Value}
theorem vx_callq {S SX : Type} {post : Option Nat → S → Prop} {px : SX → Prop} {B : S → State → Prop} {BX : String → SX → State → Prop} {AX : Nat → Prop} (hr : vx_Run p l e R s m args below meth c H locs cells slots mc ms (F0 m pc ls st0) rest (va_Qq post B A1 a) (vx_X px BX AX) free) (hS : va_S A0 H0 H locs) (hA : ∀ q, q < H.size → A1 q → A0 q) (hf : ∀ q, free q → A0 q) (hAX : ∀ q, q < H.size → AX q → A0 q)
    (kx : ∀ (E : String) (ce : Cell) (q9 : Addr) (u : SX) (t : State) (H1 : Heap) (locs1 : List Loc), t.heap = H1 → s.vm.Alike t.vm → px u → BX E u t → H.size ≤ H1.size → (∀ q : Nat, q < H.size → ¬ AX q → H1[q]? = H[q]?) → va_S A0 H0 H1 locs1 → H1[q9]? = some ce → ce.vm = .none → s.vm.findClass E = some ce.cls → vx_W p l e R s m args below meth c H1 locs1 (cells + mc) (slots + ms) Q (F0 m pc ls rest) q9)
    (kk : ∀ (r : Option Nat) (u : S) (t : State) (H1 : Heap) (locs1 : List Loc), t.heap = H1 → s.vm.Alike t.vm → post r u → B u t → H.size ≤ H1.size → (∀ q : Nat, q < H.size → ¬ A1 q → H1[q]? = H[q]?) → va_S A0 H0 H1 locs1 → W p l e R s m args below meth c H1 locs1 (cells + mc) (slots + ms) Q (F0 m (pc + 3) ls (va_rf r :: rest))) : W p l e R s m args below meth c H locs cells slots Q (F0 m pc ls st0) := by
  intro T hT X
  rcases hr T hT X with ⟨v, st₀, t, T', L, h0, X', hL, e1, e2, ⟨⟨r, u, hv, hp, hb⟩, hF⟩, st⟩ | ⟨q, st₀, t, T', L, E, ce, h0, X', hL, e1, e2, ⟨u, hp, hb, hF⟩, hce, hcv, hcl, st⟩
  · cases hv
    obtain ⟨k1, k2, k3⟩ := vx_keep h0 e1 hS hA hf hL hF
    obtain ⟨t2, a1, b1⟩ := kk r u t T'.heap (locs ++ L) e1.symm (by rw [← e2]; exact X'.warmed.alike) hp hb k1 k2 k3 T' rfl X'
    exact ⟨t2, st t2 a1, b1⟩
  · obtain ⟨k1, k2, k3⟩ := vx_keep h0 e1 hS hAX hf hL hF
    obtain ⟨t2, a1, b1⟩ := kx E ce q u t T'.heap (locs ++ L) e1.symm (by rw [← e2]; exact X'.warmed.alike) hp hb k1 k2 k3 (by rw [e1]; exact hce) hcv hcl T' rfl X'
    exact ⟨t2, st.trans a1, b1⟩
end
/-! ===== END ===== -/
/-! ===== BEGIN .. a constant ===== -/
section
variable {p : Program} {l : Launch} {e : Env} {R : Room} {s : State} {m : MethodId} {args : Array Value} {below : List Frame} {meth : Method} {c : Code} {H : Heap} {locs : List Loc} {cells slots : Nat} {Q : State → Prop}
variable {mc ms : Nat} {free : Addr → Prop} {A0 A1 : Nat → Prop} {H0 : Heap} {a : Array Value} {pc : Nat} {ls : Array Slot} {st0 rest : List Value}
theorem vx_calle {ad : Nat → Nat} {S SX : Type} {post : Option Nat → S → Prop} {px : SX → Prop} {B : S → State → Prop} {BX : String → SX → State → Prop} {AX : Nat → Prop} (hr : vx_Run p l e R s m args below meth c H locs cells slots mc ms (F0 m pc ls st0) rest (va_Qe ad post B A1 a) (vx_X px BX AX) free) (hS : va_S A0 H0 H locs) (hA : ∀ q, q < H.size → A1 q → A0 q) (hf : ∀ q, free q → A0 q) (hAX : ∀ q, q < H.size → AX q → A0 q)
    (kx : ∀ (E : String) (ce : Cell) (q9 : Addr) (u : SX) (t : State) (H1 : Heap) (locs1 : List Loc), t.heap = H1 → s.vm.Alike t.vm → px u → BX E u t → H.size ≤ H1.size → (∀ q : Nat, q < H.size → ¬ AX q → H1[q]? = H[q]?) → va_S A0 H0 H1 locs1 → H1[q9]? = some ce → ce.vm = .none → s.vm.findClass E = some ce.cls → vx_W p l e R s m args below meth c H1 locs1 (cells + mc) (slots + ms) Q (F0 m pc ls rest) q9)
    (kk : ∀ (r : Option Nat) (u : S) (t : State) (H1 : Heap) (locs1 : List Loc), t.heap = H1 → s.vm.Alike t.vm → post r u → B u t → H.size ≤ H1.size → (∀ q : Nat, q < H.size → ¬ A1 q → H1[q]? = H[q]?) → va_S A0 H0 H1 locs1 → W p l e R s m args below meth c H1 locs1 (cells + mc) (slots + ms) Q (F0 m (pc + 3) ls (va_re ad r :: rest))) : W p l e R s m args below meth c H locs cells slots Q (F0 m pc ls st0) := by
  intro T hT X
  rcases hr T hT X with ⟨v, st₀, t, T', L, h0, X', hL, e1, e2, ⟨⟨r, u, hv, hp, hb⟩, hF⟩, st⟩ | ⟨q, st₀, t, T', L, E, ce, h0, X', hL, e1, e2, ⟨u, hp, hb, hF⟩, hce, hcv, hcl, st⟩
  · cases hv
    obtain ⟨k1, k2, k3⟩ := vx_keep h0 e1 hS hA hf hL hF
    obtain ⟨t2, a1, b1⟩ := kk r u t T'.heap (locs ++ L) e1.symm (by rw [← e2]; exact X'.warmed.alike) hp hb k1 k2 k3 T' rfl X'
    exact ⟨t2, st t2 a1, b1⟩
  · obtain ⟨k1, k2, k3⟩ := vx_keep h0 e1 hS hAX hf hL hF
    obtain ⟨t2, a1, b1⟩ := kx E ce q u t T'.heap (locs ++ L) e1.symm (by rw [← e2]; exact X'.warmed.alike) hp hb k1 k2 k3 (by rw [e1]; exact hce) hcv hcl T' rfl X'
    exact ⟨t2, st.trans a1, b1⟩
end
/-! ===== END ===== -/
/-! ===== BEGIN .. by an interface, an object ===== -/
section
variable {p : Program} {l : Launch} {e : Env} {R : Room} {s : State} {m : MethodId} {args : Array Value} {below : List Frame} {meth : Method} {c : Code} {H : Heap} {locs : List Loc} {cells slots : Nat} {Q : State → Prop}
variable {mc ms : Nat} {free : Addr → Prop} {A0 A1 : Nat → Prop} {H0 : Heap} {a : Array Value} {pc : Nat} {ls : Array Slot} {st0 rest : List Value}
theorem vx_callFq {S SX : Type} {post : Option Nat → S → Prop} {px : SX → Prop} {B : S → State → Prop} {BX : String → SX → State → Prop} {AX : Nat → Prop} (hr : vx_Run5 p l e R s m args below meth c H locs cells slots mc ms (F0 m pc ls st0) rest (va_Qq post B A1 a) (vx_X px BX AX) free) (hS : va_S A0 H0 H locs) (hA : ∀ q, q < H.size → A1 q → A0 q) (hf : ∀ q, free q → A0 q) (hAX : ∀ q, q < H.size → AX q → A0 q)
    (kx : ∀ (E : String) (ce : Cell) (q9 : Addr) (u : SX) (t : State) (H1 : Heap) (locs1 : List Loc), t.heap = H1 → s.vm.Alike t.vm → px u → BX E u t → H.size ≤ H1.size → (∀ q : Nat, q < H.size → ¬ AX q → H1[q]? = H[q]?) → va_S A0 H0 H1 locs1 → H1[q9]? = some ce → ce.vm = .none → s.vm.findClass E = some ce.cls → vx_W p l e R s m args below meth c H1 locs1 (cells + mc) (slots + ms) Q (F0 m pc ls rest) q9)
    (kk : ∀ (r : Option Nat) (u : S) (t : State) (H1 : Heap) (locs1 : List Loc), t.heap = H1 → s.vm.Alike t.vm → post r u → B u t → H.size ≤ H1.size → (∀ q : Nat, q < H.size → ¬ A1 q → H1[q]? = H[q]?) → va_S A0 H0 H1 locs1 → W p l e R s m args below meth c H1 locs1 (cells + mc) (slots + ms) Q (F0 m (pc + 5) ls (va_rf r :: rest))) : W p l e R s m args below meth c H locs cells slots Q (F0 m pc ls st0) := by
  intro T hT X
  rcases hr T hT X with ⟨v, st₀, t, T', L, h0, X', hL, e1, e2, ⟨⟨r, u, hv, hp, hb⟩, hF⟩, st⟩ | ⟨q, st₀, t, T', L, E, ce, h0, X', hL, e1, e2, ⟨u, hp, hb, hF⟩, hce, hcv, hcl, st⟩
  · cases hv
    obtain ⟨k1, k2, k3⟩ := vx_keep h0 e1 hS hA hf hL hF
    obtain ⟨t2, a1, b1⟩ := kk r u t T'.heap (locs ++ L) e1.symm (by rw [← e2]; exact X'.warmed.alike) hp hb k1 k2 k3 T' rfl X'
    exact ⟨t2, st t2 a1, b1⟩
  · obtain ⟨k1, k2, k3⟩ := vx_keep h0 e1 hS hAX hf hL hF
    obtain ⟨t2, a1, b1⟩ := kx E ce q u t T'.heap (locs ++ L) e1.symm (by rw [← e2]; exact X'.warmed.alike) hp hb k1 k2 k3 (by rw [e1]; exact hce) hcv hcl T' rfl X'
    exact ⟨t2, st.trans a1, b1⟩
end
/-! ===== END ===== -/
/-! ===== BEGIN .. by an interface, a constant ===== -/
section
variable {p : Program} {l : Launch} {e : Env} {R : Room} {s : State} {m : MethodId} {args : Array Value} {below : List Frame} {meth : Method} {c : Code} {H : Heap} {locs : List Loc} {cells slots : Nat} {Q : State → Prop}
variable {mc ms : Nat} {free : Addr → Prop} {A0 A1 : Nat → Prop} {H0 : Heap} {a : Array Value} {pc : Nat} {ls : Array Slot} {st0 rest : List Value}
theorem vx_callFe {ad : Nat → Nat} {S SX : Type} {post : Option Nat → S → Prop} {px : SX → Prop} {B : S → State → Prop} {BX : String → SX → State → Prop} {AX : Nat → Prop} (hr : vx_Run5 p l e R s m args below meth c H locs cells slots mc ms (F0 m pc ls st0) rest (va_Qe ad post B A1 a) (vx_X px BX AX) free) (hS : va_S A0 H0 H locs) (hA : ∀ q, q < H.size → A1 q → A0 q) (hf : ∀ q, free q → A0 q) (hAX : ∀ q, q < H.size → AX q → A0 q)
    (kx : ∀ (E : String) (ce : Cell) (q9 : Addr) (u : SX) (t : State) (H1 : Heap) (locs1 : List Loc), t.heap = H1 → s.vm.Alike t.vm → px u → BX E u t → H.size ≤ H1.size → (∀ q : Nat, q < H.size → ¬ AX q → H1[q]? = H[q]?) → va_S A0 H0 H1 locs1 → H1[q9]? = some ce → ce.vm = .none → s.vm.findClass E = some ce.cls → vx_W p l e R s m args below meth c H1 locs1 (cells + mc) (slots + ms) Q (F0 m pc ls rest) q9)
    (kk : ∀ (r : Option Nat) (u : S) (t : State) (H1 : Heap) (locs1 : List Loc), t.heap = H1 → s.vm.Alike t.vm → post r u → B u t → H.size ≤ H1.size → (∀ q : Nat, q < H.size → ¬ A1 q → H1[q]? = H[q]?) → va_S A0 H0 H1 locs1 → W p l e R s m args below meth c H1 locs1 (cells + mc) (slots + ms) Q (F0 m (pc + 5) ls (va_re ad r :: rest))) : W p l e R s m args below meth c H locs cells slots Q (F0 m pc ls st0) := by
  intro T hT X
  rcases hr T hT X with ⟨v, st₀, t, T', L, h0, X', hL, e1, e2, ⟨⟨r, u, hv, hp, hb⟩, hF⟩, st⟩ | ⟨q, st₀, t, T', L, E, ce, h0, X', hL, e1, e2, ⟨u, hp, hb, hF⟩, hce, hcv, hcl, st⟩
  · cases hv
    obtain ⟨k1, k2, k3⟩ := vx_keep h0 e1 hS hA hf hL hF
    obtain ⟨t2, a1, b1⟩ := kk r u t T'.heap (locs ++ L) e1.symm (by rw [← e2]; exact X'.warmed.alike) hp hb k1 k2 k3 T' rfl X'
    exact ⟨t2, st t2 a1, b1⟩
  · obtain ⟨k1, k2, k3⟩ := vx_keep h0 e1 hS hAX hf hL hF
    obtain ⟨t2, a1, b1⟩ := kx E ce q u t T'.heap (locs ++ L) e1.symm (by rw [← e2]; exact X'.warmed.alike) hp hb k1 k2 k3 (by rw [e1]; exact hce) hcv hcl T' rfl X'
    exact ⟨t2, st.trans a1, b1⟩
end
/-! ===== END ===== -/
/-! ===== BEGIN what the machine throws by itself: null at a field, at athrow ===== -/
section VXM2
variable {p : Program} {l : Launch} {e : Env} {R : Room} {s : State} {m : MethodId} {args : Array Value} {below : List Frame} {meth : Method} {c : Code} {H : Heap} {locs : List Loc} {cells slots : Nat}
variable {Q : State → Prop} {cc : ByteArray} {pc : Nat} {ls : Array Slot} {rest : List Value}
theorem vx_getfN {D cl tys} {own ref C : String} {T : u_T} {N ci index : Nat} {Ts : List Cond} (hexec : p.tables.exec = Jvm.exec) (hb : c.code = cc) (hts : ∀ w ∈ Ts, w.before args s = true) (hin : ∀ w ∈ u_ws C T N, w ∈ Ts) (hown : s.vm.findClass own = some m.cls) (hK : va_K D cl tys s) (hc : cl[ci]? = some (C, T, N)) (k : Nat) (hk : k < N) (hlink : (Cond.fieldLink own index ref (T k).2.1 (T k).2.2.1).before args s = true) (hsame : ∀ x, s.fieldFound? (T k).1 (T k).2.1 (T k).2.2.1 = some x → s.fieldFound? ref (T k).2.1 (T k).2.2.1 = some x) (hdg : decode cc pc = .ok (.getfield index, 3)) (kk : vx_NoteN p l e R s m args below meth c H locs cells slots Q (F0 m pc ls rest)) : W p l e R s m args below meth c H locs cells slots Q (F0 m pc ls (.null :: rest)) := by
  obtain ⟨hS, hfc, kC, hkC, -⟩ := hK.1 ci _ hc
  obtain ⟨cf, kf, fi, f, hi, -⟩ := hS k hk
  intro U hU X
  obtain ⟨vm', X1, st1⟩ := X.getfieldNull hexec hown hlink (hsame _ hi) (u_facts hfc hkC (u_lays hts hin hk) hi).1 (g := F0 m pc ls (.null :: rest)) rfl (rest := rest) rfl (by rw [hb]; exact hdg)
  obtain ⟨t, st, q⟩ := kk (U.setVm vm') hU X1
  exact ⟨t, st1 t st, q⟩
theorem vx_getfNN {D cl tys} {own ref C host : String} {T : u_T} {N ci index : Nat} {Ts : List Cond} (hexec : p.tables.exec = Jvm.exec) (hb : c.code = cc) (hts : ∀ w ∈ Ts, w.before args s = true) (hin : ∀ w ∈ u_ws C T N, w ∈ Ts) (hown : s.vm.findClass own = some m.cls) (hK : va_K D cl tys s) (hc : cl[ci]? = some (C, T, N)) (k : Nat) (hk : k < N) (hlink : (Cond.fieldLinkNest own index ref (T k).2.1 (T k).2.2.1 host).before args s = true) (hsame : ∀ x, s.fieldFound? (T k).1 (T k).2.1 (T k).2.2.1 = some x → s.fieldFound? ref (T k).2.1 (T k).2.2.1 = some x) (hdg : decode cc pc = .ok (.getfield index, 3)) (kk : vx_NoteN p l e R s m args below meth c H locs cells slots Q (F0 m pc ls rest)) : W p l e R s m args below meth c H locs cells slots Q (F0 m pc ls (.null :: rest)) := by
  obtain ⟨hS, hfc, kC, hkC, -⟩ := hK.1 ci _ hc
  obtain ⟨cf, kf, fi, f, hi, -⟩ := hS k hk
  intro U hU X
  obtain ⟨vm', X1, st1⟩ := X.getfieldNullNest hexec hown hlink (hsame _ hi) (u_facts hfc hkC (u_lays hts hin hk) hi).1 (g := F0 m pc ls (.null :: rest)) rfl (rest := rest) rfl (by rw [hb]; exact hdg)
  obtain ⟨t, st, q⟩ := kk (U.setVm vm') hU X1
  exact ⟨t, st1 t st, q⟩
theorem vx_putfN {D cl tys} {own ref C : String} {T : u_T} {N ci index : Nat} {Ts : List Cond} (hexec : p.tables.exec = Jvm.exec) (hb : c.code = cc) (hts : ∀ w ∈ Ts, w.before args s = true) (hin : ∀ w ∈ u_ws C T N, w ∈ Ts) (hown : s.vm.findClass own = some m.cls) (hK : va_K D cl tys s) (hc : cl[ci]? = some (C, T, N)) (k : Nat) (hk : k < N) (hlink : (Cond.fieldLink own index ref (T k).2.1 (T k).2.2.1).before args s = true) (hsame : ∀ x, s.fieldFound? (T k).1 (T k).2.1 (T k).2.2.1 = some x → s.fieldFound? ref (T k).2.1 (T k).2.2.1 = some x) (hfin : (T k).2.2.2 = false) {v : Value} (hdg : decode cc pc = .ok (.putfield index, 3)) (kk : vx_NoteN p l e R s m args below meth c H locs cells slots Q (F0 m pc ls rest)) : W p l e R s m args below meth c H locs cells slots Q (F0 m pc ls (v :: .null :: rest)) := by
  obtain ⟨hS, hfc, kC, hkC, -⟩ := hK.1 ci _ hc
  obtain ⟨cf, kf, fi, f, hi, -⟩ := hS k hk
  have hlay := hts _ (hin _ (u_in_lay hk))
  unfold u_lay at hlay
  rw [if_neg (by rw [hfin]; decide)] at hlay
  obtain ⟨c9, k9, cf9, kf9, fi9, f9, -, -, hi9, hst9, hnf9, -⟩ := Cond.lays_spec hlay
  cases hi.symm.trans hi9
  intro U hU X
  obtain ⟨vm', X1, st1⟩ := X.putfieldNull hexec hown hlink (hsame _ hi) hst9 hnf9 (g := F0 m pc ls (v :: .null :: rest)) rfl (v := v) (rest := rest) rfl (by rw [hb]; exact hdg)
  obtain ⟨t, st, q⟩ := kk (U.setVm vm') hU X1
  exact ⟨t, st1 t st, q⟩
theorem vx_putfNN {D cl tys} {own ref C host : String} {T : u_T} {N ci index : Nat} {Ts : List Cond} (hexec : p.tables.exec = Jvm.exec) (hb : c.code = cc) (hts : ∀ w ∈ Ts, w.before args s = true) (hin : ∀ w ∈ u_ws C T N, w ∈ Ts) (hown : s.vm.findClass own = some m.cls) (hK : va_K D cl tys s) (hc : cl[ci]? = some (C, T, N)) (k : Nat) (hk : k < N) (hlink : (Cond.fieldLinkNest own index ref (T k).2.1 (T k).2.2.1 host).before args s = true) (hsame : ∀ x, s.fieldFound? (T k).1 (T k).2.1 (T k).2.2.1 = some x → s.fieldFound? ref (T k).2.1 (T k).2.2.1 = some x) (hfin : (T k).2.2.2 = false) {v : Value} (hdg : decode cc pc = .ok (.putfield index, 3)) (kk : vx_NoteN p l e R s m args below meth c H locs cells slots Q (F0 m pc ls rest)) : W p l e R s m args below meth c H locs cells slots Q (F0 m pc ls (v :: .null :: rest)) := by
  obtain ⟨hS, hfc, kC, hkC, -⟩ := hK.1 ci _ hc
  obtain ⟨cf, kf, fi, f, hi, -⟩ := hS k hk
  have hlay := hts _ (hin _ (u_in_lay hk))
  unfold u_lay at hlay
  rw [if_neg (by rw [hfin]; decide)] at hlay
  obtain ⟨c9, k9, cf9, kf9, fi9, f9, -, -, hi9, hst9, hnf9, -⟩ := Cond.lays_spec hlay
  cases hi.symm.trans hi9
  intro U hU X
  obtain ⟨vm', X1, st1⟩ := X.putfieldNullNest hexec hown hlink (hsame _ hi) hst9 hnf9 (g := F0 m pc ls (v :: .null :: rest)) rfl (v := v) (rest := rest) rfl (by rw [hb]; exact hdg)
  obtain ⟨t, st, q⟩ := kk (U.setVm vm') hU X1
  exact ⟨t, st1 t st, q⟩
theorem vx_athrowN (hexec : p.tables.exec = Jvm.exec) (hb : c.code = cc) (hdg : decode cc pc = .ok (.athrow, 1)) (k : vx_NoteN p l e R s m args below meth c H locs cells slots Q (F0 m pc ls rest)) : W p l e R s m args below meth c H locs cells slots Q (F0 m pc ls (.null :: rest)) := by
  intro T hT X
  obtain ⟨t, st, q⟩ := k T hT X
  exact ⟨t, X.athrowNull hexec (g := F0 m pc ls (.null :: rest)) rfl (rest := rest) rfl (by rw [hb]; exact hdg) t st, q⟩
end VXM2
/-! ===== END ===== -/
end
section
def RX0 : String := "ModedMill$Breadth"
def TX0 : u_T := fun k => match k with
  | 0 => ("ModedMill$Breadth", "program", "LModedMill$Program;", true)
  | 1 => ("ModedMill$Breadth", "store", "LModedMill$Terms;", true)
  | 2 => ("ModedMill$Breadth", "nodes", "LModedMill$Table;", true)
  | 3 => ("ModedMill$Breadth", "groundCount", "I", false)
  | 4 => ("ModedMill$Breadth", "variables", "LModedMill$Table;", true)
  | 5 => ("ModedMill$Breadth", "cells", "LModedMill$Table;", true)
  | 6 => ("ModedMill$Breadth", "lists", "LModedMill$Table;", true)
  | 7 => ("ModedMill$Breadth", "row", "LModedMill$Table;", true)
  | 8 => ("ModedMill$Breadth", "front", "I", false)
  | 9 => ("ModedMill$Breadth", "bindings", "LModedMill$Table;", true)
  | 10 => ("ModedMill$Breadth", "levels", "LModedMill$Table;", true)
  | 11 => ("ModedMill$Breadth", "work", "LModedMill$Table;", true)
  | 12 => ("ModedMill$Breadth", "taken", "I", false)
  | 13 => ("ModedMill$Breadth", "restored", "I", false)
  | _ => ("ModedMill$Breadth", "round", "I", false)
def tyX0 : Nat → FieldType := fun k => match k with
  | 0 => .object "ModedMill$Program"
  | 1 => .object "ModedMill$Terms"
  | 2 => .object "ModedMill$Table"
  | 3 => .int
  | 4 => .object "ModedMill$Table"
  | 5 => .object "ModedMill$Table"
  | 6 => .object "ModedMill$Table"
  | 7 => .object "ModedMill$Table"
  | 8 => .int
  | 9 => .object "ModedMill$Table"
  | 10 => .object "ModedMill$Table"
  | 11 => .object "ModedMill$Table"
  | 12 => .int
  | 13 => .int
  | _ => .int
abbrev wsX00 : List Cond := u_ws RX0 TX0 15
theorem nmX0 : ∀ a, a < 15 → ∀ b, b < 15 → a ≠ b → (TX0 a).2.1 ≠ (TX0 b).2.1 := by decide +kernel
theorem tyX0_ok : ∀ k, k < 15 → parseFieldDescriptor (TX0 k).2.2.1 = some (tyX0 k) := by decide +kernel
abbrev cX0_init : ByteArray := prog_2_method_1_code
def yX0_init : MethodName := ⟨RX0, "<init>", "(LModedMill$Program;LModedMill$Terms;)V"⟩
def RX1 : String := "ModedMill$Clause"
def TX1 : u_T := fun k => match k with
  | 0 => ("ModedMill$Clause", "number", "I", true)
  | 1 => ("ModedMill$Clause", "predicate", "LModedMill$Predicate;", true)
  | 2 => ("ModedMill$Clause", "types", "LModedMill$Table;", true)
  | 3 => ("ModedMill$Clause", "goals", "Ljava/util/ArrayList;", true)
  | 4 => ("ModedMill$Clause", "lengths", "[I", true)
  | 5 => ("ModedMill$Clause", "numbers", "[I", true)
  | 6 => ("ModedMill$Clause", "ordered", "[LModedMill$Goal;", true)
  | 7 => ("ModedMill$Clause", "chosen", "[LModedMill$Mode;", true)
  | _ => ("ModedMill$Clause", "known", "[I", true)
def RX2 : String := "ModedMill$Frame"
def TX2 : u_T := fun k => match k with
  | 0 => ("ModedMill$Frame", "number", "I", true)
  | 1 => ("ModedMill$Frame", "values", "[I", true)
  | 2 => ("ModedMill$Frame", "mode", "LModedMill$Mode;", false)
  | 3 => ("ModedMill$Frame", "caller", "LModedMill$Frame;", false)
  | 4 => ("ModedMill$Frame", "backTo", "I", false)
  | 5 => ("ModedMill$Frame", "depth", "I", false)
  | 6 => ("ModedMill$Frame", "clause", "LModedMill$Clause;", false)
  | 7 => ("ModedMill$Frame", "isDenied", "Z", false)
  | 8 => ("ModedMill$Frame", "outerDenied", "LModedMill$Frame;", false)
  | _ => ("ModedMill$Frame", "choicesBefore", "I", false)
def RX3 : String := "ModedMill$Goal"
def TX3 : u_T := fun k => match k with
  | 0 => ("ModedMill$Goal", "kind", "I", true)
  | 1 => ("ModedMill$Goal", "subject", "I", true)
  | 2 => ("ModedMill$Goal", "count", "I", true)
  | _ => ("ModedMill$Goal", "variables", "[I", true)
def RX4 : String := "ModedMill$Machine"
def TX4 : u_T := fun k => match k with
  | 0 => ("ModedMill$Machine", "store", "LModedMill$Terms;", true)
  | 1 => ("ModedMill$Machine", "frames", "Ljava/util/ArrayList;", true)
  | 2 => ("ModedMill$Machine", "choices", "LModedMill$Table;", true)
  | 3 => ("ModedMill$Machine", "trail", "LModedMill$Table;", true)
  | 4 => ("ModedMill$Machine", "report", "LModedMill$Report;", false)
  | 5 => ("ModedMill$Machine", "used", "I", false)
  | 6 => ("ModedMill$Machine", "current", "LModedMill$Frame;", false)
  | 7 => ("ModedMill$Machine", "place", "I", false)
  | 8 => ("ModedMill$Machine", "denied", "LModedMill$Frame;", false)
  | 9 => ("ModedMill$Machine", "isFailing", "Z", false)
  | 10 => ("ModedMill$Machine", "isOver", "Z", false)
  | _ => ("ModedMill$Machine", "isFull", "Z", false)
def tyX4 : Nat → FieldType := fun k => match k with
  | 0 => .object "ModedMill$Terms"
  | 1 => .object "java/util/ArrayList"
  | 2 => .object "ModedMill$Table"
  | 3 => .object "ModedMill$Table"
  | 4 => .object "ModedMill$Report"
  | 5 => .int
  | 6 => .object "ModedMill$Frame"
  | 7 => .int
  | 8 => .object "ModedMill$Frame"
  | 9 => .boolean
  | 10 => .boolean
  | _ => .boolean
abbrev wsX40 : List Cond := u_ws RX4 TX4 12
theorem nmX4 : ∀ a, a < 12 → ∀ b, b < 12 → a ≠ b → (TX4 a).2.1 ≠ (TX4 b).2.1 := by decide +kernel
theorem tyX4_ok : ∀ k, k < 12 → parseFieldDescriptor (TX4 k).2.2.1 = some (tyX4 k) := by decide +kernel
abbrev cX4_init : ByteArray := prog_6_method_1_code
def yX4_init : MethodName := ⟨RX4, "<init>", "(LModedMill$Terms;LModedMill$Report;)V"⟩
def RX5 : String := "ModedMill$Mode"
def TX5 : u_T := fun k => match k with
  | 0 => ("ModedMill$Mode", "predicate", "LModedMill$Predicate;", true)
  | 1 => ("ModedMill$Mode", "number", "I", true)
  | 2 => ("ModedMill$Mode", "inputs", "I", true)
  | 3 => ("ModedMill$Mode", "promise", "C", true)
  | 4 => ("ModedMill$Mode", "lost", "Z", false)
  | 5 => ("ModedMill$Mode", "good", "Z", false)
  | 6 => ("ModedMill$Mode", "canFail", "Z", false)
  | 7 => ("ModedMill$Mode", "canRepeat", "Z", false)
  | _ => ("ModedMill$Mode", "switchPlace", "I", false)
def RX6 : String := "ModedMill$Predicate"
def TX6 : u_T := fun k => match k with
  | 0 => ("ModedMill$Predicate", "number", "I", true)
  | 1 => ("ModedMill$Predicate", "types", "LModedMill$Table;", true)
  | 2 => ("ModedMill$Predicate", "modes", "Ljava/util/ArrayList;", true)
  | 3 => ("ModedMill$Predicate", "clauses", "Ljava/util/ArrayList;", true)
  | _ => ("ModedMill$Predicate", "question", "LModedMill$Goal;", true)
def RX7 : String := "ModedMill$Program"
def TX7 : u_T := fun k => match k with
  | 0 => ("ModedMill$Program", "predicates", "Ljava/util/ArrayList;", true)
  | 1 => ("ModedMill$Program", "modes", "Ljava/util/ArrayList;", true)
  | _ => ("ModedMill$Program", "clauses", "Ljava/util/ArrayList;", true)
def tyX7 : Nat → FieldType := fun k => match k with
  | 0 => .object "java/util/ArrayList"
  | 1 => .object "java/util/ArrayList"
  | _ => .object "java/util/ArrayList"
abbrev wsX70 : List Cond := u_ws RX7 TX7 3
theorem nmX7 : ∀ a, a < 3 → ∀ b, b < 3 → a ≠ b → (TX7 a).2.1 ≠ (TX7 b).2.1 := by decide +kernel
theorem tyX7_ok : ∀ k, k < 3 → parseFieldDescriptor (TX7 k).2.2.1 = some (tyX7 k) := by decide +kernel
abbrev cX7_init : ByteArray := prog_9_method_1_code
def yX7_init : MethodName := ⟨RX7, "<init>", "()V"⟩
def RX8 : String := "ModedMill$Report"
def TX8 : u_T := fun k => match k with
  | 0 => ("ModedMill$Report", "mode", "LModedMill$Mode;", false)
  | 1 => ("ModedMill$Report", "inputs", "LModedMill$Table;", true)
  | 2 => ("ModedMill$Report", "answers", "LModedMill$Table;", true)
  | 3 => ("ModedMill$Report", "notes", "LModedMill$Table;", true)
  | 4 => ("ModedMill$Report", "stepCount", "I", false)
  | 5 => ("ModedMill$Report", "choiceCount", "I", false)
  | 6 => ("ModedMill$Report", "deepestCall", "I", false)
  | 7 => ("ModedMill$Report", "end", "C", false)
  | 8 => ("ModedMill$Report", "isBreadthKnown", "Z", false)
  | _ => ("ModedMill$Report", "breadthCount", "I", false)
def tyX8 : Nat → FieldType := fun k => match k with
  | 0 => .object "ModedMill$Mode"
  | 1 => .object "ModedMill$Table"
  | 2 => .object "ModedMill$Table"
  | 3 => .object "ModedMill$Table"
  | 4 => .int
  | 5 => .int
  | 6 => .int
  | 7 => .char
  | 8 => .boolean
  | _ => .int
abbrev wsX80 : List Cond := u_ws RX8 TX8 10
theorem nmX8 : ∀ a, a < 10 → ∀ b, b < 10 → a ≠ b → (TX8 a).2.1 ≠ (TX8 b).2.1 := by decide +kernel
theorem tyX8_ok : ∀ k, k < 10 → parseFieldDescriptor (TX8 k).2.2.1 = some (tyX8 k) := by decide +kernel
abbrev cX8_init : ByteArray := prog_10_method_1_code
def yX8_init : MethodName := ⟨RX8, "<init>", "()V"⟩
def RX9 : String := "ModedMill$Table"
def TX9 : u_T := fun k => match k with
  | 0 => ("ModedMill$Table", "columns", "I", true)
  | 1 => ("ModedMill$Table", "cells", "[I", false)
  | _ => ("ModedMill$Table", "lines", "I", false)
def tyX9 : Nat → FieldType := fun k => match k with
  | 0 => .int
  | 1 => .array .int
  | _ => .int
abbrev wsX90 : List Cond := u_ws RX9 TX9 3
theorem nmX9 : ∀ a, a < 3 → ∀ b, b < 3 → a ≠ b → (TX9 a).2.1 ≠ (TX9 b).2.1 := by decide +kernel
theorem tyX9_ok : ∀ k, k < 3 → parseFieldDescriptor (TX9 k).2.2.1 = some (tyX9 k) := by decide +kernel
abbrev cX9_init : ByteArray := prog_11_method_1_code
def yX9_init : MethodName := ⟨RX9, "<init>", "(II)V"⟩
abbrev cX9_count : ByteArray := prog_11_method_2_code
def yX9_count : MethodName := ⟨RX9, "count", "()I"⟩
abbrev cX9_get : ByteArray := prog_11_method_3_code
def yX9_get : MethodName := ⟨RX9, "get", "(II)I"⟩
abbrev cX9_set : ByteArray := prog_11_method_4_code
def yX9_set : MethodName := ⟨RX9, "set", "(III)V"⟩
abbrev cX9_add : ByteArray := prog_11_method_5_code
def yX9_add : MethodName := ⟨RX9, "add", "(III)I"⟩
abbrev cX9_cut : ByteArray := prog_11_method_6_code
def yX9_cut : MethodName := ⟨RX9, "cut", "(I)V"⟩
def RX10 : String := "ModedMill$Terms"
def TX10 : u_T := fun k => match k with
  | 0 => ("ModedMill$Terms", "types", "I", false)
  | 1 => ("ModedMill$Terms", "constructors", "LModedMill$Table;", true)
  | 2 => ("ModedMill$Terms", "numbered", "LModedMill$Table;", true)
  | 3 => ("ModedMill$Terms", "chains", "LModedMill$Table;", true)
  | _ => ("ModedMill$Terms", "sizes", "[J", true)
def tyX10 : Nat → FieldType := fun k => match k with
  | 0 => .int
  | 1 => .object "ModedMill$Table"
  | 2 => .object "ModedMill$Table"
  | 3 => .object "ModedMill$Table"
  | _ => .array .long
abbrev wsX100 : List Cond := u_ws RX10 TX10 5
theorem nmX10 : ∀ a, a < 5 → ∀ b, b < 5 → a ≠ b → (TX10 a).2.1 ≠ (TX10 b).2.1 := by decide +kernel
theorem tyX10_ok : ∀ k, k < 5 → parseFieldDescriptor (TX10 k).2.2.1 = some (tyX10 k) := by decide +kernel
abbrev cX10_init : ByteArray := prog_12_method_1_code
def yX10_init : MethodName := ⟨RX10, "<init>", "()V"⟩
def RX11 : String := "ModedMill"
def TX11 : u_T := fun k => match k with
  | 0 => ("ModedMill", "store", "LModedMill$Terms;", true)
  | 1 => ("ModedMill", "program", "LModedMill$Program;", true)
  | 2 => ("ModedMill", "machine", "LModedMill$Machine;", true)
  | 3 => ("ModedMill", "breadth", "LModedMill$Breadth;", true)
  | 4 => ("ModedMill", "last", "LModedMill$Report;", false)
  | 5 => ("ModedMill", "spare", "LModedMill$Report;", false)
  | 6 => ("ModedMill", "isCompiled", "Z", false)
  | 7 => ("ModedMill", "asked", "I", false)
  | _ => ("ModedMill", "stepSum", "J", false)
def tyX11 : Nat → FieldType := fun k => match k with
  | 0 => .object "ModedMill$Terms"
  | 1 => .object "ModedMill$Program"
  | 2 => .object "ModedMill$Machine"
  | 3 => .object "ModedMill$Breadth"
  | 4 => .object "ModedMill$Report"
  | 5 => .object "ModedMill$Report"
  | 6 => .boolean
  | 7 => .int
  | _ => .long
abbrev wsX110 : List Cond := u_ws RX11 TX11 9
theorem nmX11 : ∀ a, a < 9 → ∀ b, b < 9 → a ≠ b → (TX11 a).2.1 ≠ (TX11 b).2.1 := by decide +kernel
theorem tyX11_ok : ∀ k, k < 9 → parseFieldDescriptor (TX11 k).2.2.1 = some (tyX11 k) := by decide +kernel
abbrev cX11_init : ByteArray := prog_1_method_1_code
def yX11_init : MethodName := ⟨RX11, "<init>", "()V"⟩
def RX12 : String := "ModedMillModel$Binding"
def TX12 : u_T := fun k => match k with
  | 0 => ("ModedMillModel$Binding", "unknown", "LModedMillModel$Node;", true)
  | 1 => ("ModedMillModel$Binding", "value", "LModedMillModel$Node;", true)
  | _ => ("ModedMillModel$Binding", "next", "LModedMillModel$Binding;", true)
def RX13 : String := "ModedMillModel$Choice"
def TX13 : u_T := fun k => match k with
  | 0 => ("ModedMillModel$Choice", "predicate", "I", true)
  | 1 => ("ModedMillModel$Choice", "mode", "I", true)
  | 2 => ("ModedMillModel$Choice", "arguments", "[I", true)
  | 3 => ("ModedMillModel$Choice", "caller", "LModedMillModel$Frame;", true)
  | 4 => ("ModedMillModel$Choice", "callerPlace", "I", true)
  | 5 => ("ModedMillModel$Choice", "depth", "I", true)
  | 6 => ("ModedMillModel$Choice", "bound", "I", true)
  | 7 => ("ModedMillModel$Choice", "below", "LModedMillModel$Choice;", true)
  | _ => ("ModedMillModel$Choice", "next", "I", false)
def RX14 : String := "ModedMillModel$Frame"
def TX14 : u_T := fun k => match k with
  | 0 => ("ModedMillModel$Frame", "clause", "I", true)
  | 1 => ("ModedMillModel$Frame", "mode", "I", true)
  | 2 => ("ModedMillModel$Frame", "caller", "LModedMillModel$Frame;", true)
  | 3 => ("ModedMillModel$Frame", "callerPlace", "I", true)
  | 4 => ("ModedMillModel$Frame", "depth", "I", true)
  | _ => ("ModedMillModel$Frame", "values", "[I", true)
def RX15 : String := "ModedMillModel$Item"
def TX15 : u_T := fun k => match k with
  | 0 => ("ModedMillModel$Item", "kind", "C", true)
  | 1 => ("ModedMillModel$Item", "what", "I", true)
  | 2 => ("ModedMillModel$Item", "x", "LModedMillModel$Node;", true)
  | 3 => ("ModedMillModel$Item", "y", "LModedMillModel$Node;", true)
  | 4 => ("ModedMillModel$Item", "z", "LModedMillModel$Node;", true)
  | _ => ("ModedMillModel$Item", "next", "LModedMillModel$Item;", true)
def RX16 : String := "ModedMillModel$Listed"
def TX16 : u_T := fun k => match k with
  | 0 => ("ModedMillModel$Listed", "items", "LModedMillModel$Item;", true)
  | 1 => ("ModedMillModel$Listed", "bindings", "LModedMillModel$Binding;", true)
  | _ => ("ModedMillModel$Listed", "next", "LModedMillModel$Listed;", false)
def RX17 : String := "ModedMillModel$Node"
def TX17 : u_T := fun k => match k with
  | 0 => ("ModedMillModel$Node", "constructor", "I", true)
  | 1 => ("ModedMillModel$Node", "first", "LModedMillModel$Node;", true)
  | 2 => ("ModedMillModel$Node", "second", "LModedMillModel$Node;", true)
  | _ => ("ModedMillModel$Node", "mark", "I", false)
def RX18 : String := "ModedMillModel"
def TX18 : u_T := fun k => match k with
  | 0 => ("ModedMillModel", "code", "I", false)
  | 1 => ("ModedMillModel", "isCompiled", "Z", false)
  | 2 => ("ModedMillModel", "types", "I", false)
  | 3 => ("ModedMillModel", "constructors", "I", false)
  | 4 => ("ModedMillModel", "typeOf", "[I", true)
  | 5 => ("ModedMillModel", "partType", "[I", true)
  | 6 => ("ModedMillModel", "terms", "I", false)
  | 7 => ("ModedMillModel", "termConstructor", "[I", true)
  | 8 => ("ModedMillModel", "termPart", "[I", true)
  | 9 => ("ModedMillModel", "termSize", "[J", true)
  | 10 => ("ModedMillModel", "predicates", "I", false)
  | 11 => ("ModedMillModel", "arity", "[I", true)
  | 12 => ("ModedMillModel", "argumentType", "[I", true)
  | 13 => ("ModedMillModel", "modes", "[I", true)
  | 14 => ("ModedMillModel", "inputs", "[I", true)
  | 15 => ("ModedMillModel", "promises", "[C", true)
  | 16 => ("ModedMillModel", "clauses", "I", false)
  | 17 => ("ModedMillModel", "clauseOf", "[I", true)
  | 18 => ("ModedMillModel", "goals", "[I", true)
  | 19 => ("ModedMillModel", "variableType", "[I", true)
  | 20 => ("ModedMillModel", "goalKind", "[C", true)
  | 21 => ("ModedMillModel", "goalWhat", "[I", true)
  | 22 => ("ModedMillModel", "goalVariable", "[I", true)
  | 23 => ("ModedMillModel", "ordered", "[I", true)
  | 24 => ("ModedMillModel", "orderGoal", "[I", true)
  | 25 => ("ModedMillModel", "orderMode", "[I", true)
  | 26 => ("ModedMillModel", "orderKnown", "[I", true)
  | 27 => ("ModedMillModel", "isFaulty", "[Z", true)
  | 28 => ("ModedMillModel", "good", "[Z", true)
  | 29 => ("ModedMillModel", "canFail", "[Z", true)
  | 30 => ("ModedMillModel", "canMore", "[Z", true)
  | 31 => ("ModedMillModel", "switches", "[I", true)
  | 32 => ("ModedMillModel", "tried", "[I", true)
  | 33 => ("ModedMillModel", "questions", "I", false)
  | 34 => ("ModedMillModel", "allSteps", "J", false)
  | 35 => ("ModedMillModel", "isAsked", "Z", false)
  | 36 => ("ModedMillModel", "ending", "C", false)
  | 37 => ("ModedMillModel", "askedPredicate", "I", false)
  | 38 => ("ModedMillModel", "askedMode", "I", false)
  | 39 => ("ModedMillModel", "asked", "[I", true)
  | 40 => ("ModedMillModel", "answers", "I", false)
  | 41 => ("ModedMillModel", "answer", "[I", true)
  | 42 => ("ModedMillModel", "steps", "I", false)
  | 43 => ("ModedMillModel", "choicePoints", "I", false)
  | 44 => ("ModedMillModel", "deepest", "I", false)
  | 45 => ("ModedMillModel", "records", "I", false)
  | 46 => ("ModedMillModel", "recordKind", "[C", true)
  | 47 => ("ModedMillModel", "recordWhere", "[I", true)
  | 48 => ("ModedMillModel", "isOver", "Z", false)
  | 49 => ("ModedMillModel", "isFull", "Z", false)
  | 50 => ("ModedMillModel", "runAnswers", "I", false)
  | 51 => ("ModedMillModel", "runAnswer", "[I", true)
  | 52 => ("ModedMillModel", "runSteps", "I", false)
  | 53 => ("ModedMillModel", "runChoices", "I", false)
  | 54 => ("ModedMillModel", "runDeepest", "I", false)
  | 55 => ("ModedMillModel", "runRecords", "I", false)
  | 56 => ("ModedMillModel", "runKind", "[C", true)
  | 57 => ("ModedMillModel", "runWhere", "[I", true)
  | 58 => ("ModedMillModel", "bound", "I", false)
  | 59 => ("ModedMillModel", "boundFrame", "[LModedMillModel$Frame;", true)
  | 60 => ("ModedMillModel", "boundVariable", "[I", true)
  | 61 => ("ModedMillModel", "top", "LModedMillModel$Choice;", false)
  | 62 => ("ModedMillModel", "now", "LModedMillModel$Frame;", false)
  | 63 => ("ModedMillModel", "place", "I", false)
  | 64 => ("ModedMillModel", "taken", "I", false)
  | 65 => ("ModedMillModel", "stamp", "I", false)
  | 66 => ("ModedMillModel", "bindings", "LModedMillModel$Binding;", false)
  | 67 => ("ModedMillModel", "pairs", "I", false)
  | 68 => ("ModedMillModel", "pairOne", "[LModedMillModel$Node;", false)
  | _ => ("ModedMillModel", "pairOther", "[LModedMillModel$Node;", false)
def RJx00060 : String := "java/lang/ArrayIndexOutOfBoundsException"
def TJx00060 : u_T := fun k => match k with
  | 0 => ("java/lang/Throwable", "cause", "Ljava/lang/Throwable;", false)
  | 1 => ("java/lang/Throwable", "stackTrace", "[Ljava/lang/StackTraceElement;", false)
  | 2 => ("java/lang/Throwable", "suppressedExceptions", "Ljava/util/List;", false)
  | 3 => ("java/lang/Throwable", "detailMessage", "Ljava/lang/String;", false)
  | 4 => ("java/lang/Throwable", "backtrace", "Ljava/lang/Object;", false)
  | _ => ("java/lang/Throwable", "depth", "I", false)
abbrev wsJx000600 : List Cond := u_ws RJx00060 TJx00060 6
def RJ0 : String := "java/lang/String"
def TJ0 : u_T := fun k => match k with
  | 0 => ("java/lang/String", "value", "[B", true)
  | 1 => ("java/lang/String", "coder", "B", true)
  | 2 => ("java/lang/String", "hash", "I", false)
  | _ => ("java/lang/String", "hashIsZero", "Z", false)
def RJ4 : String := "java/lang/StringBuilder"
def TJ4 : u_T := fun k => match k with
  | 0 => ("java/lang/AbstractStringBuilder", "value", "[B", false)
  | 1 => ("java/lang/AbstractStringBuilder", "coder", "B", false)
  | 2 => ("java/lang/AbstractStringBuilder", "maybeLatin1", "Z", false)
  | _ => ("java/lang/AbstractStringBuilder", "count", "I", false)
abbrev wsJ40 : List Cond := u_ws RJ4 TJ4 4
def RJxa1e45 : String := "java/util/AbstractCollection"
def TJxa1e45 : u_T := fun k => match k with
  | _ => ("", "", "", false)
def tyJxa1e45 : Nat → FieldType := fun k => match k with
  | _ => .int
theorem nmJxa1e45 : ∀ a, a < 0 → ∀ b, b < 0 → a ≠ b → (TJxa1e45 a).2.1 ≠ (TJxa1e45 b).2.1 := by decide +kernel
theorem tyJxa1e45_ok : ∀ k, k < 0 → parseFieldDescriptor (TJxa1e45 k).2.2.1 = some (tyJxa1e45 k) := by decide +kernel
abbrev cJxa1e45_init_da8c8 : ByteArray := prog_47_method_1_code
def yJxa1e45_init_da8c8 : MethodName := ⟨RJxa1e45, "<init>", "()V"⟩
def RJxc12de : String := "java/util/AbstractList"
def TJxc12de : u_T := fun k => match k with
  | _ => ("", "", "", false)
def tyJxc12de : Nat → FieldType := fun k => match k with
  | _ => .int
theorem nmJxc12de : ∀ a, a < 0 → ∀ b, b < 0 → a ≠ b → (TJxc12de a).2.1 ≠ (TJxc12de b).2.1 := by decide +kernel
theorem tyJxc12de_ok : ∀ k, k < 0 → parseFieldDescriptor (TJxc12de k).2.2.1 = some (tyJxc12de k) := by decide +kernel
abbrev cJxc12de_init_da8c8 : ByteArray := prog_48_method_1_code
def yJxc12de_init_da8c8 : MethodName := ⟨RJxc12de, "<init>", "()V"⟩
def RJx4a65c : String := "java/util/ArrayList"
def TJx4a65c : u_T := fun k => match k with
  | 0 => ("java/util/AbstractList", "modCount", "I", false)
  | 1 => ("java/util/ArrayList", "elementData", "[Ljava/lang/Object;", false)
  | _ => ("java/util/ArrayList", "size", "I", false)
def tyJx4a65c : Nat → FieldType := fun k => match k with
  | 0 => .int
  | 1 => .array (.object "java/lang/Object")
  | _ => .int
abbrev wsJx4a65c0 : List Cond := u_ws RJx4a65c TJx4a65c 3
theorem nmJx4a65c : ∀ a, a < 3 → ∀ b, b < 3 → a ≠ b → (TJx4a65c a).2.1 ≠ (TJx4a65c b).2.1 := by decide +kernel
theorem tyJx4a65c_ok : ∀ k, k < 3 → parseFieldDescriptor (TJx4a65c k).2.2.1 = some (tyJx4a65c k) := by decide +kernel
abbrev cJx4a65c_init_da8c8 : ByteArray := prog_49_method_2_code
def yJx4a65c_init_da8c8 : MethodName := ⟨RJx4a65c, "<init>", "()V"⟩
def RJ7 : String := "java/util/Arrays"
def TJ7 : u_T := fun k => match k with
  | _ => ("", "", "", false)
def tyJ7 : Nat → FieldType := fun k => match k with
  | _ => .int
theorem nmJ7 : ∀ a, a < 0 → ∀ b, b < 0 → a ≠ b → (TJ7 a).2.1 ≠ (TJ7 b).2.1 := by decide +kernel
theorem tyJ7_ok : ∀ k, k < 0 → parseFieldDescriptor (TJ7 k).2.2.1 = some (tyJ7 k) := by decide +kernel
abbrev cJ7_rangeCheck_23922 : ByteArray := prog_50_method_30_code
def yJ7_rangeCheck_23922 : MethodName := ⟨RJ7, "rangeCheck", "(III)V"⟩
abbrev cJ7_fill_fda19 : ByteArray := prog_50_method_104_code
def yJ7_fill_fda19 : MethodName := ⟨RJ7, "fill", "([IIII)V"⟩
abbrev cJ7_copyOf_59c91 : ByteArray := prog_50_method_123_code
def yJ7_copyOf_59c91 : MethodName := ⟨RJ7, "copyOf", "([II)[I"⟩
def wsX9_init : List Cond := .code yX9_init cX9_init 3 none :: ([.methodLink RX9 3 objectInit, .instanceMethod objectInit, .code objectInit ⟨#[0xb1]⟩ 1 none, .fieldLink RX9 9 "ModedMill$Table" "columns" "I", .constant RX9 15 (1000000), .arrayClass .int, .fieldLink RX9 16 "ModedMill$Table" "cells" "[I", .fieldLink RX9 20 "ModedMill$Table" "lines" "I"] ++ wsX90)
def wsX0_init_r1 : List Cond := [Cond.methodLink RX0 3 objectInit, Cond.instanceMethod objectInit, Cond.code objectInit ⟨#[0xb1]⟩ 1 none, Cond.fieldLink RX0 9 "ModedMill$Breadth" "program" "LModedMill$Program;", Cond.fieldLink RX0 15 "ModedMill$Breadth" "store" "LModedMill$Terms;", Cond.classLink RX0 19 RX9, Cond.instantiable RX9 3, Cond.initialized RX9, Cond.fieldLink RX0 24 "ModedMill$Breadth" "nodes" "LModedMill$Table;", Cond.fieldLink RX0 28 "ModedMill$Breadth" "variables" "LModedMill$Table;", Cond.fieldLink RX0 31 "ModedMill$Breadth" "cells" "LModedMill$Table;", Cond.fieldLink RX0 34 "ModedMill$Breadth" "lists" "LModedMill$Table;", Cond.fieldLink RX0 37 "ModedMill$Breadth" "row" "LModedMill$Table;", Cond.fieldLink RX0 40 "ModedMill$Breadth" "bindings" "LModedMill$Table;", Cond.fieldLink RX0 43 "ModedMill$Breadth" "levels" "LModedMill$Table;", Cond.fieldLink RX0 46 "ModedMill$Breadth" "work" "LModedMill$Table;", Cond.methodLink RX0 21 yX9_init, Cond.instanceMethod yX9_init, Cond.code yX9_init cX9_init 3 none, Cond.methodLink RX9 3 objectInit, Cond.fieldLink RX9 9 "ModedMill$Table" "columns" "I", Cond.constant RX9 15 (1000000), Cond.arrayClass .int, Cond.fieldLink RX9 16 "ModedMill$Table" "cells" "[I"]
def wsX0_init_r2 : List Cond := [Cond.fieldLink RX9 20 "ModedMill$Table" "lines" "I"]
def wsX0_init : List Cond := .code yX0_init cX0_init 3 none :: ((wsX0_init_r1 ++ wsX0_init_r2) ++ wsX00 ++ wsX90)
def wsX9_cut : List Cond := .code yX9_cut cX9_cut 2 none :: ([.fieldLink RX9 20 "ModedMill$Table" "lines" "I"] ++ wsX90)
def wsX9_count : List Cond := .code yX9_count cX9_count 1 (some .int) :: ([.fieldLink RX9 20 "ModedMill$Table" "lines" "I"] ++ wsX90)
def wsX9_get : List Cond := .code yX9_get cX9_get 5 (some .int) :: ([.fieldLink RX9 9 "ModedMill$Table" "columns" "I", .fieldLink RX9 20 "ModedMill$Table" "lines" "I", .fieldLink RX9 16 "ModedMill$Table" "cells" "[I"] ++ wsX90 ++ (vx_atM "java/lang/ArrayIndexOutOfBoundsException" ["java/lang/IndexOutOfBoundsException", "java/lang/RuntimeException", "java/lang/Exception"]).filter goodWord)
def wsJ7_rangeCheck_23922 : List Cond := .code yJ7_rangeCheck_23922 cJ7_rangeCheck_23922 3 none :: ([.classLink RJ7 45 RJ4, .instantiable RJ4 4, .initialized RJ4, .classLink RJ7 68 RJx00060, .instantiable RJx00060 6, .initialized RJx00060] ++ wsJ40 ++ wsJx000600)
def wsJ7_fill_fda19 : List Cond := .code yJ7_fill_fda19 cJ7_fill_fda19 5 none :: ([.methodLink RJ7 13 yJ7_rangeCheck_23922, .static yJ7_rangeCheck_23922, .initialized RJ7, .code yJ7_rangeCheck_23922 cJ7_rangeCheck_23922 3 none, .classLink RJ7 45 RJ4, .instantiable RJ4 4, .initialized RJ4, .classLink RJ7 68 RJx00060, .instantiable RJx00060 6, .initialized RJx00060] ++ wsJ40 ++ wsJx000600)
def wsX9_set : List Cond := .code yX9_set cX9_set 6 none :: ([.fieldLink RX9 9 "ModedMill$Table" "columns" "I", .fieldLink RX9 20 "ModedMill$Table" "lines" "I", .fieldLink RX9 16 "ModedMill$Table" "cells" "[I"] ++ wsX90 ++ (vx_atM "java/lang/ArrayIndexOutOfBoundsException" ["java/lang/IndexOutOfBoundsException", "java/lang/RuntimeException", "java/lang/Exception"]).filter goodWord)
def wsX9_add_r1 : List Cond := [Cond.fieldLink RX9 20 "ModedMill$Table" "lines" "I", Cond.fieldLink RX9 9 "ModedMill$Table" "columns" "I", Cond.fieldLink RX9 16 "ModedMill$Table" "cells" "[I", Cond.constant RX9 15 (1000000), Cond.methodLink RX9 23 yJ7_copyOf_59c91, Cond.static yJ7_copyOf_59c91, Cond.initialized RJ7, Cond.code yJ7_copyOf_59c91 cJ7_copyOf_59c91 3 (some (.array .int)), Cond.methodLink RJ7 316 ⟨"[I", "clone", "()Ljava/lang/Object;"⟩, Cond.sameMethod "[I" "java/lang/Object" "clone" "()Ljava/lang/Object;", Cond.native ⟨"java/lang/Object", "clone", "()Ljava/lang/Object;"⟩, Cond.instanceMethod ⟨"java/lang/Object", "clone", "()Ljava/lang/Object;"⟩, Cond.selects "[I" ⟨"[I", "clone", "()Ljava/lang/Object;"⟩ ⟨"java/lang/Object", "clone", "()Ljava/lang/Object;"⟩, Cond.classLink RJ7 317 "[I", Cond.arrayClass .int, Cond.methodLink RJ7 304 Lib.Math.min.name, Cond.static Lib.Math.min.name, Cond.initialized "java/lang/Math", Cond.code Lib.Math.min.name Lib.Math.min.code 2 (some .int), Cond.methodLink RJ7 150 arraycopyName, Cond.native arraycopyName, Cond.static arraycopyName, Cond.initialized "java/lang/System", Cond.methodLink RX9 29 yJ7_fill_fda19]
def wsX9_add_r2 : List Cond := [Cond.static yJ7_fill_fda19, Cond.code yJ7_fill_fda19 cJ7_fill_fda19 5 none, Cond.methodLink RJ7 13 yJ7_rangeCheck_23922, Cond.static yJ7_rangeCheck_23922, Cond.code yJ7_rangeCheck_23922 cJ7_rangeCheck_23922 3 none, Cond.classLink RJ7 45 RJ4, Cond.instantiable RJ4 4, Cond.initialized RJ4, Cond.classLink RJ7 68 RJx00060, Cond.instantiable RJx00060 6, Cond.initialized RJx00060, Cond.methodLink RX9 33 yX9_set, Cond.instanceMethod yX9_set, Cond.selects RX9 yX9_set yX9_set, Cond.initialized RX9, Cond.code yX9_set cX9_set 6 none]
def wsX9_add : List Cond := .code yX9_add cX9_add 6 (some .int) :: ((wsX9_add_r1 ++ wsX9_add_r2) ++ wsX90 ++ wsJ40 ++ wsJx000600 ++ (vx_atM "java/lang/ArrayIndexOutOfBoundsException" ["java/lang/IndexOutOfBoundsException", "java/lang/RuntimeException", "java/lang/Exception"]).filter goodWord)
def wsJxa1e45_init_da8c8 : List Cond := .code yJxa1e45_init_da8c8 cJxa1e45_init_da8c8 1 none :: ([.methodLink RJxa1e45 1 objectInit, .instanceMethod objectInit, .code objectInit ⟨#[0xb1]⟩ 1 none])
def wsJxc12de_init_da8c8 : List Cond := .code yJxc12de_init_da8c8 cJxc12de_init_da8c8 1 none :: ([.fieldLink RJxc12de 7 "java/util/AbstractList" "modCount" "I", .methodLink RJxc12de 1 yJxa1e45_init_da8c8, .instanceMethod yJxa1e45_init_da8c8, .initialized RJxa1e45, .code yJxa1e45_init_da8c8 cJxa1e45_init_da8c8 1 none, .methodLink RJxa1e45 1 objectInit, .instanceMethod objectInit, .code objectInit ⟨#[0xb1]⟩ 1 none] ++ wsJx4a65c0)
def wsJx4a65c_init_da8c8 : List Cond := .code yJx4a65c_init_da8c8 cJx4a65c_init_da8c8 1 none :: ([.fieldLink RJx4a65c 39 "java/util/ArrayList" "DEFAULTCAPACITY_EMPTY_ELEMENTDATA" "[Ljava/lang/Object;", .fieldLink RJx4a65c 9 "java/util/ArrayList" "elementData" "[Ljava/lang/Object;", .methodLink RJx4a65c 1 yJxc12de_init_da8c8, .instanceMethod yJxc12de_init_da8c8, .initialized RJxc12de, .code yJxc12de_init_da8c8 cJxc12de_init_da8c8 1 none, .fieldLink RJxc12de 7 "java/util/AbstractList" "modCount" "I", .methodLink RJxc12de 1 yJxa1e45_init_da8c8, .instanceMethod yJxa1e45_init_da8c8, .initialized RJxa1e45, .code yJxa1e45_init_da8c8 cJxa1e45_init_da8c8 1 none, .methodLink RJxa1e45 1 objectInit, .instanceMethod objectInit, .code objectInit ⟨#[0xb1]⟩ 1 none] ++ wsJx4a65c0)
def wsX4_init_r1 : List Cond := [Cond.methodLink RX4 3 objectInit, Cond.instanceMethod objectInit, Cond.code objectInit ⟨#[0xb1]⟩ 1 none, Cond.fieldLink RX4 9 "ModedMill$Machine" "store" "LModedMill$Terms;", Cond.fieldLink RX4 15 "ModedMill$Machine" "report" "LModedMill$Report;", Cond.classLink RX4 19 RJx4a65c, Cond.instantiable RJx4a65c 3, Cond.initialized RJx4a65c, Cond.fieldLink RX4 22 "ModedMill$Machine" "frames" "Ljava/util/ArrayList;", Cond.classLink RX4 26 RX9, Cond.instantiable RX9 3, Cond.initialized RX9, Cond.fieldLink RX4 31 "ModedMill$Machine" "choices" "LModedMill$Table;", Cond.fieldLink RX4 35 "ModedMill$Machine" "trail" "LModedMill$Table;", Cond.methodLink RX4 21 yJx4a65c_init_da8c8, Cond.instanceMethod yJx4a65c_init_da8c8, Cond.code yJx4a65c_init_da8c8 cJx4a65c_init_da8c8 1 none, Cond.fieldLink RJx4a65c 39 "java/util/ArrayList" "DEFAULTCAPACITY_EMPTY_ELEMENTDATA" "[Ljava/lang/Object;", Cond.fieldLink RJx4a65c 9 "java/util/ArrayList" "elementData" "[Ljava/lang/Object;", Cond.methodLink RJx4a65c 1 yJxc12de_init_da8c8, Cond.instanceMethod yJxc12de_init_da8c8, Cond.initialized RJxc12de, Cond.code yJxc12de_init_da8c8 cJxc12de_init_da8c8 1 none, Cond.fieldLink RJxc12de 7 "java/util/AbstractList" "modCount" "I"]
def wsX4_init_r2 : List Cond := [Cond.methodLink RJxc12de 1 yJxa1e45_init_da8c8, Cond.instanceMethod yJxa1e45_init_da8c8, Cond.initialized RJxa1e45, Cond.code yJxa1e45_init_da8c8 cJxa1e45_init_da8c8 1 none, Cond.methodLink RJxa1e45 1 objectInit, Cond.methodLink RX4 28 yX9_init, Cond.instanceMethod yX9_init, Cond.code yX9_init cX9_init 3 none, Cond.methodLink RX9 3 objectInit, Cond.fieldLink RX9 9 "ModedMill$Table" "columns" "I", Cond.constant RX9 15 (1000000), Cond.arrayClass .int, Cond.fieldLink RX9 16 "ModedMill$Table" "cells" "[I", Cond.fieldLink RX9 20 "ModedMill$Table" "lines" "I"]
def wsX4_init : List Cond := .code yX4_init cX4_init 3 none :: ((wsX4_init_r1 ++ wsX4_init_r2) ++ wsX40 ++ wsJx4a65c0 ++ wsX90)
def wsX7_init : List Cond := .code yX7_init cX7_init 1 none :: ([.methodLink RX7 3 objectInit, .instanceMethod objectInit, .code objectInit ⟨#[0xb1]⟩ 1 none, .classLink RX7 9 RJx4a65c, .instantiable RJx4a65c 3, .initialized RJx4a65c, .fieldLink RX7 12 "ModedMill$Program" "predicates" "Ljava/util/ArrayList;", .fieldLink RX7 18 "ModedMill$Program" "modes" "Ljava/util/ArrayList;", .fieldLink RX7 21 "ModedMill$Program" "clauses" "Ljava/util/ArrayList;", .methodLink RX7 11 yJx4a65c_init_da8c8, .instanceMethod yJx4a65c_init_da8c8, .code yJx4a65c_init_da8c8 cJx4a65c_init_da8c8 1 none, .fieldLink RJx4a65c 39 "java/util/ArrayList" "DEFAULTCAPACITY_EMPTY_ELEMENTDATA" "[Ljava/lang/Object;", .fieldLink RJx4a65c 9 "java/util/ArrayList" "elementData" "[Ljava/lang/Object;", .methodLink RJx4a65c 1 yJxc12de_init_da8c8, .instanceMethod yJxc12de_init_da8c8, .initialized RJxc12de, .code yJxc12de_init_da8c8 cJxc12de_init_da8c8 1 none, .fieldLink RJxc12de 7 "java/util/AbstractList" "modCount" "I", .methodLink RJxc12de 1 yJxa1e45_init_da8c8, .instanceMethod yJxa1e45_init_da8c8, .initialized RJxa1e45, .code yJxa1e45_init_da8c8 cJxa1e45_init_da8c8 1 none, .methodLink RJxa1e45 1 objectInit] ++ wsJx4a65c0 ++ wsX70)
def wsX8_init : List Cond := .code yX8_init cX8_init 1 none :: ([.methodLink RX8 3 objectInit, .instanceMethod objectInit, .code objectInit ⟨#[0xb1]⟩ 1 none, .fieldLink RX8 9 "ModedMill$Report" "mode" "LModedMill$Mode;", .classLink RX8 15 RX9, .instantiable RX9 3, .initialized RX9, .fieldLink RX8 20 "ModedMill$Report" "inputs" "LModedMill$Table;", .fieldLink RX8 24 "ModedMill$Report" "answers" "LModedMill$Table;", .fieldLink RX8 27 "ModedMill$Report" "notes" "LModedMill$Table;", .fieldLink RX8 30 "ModedMill$Report" "end" "C", .methodLink RX8 17 yX9_init, .instanceMethod yX9_init, .code yX9_init cX9_init 3 none, .methodLink RX9 3 objectInit, .fieldLink RX9 9 "ModedMill$Table" "columns" "I", .constant RX9 15 (1000000), .arrayClass .int, .fieldLink RX9 16 "ModedMill$Table" "cells" "[I", .fieldLink RX9 20 "ModedMill$Table" "lines" "I"] ++ wsX80 ++ wsX90)
def wsX10_init_r1 : List Cond := [Cond.methodLink RX10 3 objectInit, Cond.instanceMethod objectInit, Cond.code objectInit ⟨#[0xb1]⟩ 1 none, Cond.fieldLink RX10 9 "ModedMill$Terms" "types" "I", Cond.classLink RX10 15 RX9, Cond.instantiable RX9 3, Cond.initialized RX9, Cond.fieldLink RX10 20 "ModedMill$Terms" "constructors" "LModedMill$Table;", Cond.fieldLink RX10 24 "ModedMill$Terms" "numbered" "LModedMill$Table;", Cond.fieldLink RX10 27 "ModedMill$Terms" "chains" "LModedMill$Table;", Cond.arrayClass .long, Cond.fieldLink RX10 34 "ModedMill$Terms" "sizes" "[J", Cond.methodLink RX10 17 yX9_init, Cond.instanceMethod yX9_init, Cond.code yX9_init cX9_init 3 none, Cond.methodLink RX9 3 objectInit, Cond.fieldLink RX9 9 "ModedMill$Table" "columns" "I", Cond.constant RX9 15 (1000000), Cond.arrayClass .int, Cond.fieldLink RX9 16 "ModedMill$Table" "cells" "[I", Cond.fieldLink RX9 20 "ModedMill$Table" "lines" "I", Cond.methodLink RX10 30 yX9_add, Cond.instanceMethod yX9_add, Cond.selects RX9 yX9_add yX9_add]
def wsX10_init_r2 : List Cond := [Cond.code yX9_add cX9_add 6 (some .int), Cond.methodLink RX9 23 yJ7_copyOf_59c91, Cond.static yJ7_copyOf_59c91, Cond.initialized RJ7, Cond.code yJ7_copyOf_59c91 cJ7_copyOf_59c91 3 (some (.array .int)), Cond.methodLink RJ7 316 ⟨"[I", "clone", "()Ljava/lang/Object;"⟩, Cond.sameMethod "[I" "java/lang/Object" "clone" "()Ljava/lang/Object;", Cond.native ⟨"java/lang/Object", "clone", "()Ljava/lang/Object;"⟩, Cond.instanceMethod ⟨"java/lang/Object", "clone", "()Ljava/lang/Object;"⟩, Cond.selects "[I" ⟨"[I", "clone", "()Ljava/lang/Object;"⟩ ⟨"java/lang/Object", "clone", "()Ljava/lang/Object;"⟩, Cond.classLink RJ7 317 "[I", Cond.methodLink RJ7 304 Lib.Math.min.name, Cond.static Lib.Math.min.name, Cond.initialized "java/lang/Math", Cond.code Lib.Math.min.name Lib.Math.min.code 2 (some .int), Cond.methodLink RJ7 150 arraycopyName, Cond.native arraycopyName, Cond.static arraycopyName, Cond.initialized "java/lang/System", Cond.methodLink RX9 29 yJ7_fill_fda19, Cond.static yJ7_fill_fda19, Cond.code yJ7_fill_fda19 cJ7_fill_fda19 5 none, Cond.methodLink RJ7 13 yJ7_rangeCheck_23922, Cond.static yJ7_rangeCheck_23922]
def wsX10_init_r3 : List Cond := [Cond.code yJ7_rangeCheck_23922 cJ7_rangeCheck_23922 3 none, Cond.classLink RJ7 45 RJ4, Cond.instantiable RJ4 4, Cond.initialized RJ4, Cond.classLink RJ7 68 RJx00060, Cond.instantiable RJx00060 6, Cond.initialized RJx00060, Cond.methodLink RX9 33 yX9_set, Cond.instanceMethod yX9_set, Cond.selects RX9 yX9_set yX9_set, Cond.code yX9_set cX9_set 6 none]
def wsX10_init : List Cond := .code yX10_init cX10_init 2 none :: ((wsX10_init_r1 ++ (wsX10_init_r2 ++ wsX10_init_r3)) ++ wsX100 ++ wsX90 ++ wsJ40 ++ wsJx000600 ++ (vx_atM "java/lang/ArrayIndexOutOfBoundsException" ["java/lang/IndexOutOfBoundsException", "java/lang/RuntimeException", "java/lang/Exception"]).filter goodWord)
def wsX11_init_r1 : List Cond := [Cond.methodLink RX11 1 objectInit, Cond.instanceMethod objectInit, Cond.code objectInit ⟨#[0xb1]⟩ 1 none, Cond.classLink RX11 7 RX10, Cond.instantiable RX10 5, Cond.initialized RX10, Cond.fieldLink RX11 10 "ModedMill" "store" "LModedMill$Terms;", Cond.classLink RX11 16 RX7, Cond.instantiable RX7 3, Cond.initialized RX7, Cond.fieldLink RX11 19 "ModedMill" "program" "LModedMill$Program;", Cond.classLink RX11 23 RX8, Cond.instantiable RX8 10, Cond.initialized RX8, Cond.fieldLink RX11 26 "ModedMill" "last" "LModedMill$Report;", Cond.fieldLink RX11 30 "ModedMill" "spare" "LModedMill$Report;", Cond.classLink RX11 33 RX4, Cond.instantiable RX4 12, Cond.initialized RX4, Cond.fieldLink RX11 38 "ModedMill" "machine" "LModedMill$Machine;", Cond.classLink RX11 42 RX0, Cond.instantiable RX0 15, Cond.initialized RX0, Cond.fieldLink RX11 47 "ModedMill" "breadth" "LModedMill$Breadth;"]
def wsX11_init_r2 : List Cond := [Cond.fieldLink RX11 51 "ModedMill" "isCompiled" "Z", Cond.fieldLink RX11 55 "ModedMill" "asked" "I", Cond.fieldLink RX11 59 "ModedMill" "stepSum" "J", Cond.methodLink RX11 9 yX10_init, Cond.instanceMethod yX10_init, Cond.code yX10_init cX10_init 2 none, Cond.methodLink RX10 3 objectInit, Cond.fieldLink RX10 9 "ModedMill$Terms" "types" "I", Cond.classLink RX10 15 RX9, Cond.instantiable RX9 3, Cond.initialized RX9, Cond.fieldLink RX10 20 "ModedMill$Terms" "constructors" "LModedMill$Table;", Cond.fieldLink RX10 24 "ModedMill$Terms" "numbered" "LModedMill$Table;", Cond.fieldLink RX10 27 "ModedMill$Terms" "chains" "LModedMill$Table;", Cond.arrayClass .long, Cond.fieldLink RX10 34 "ModedMill$Terms" "sizes" "[J", Cond.methodLink RX10 17 yX9_init, Cond.instanceMethod yX9_init, Cond.code yX9_init cX9_init 3 none, Cond.methodLink RX9 3 objectInit, Cond.fieldLink RX9 9 "ModedMill$Table" "columns" "I", Cond.constant RX9 15 (1000000), Cond.arrayClass .int, Cond.fieldLink RX9 16 "ModedMill$Table" "cells" "[I"]
def wsX11_init_r3 : List Cond := [Cond.fieldLink RX9 20 "ModedMill$Table" "lines" "I", Cond.methodLink RX10 30 yX9_add, Cond.instanceMethod yX9_add, Cond.selects RX9 yX9_add yX9_add, Cond.code yX9_add cX9_add 6 (some .int), Cond.methodLink RX9 23 yJ7_copyOf_59c91, Cond.static yJ7_copyOf_59c91, Cond.initialized RJ7, Cond.code yJ7_copyOf_59c91 cJ7_copyOf_59c91 3 (some (.array .int)), Cond.methodLink RJ7 316 ⟨"[I", "clone", "()Ljava/lang/Object;"⟩, Cond.sameMethod "[I" "java/lang/Object" "clone" "()Ljava/lang/Object;", Cond.native ⟨"java/lang/Object", "clone", "()Ljava/lang/Object;"⟩, Cond.instanceMethod ⟨"java/lang/Object", "clone", "()Ljava/lang/Object;"⟩, Cond.selects "[I" ⟨"[I", "clone", "()Ljava/lang/Object;"⟩ ⟨"java/lang/Object", "clone", "()Ljava/lang/Object;"⟩, Cond.classLink RJ7 317 "[I", Cond.methodLink RJ7 304 Lib.Math.min.name, Cond.static Lib.Math.min.name, Cond.initialized "java/lang/Math", Cond.code Lib.Math.min.name Lib.Math.min.code 2 (some .int), Cond.methodLink RJ7 150 arraycopyName, Cond.native arraycopyName, Cond.static arraycopyName, Cond.initialized "java/lang/System", Cond.methodLink RX9 29 yJ7_fill_fda19]
def wsX11_init_r4 : List Cond := [Cond.static yJ7_fill_fda19, Cond.code yJ7_fill_fda19 cJ7_fill_fda19 5 none, Cond.methodLink RJ7 13 yJ7_rangeCheck_23922, Cond.static yJ7_rangeCheck_23922, Cond.code yJ7_rangeCheck_23922 cJ7_rangeCheck_23922 3 none, Cond.classLink RJ7 45 RJ4, Cond.instantiable RJ4 4, Cond.initialized RJ4, Cond.classLink RJ7 68 RJx00060, Cond.instantiable RJx00060 6, Cond.initialized RJx00060, Cond.methodLink RX9 33 yX9_set, Cond.instanceMethod yX9_set, Cond.selects RX9 yX9_set yX9_set, Cond.code yX9_set cX9_set 6 none, Cond.methodLink RX11 18 yX7_init, Cond.instanceMethod yX7_init, Cond.code yX7_init cX7_init 1 none, Cond.methodLink RX7 3 objectInit, Cond.classLink RX7 9 RJx4a65c, Cond.instantiable RJx4a65c 3, Cond.initialized RJx4a65c, Cond.fieldLink RX7 12 "ModedMill$Program" "predicates" "Ljava/util/ArrayList;", Cond.fieldLink RX7 18 "ModedMill$Program" "modes" "Ljava/util/ArrayList;"]
def wsX11_init_r5 : List Cond := [Cond.fieldLink RX7 21 "ModedMill$Program" "clauses" "Ljava/util/ArrayList;", Cond.methodLink RX7 11 yJx4a65c_init_da8c8, Cond.instanceMethod yJx4a65c_init_da8c8, Cond.code yJx4a65c_init_da8c8 cJx4a65c_init_da8c8 1 none, Cond.fieldLink RJx4a65c 39 "java/util/ArrayList" "DEFAULTCAPACITY_EMPTY_ELEMENTDATA" "[Ljava/lang/Object;", Cond.fieldLink RJx4a65c 9 "java/util/ArrayList" "elementData" "[Ljava/lang/Object;", Cond.methodLink RJx4a65c 1 yJxc12de_init_da8c8, Cond.instanceMethod yJxc12de_init_da8c8, Cond.initialized RJxc12de, Cond.code yJxc12de_init_da8c8 cJxc12de_init_da8c8 1 none, Cond.fieldLink RJxc12de 7 "java/util/AbstractList" "modCount" "I", Cond.methodLink RJxc12de 1 yJxa1e45_init_da8c8, Cond.instanceMethod yJxa1e45_init_da8c8, Cond.initialized RJxa1e45, Cond.code yJxa1e45_init_da8c8 cJxa1e45_init_da8c8 1 none, Cond.methodLink RJxa1e45 1 objectInit, Cond.methodLink RX11 25 yX8_init, Cond.instanceMethod yX8_init, Cond.code yX8_init cX8_init 1 none, Cond.methodLink RX8 3 objectInit, Cond.fieldLink RX8 9 "ModedMill$Report" "mode" "LModedMill$Mode;", Cond.classLink RX8 15 RX9, Cond.fieldLink RX8 20 "ModedMill$Report" "inputs" "LModedMill$Table;", Cond.fieldLink RX8 24 "ModedMill$Report" "answers" "LModedMill$Table;"]
def wsX11_init_r6 : List Cond := [Cond.fieldLink RX8 27 "ModedMill$Report" "notes" "LModedMill$Table;", Cond.fieldLink RX8 30 "ModedMill$Report" "end" "C", Cond.methodLink RX8 17 yX9_init, Cond.methodLink RX11 35 yX4_init, Cond.instanceMethod yX4_init, Cond.code yX4_init cX4_init 3 none, Cond.methodLink RX4 3 objectInit, Cond.fieldLink RX4 9 "ModedMill$Machine" "store" "LModedMill$Terms;", Cond.fieldLink RX4 15 "ModedMill$Machine" "report" "LModedMill$Report;", Cond.classLink RX4 19 RJx4a65c, Cond.fieldLink RX4 22 "ModedMill$Machine" "frames" "Ljava/util/ArrayList;", Cond.classLink RX4 26 RX9, Cond.fieldLink RX4 31 "ModedMill$Machine" "choices" "LModedMill$Table;", Cond.fieldLink RX4 35 "ModedMill$Machine" "trail" "LModedMill$Table;", Cond.methodLink RX4 21 yJx4a65c_init_da8c8, Cond.methodLink RX4 28 yX9_init, Cond.methodLink RX11 44 yX0_init, Cond.instanceMethod yX0_init, Cond.code yX0_init cX0_init 3 none, Cond.methodLink RX0 3 objectInit, Cond.fieldLink RX0 9 "ModedMill$Breadth" "program" "LModedMill$Program;", Cond.fieldLink RX0 15 "ModedMill$Breadth" "store" "LModedMill$Terms;", Cond.classLink RX0 19 RX9, Cond.fieldLink RX0 24 "ModedMill$Breadth" "nodes" "LModedMill$Table;"]
def wsX11_init_r7 : List Cond := [Cond.fieldLink RX0 28 "ModedMill$Breadth" "variables" "LModedMill$Table;", Cond.fieldLink RX0 31 "ModedMill$Breadth" "cells" "LModedMill$Table;", Cond.fieldLink RX0 34 "ModedMill$Breadth" "lists" "LModedMill$Table;", Cond.fieldLink RX0 37 "ModedMill$Breadth" "row" "LModedMill$Table;", Cond.fieldLink RX0 40 "ModedMill$Breadth" "bindings" "LModedMill$Table;", Cond.fieldLink RX0 43 "ModedMill$Breadth" "levels" "LModedMill$Table;", Cond.fieldLink RX0 46 "ModedMill$Breadth" "work" "LModedMill$Table;", Cond.methodLink RX0 21 yX9_init]
def wsX11_init : List Cond := .code yX11_init cX11_init 1 none :: ((wsX11_init_r1 ++ (wsX11_init_r2 ++ (wsX11_init_r3 ++ (wsX11_init_r4 ++ (wsX11_init_r5 ++ (wsX11_init_r6 ++ wsX11_init_r7)))))) ++ wsX100 ++ wsX110 ++ wsX70 ++ wsX80 ++ wsX40 ++ wsX00 ++ wsX90 ++ wsJ40 ++ wsJx000600 ++ wsJx4a65c0 ++ (vx_atM "java/lang/ArrayIndexOutOfBoundsException" ["java/lang/IndexOutOfBoundsException", "java/lang/RuntimeException", "java/lang/Exception"]).filter goodWord)
set_option maxRecDepth 20000 in
theorem ggX0_init_X9_init : GoodIn wsX0_init wsX9_init := goodIn_r _ [19, 20, 2, 3, 21, 22, 23, 24, 25, 41, 42, 43] (by decide +kernel) (by decide +kernel)
set_option maxRecDepth 20000 in
theorem gX0_init_X9_init : GoodIn wsX0_init (wsX9_init) := ggX0_init_X9_init
theorem dX0_init_0 : decode cX0_init 0 = .ok (.aload_n 0, 1) := by decide +kernel
theorem dX0_init_1 : decode cX0_init 1 = .ok (.invokespecial 3, 3) := by decide +kernel
theorem dX0_init_4 : decode cX0_init 4 = .ok (.aload_n 0, 1) := by decide +kernel
theorem dX0_init_5 : decode cX0_init 5 = .ok (.aload_n 1, 1) := by decide +kernel
theorem dX0_init_6 : decode cX0_init 6 = .ok (.putfield 9, 3) := by decide +kernel
theorem dX0_init_9 : decode cX0_init 9 = .ok (.aload_n 0, 1) := by decide +kernel
theorem dX0_init_10 : decode cX0_init 10 = .ok (.aload_n 2, 1) := by decide +kernel
theorem dX0_init_11 : decode cX0_init 11 = .ok (.putfield 15, 3) := by decide +kernel
theorem dX0_init_14 : decode cX0_init 14 = .ok (.aload_n 0, 1) := by decide +kernel
theorem dX0_init_15 : decode cX0_init 15 = .ok (.new 19, 3) := by decide +kernel
theorem dX0_init_18 : decode cX0_init 18 = .ok (.dup, 1) := by decide +kernel
theorem dX0_init_19 : decode cX0_init 19 = .ok (.iconst 5, 1) := by decide +kernel
theorem dX0_init_20 : decode cX0_init 20 = .ok (.bipush 64, 2) := by decide +kernel
theorem dX0_init_22 : decode cX0_init 22 = .ok (.invokespecial 21, 3) := by decide +kernel
theorem dX0_init_25 : decode cX0_init 25 = .ok (.putfield 24, 3) := by decide +kernel
theorem dX0_init_28 : decode cX0_init 28 = .ok (.aload_n 0, 1) := by decide +kernel
theorem dX0_init_29 : decode cX0_init 29 = .ok (.new 19, 3) := by decide +kernel
theorem dX0_init_32 : decode cX0_init 32 = .ok (.dup, 1) := by decide +kernel
theorem dX0_init_33 : decode cX0_init 33 = .ok (.iconst 1, 1) := by decide +kernel
theorem dX0_init_34 : decode cX0_init 34 = .ok (.bipush 64, 2) := by decide +kernel
theorem dX0_init_36 : decode cX0_init 36 = .ok (.invokespecial 21, 3) := by decide +kernel
theorem dX0_init_39 : decode cX0_init 39 = .ok (.putfield 28, 3) := by decide +kernel
theorem dX0_init_42 : decode cX0_init 42 = .ok (.aload_n 0, 1) := by decide +kernel
theorem dX0_init_43 : decode cX0_init 43 = .ok (.new 19, 3) := by decide +kernel
theorem dX0_init_46 : decode cX0_init 46 = .ok (.dup, 1) := by decide +kernel
theorem dX0_init_47 : decode cX0_init 47 = .ok (.iconst 3, 1) := by decide +kernel
theorem dX0_init_48 : decode cX0_init 48 = .ok (.bipush 64, 2) := by decide +kernel
theorem dX0_init_50 : decode cX0_init 50 = .ok (.invokespecial 21, 3) := by decide +kernel
theorem dX0_init_53 : decode cX0_init 53 = .ok (.putfield 31, 3) := by decide +kernel
theorem dX0_init_56 : decode cX0_init 56 = .ok (.aload_n 0, 1) := by decide +kernel
theorem dX0_init_57 : decode cX0_init 57 = .ok (.new 19, 3) := by decide +kernel
theorem dX0_init_60 : decode cX0_init 60 = .ok (.dup, 1) := by decide +kernel
theorem dX0_init_61 : decode cX0_init 61 = .ok (.iconst 4, 1) := by decide +kernel
theorem dX0_init_62 : decode cX0_init 62 = .ok (.bipush 64, 2) := by decide +kernel
theorem dX0_init_64 : decode cX0_init 64 = .ok (.invokespecial 21, 3) := by decide +kernel
theorem dX0_init_67 : decode cX0_init 67 = .ok (.putfield 34, 3) := by decide +kernel
theorem dX0_init_70 : decode cX0_init 70 = .ok (.aload_n 0, 1) := by decide +kernel
theorem dX0_init_71 : decode cX0_init 71 = .ok (.new 19, 3) := by decide +kernel
theorem dX0_init_74 : decode cX0_init 74 = .ok (.dup, 1) := by decide +kernel
theorem dX0_init_75 : decode cX0_init 75 = .ok (.bipush 6, 2) := by decide +kernel
theorem dX0_init_77 : decode cX0_init 77 = .ok (.bipush 64, 2) := by decide +kernel
theorem dX0_init_79 : decode cX0_init 79 = .ok (.invokespecial 21, 3) := by decide +kernel
theorem dX0_init_82 : decode cX0_init 82 = .ok (.putfield 37, 3) := by decide +kernel
theorem dX0_init_85 : decode cX0_init 85 = .ok (.aload_n 0, 1) := by decide +kernel
theorem dX0_init_86 : decode cX0_init 86 = .ok (.new 19, 3) := by decide +kernel
theorem dX0_init_89 : decode cX0_init 89 = .ok (.dup, 1) := by decide +kernel
theorem dX0_init_90 : decode cX0_init 90 = .ok (.iconst 2, 1) := by decide +kernel
theorem dX0_init_91 : decode cX0_init 91 = .ok (.bipush 64, 2) := by decide +kernel
theorem dX0_init_93 : decode cX0_init 93 = .ok (.invokespecial 21, 3) := by decide +kernel
theorem dX0_init_96 : decode cX0_init 96 = .ok (.putfield 40, 3) := by decide +kernel
theorem dX0_init_99 : decode cX0_init 99 = .ok (.aload_n 0, 1) := by decide +kernel
theorem dX0_init_100 : decode cX0_init 100 = .ok (.new 19, 3) := by decide +kernel
theorem dX0_init_103 : decode cX0_init 103 = .ok (.dup, 1) := by decide +kernel
theorem dX0_init_104 : decode cX0_init 104 = .ok (.iconst 4, 1) := by decide +kernel
theorem dX0_init_105 : decode cX0_init 105 = .ok (.bipush 8, 2) := by decide +kernel
theorem dX0_init_107 : decode cX0_init 107 = .ok (.invokespecial 21, 3) := by decide +kernel
theorem dX0_init_110 : decode cX0_init 110 = .ok (.putfield 43, 3) := by decide +kernel
theorem dX0_init_113 : decode cX0_init 113 = .ok (.aload_n 0, 1) := by decide +kernel
theorem dX0_init_114 : decode cX0_init 114 = .ok (.new 19, 3) := by decide +kernel
theorem dX0_init_117 : decode cX0_init 117 = .ok (.dup, 1) := by decide +kernel
theorem dX0_init_118 : decode cX0_init 118 = .ok (.iconst 3, 1) := by decide +kernel
theorem dX0_init_119 : decode cX0_init 119 = .ok (.bipush 64, 2) := by decide +kernel
theorem dX0_init_121 : decode cX0_init 121 = .ok (.invokespecial 21, 3) := by decide +kernel
theorem dX0_init_124 : decode cX0_init 124 = .ok (.putfield 46, 3) := by decide +kernel
theorem dX0_init_127 : decode cX0_init 127 = .ok (.return_, 1) := by decide +kernel
set_option maxRecDepth 20000 in
theorem ggX4_init_Jx4a65c_init_da8c8 : GoodIn wsX4_init wsJx4a65c_init_da8c8 := goodIn_r _ [17, 18, 19, 20, 21, 22, 23, 24, 25, 26, 27, 28, 29, 2, 3, 51, 52, 53] (by decide +kernel) (by decide +kernel)
set_option maxRecDepth 20000 in
theorem gX4_init_Jx4a65c_init_da8c8 : GoodIn wsX4_init (wsJx4a65c_init_da8c8) := ggX4_init_Jx4a65c_init_da8c8
set_option maxRecDepth 20000 in
theorem ggX4_init_X9_init : GoodIn wsX4_init wsX9_init := goodIn_r _ [32, 33, 2, 3, 34, 35, 36, 37, 38, 54, 55, 56] (by decide +kernel) (by decide +kernel)
set_option maxRecDepth 20000 in
theorem gX4_init_X9_init : GoodIn wsX4_init (wsX9_init) := ggX4_init_X9_init
theorem dX4_init_0 : decode cX4_init 0 = .ok (.aload_n 0, 1) := by decide +kernel
theorem dX4_init_1 : decode cX4_init 1 = .ok (.invokespecial 3, 3) := by decide +kernel
theorem dX4_init_4 : decode cX4_init 4 = .ok (.aload_n 0, 1) := by decide +kernel
theorem dX4_init_5 : decode cX4_init 5 = .ok (.aload_n 1, 1) := by decide +kernel
theorem dX4_init_6 : decode cX4_init 6 = .ok (.putfield 9, 3) := by decide +kernel
theorem dX4_init_9 : decode cX4_init 9 = .ok (.aload_n 0, 1) := by decide +kernel
theorem dX4_init_10 : decode cX4_init 10 = .ok (.aload_n 2, 1) := by decide +kernel
theorem dX4_init_11 : decode cX4_init 11 = .ok (.putfield 15, 3) := by decide +kernel
theorem dX4_init_14 : decode cX4_init 14 = .ok (.aload_n 0, 1) := by decide +kernel
theorem dX4_init_15 : decode cX4_init 15 = .ok (.new 19, 3) := by decide +kernel
theorem dX4_init_18 : decode cX4_init 18 = .ok (.dup, 1) := by decide +kernel
theorem dX4_init_19 : decode cX4_init 19 = .ok (.invokespecial 21, 3) := by decide +kernel
theorem dX4_init_22 : decode cX4_init 22 = .ok (.putfield 22, 3) := by decide +kernel
theorem dX4_init_25 : decode cX4_init 25 = .ok (.aload_n 0, 1) := by decide +kernel
theorem dX4_init_26 : decode cX4_init 26 = .ok (.new 26, 3) := by decide +kernel
theorem dX4_init_29 : decode cX4_init 29 = .ok (.dup, 1) := by decide +kernel
theorem dX4_init_30 : decode cX4_init 30 = .ok (.iconst 3, 1) := by decide +kernel
theorem dX4_init_31 : decode cX4_init 31 = .ok (.bipush 30, 2) := by decide +kernel
theorem dX4_init_33 : decode cX4_init 33 = .ok (.invokespecial 28, 3) := by decide +kernel
theorem dX4_init_36 : decode cX4_init 36 = .ok (.putfield 31, 3) := by decide +kernel
theorem dX4_init_39 : decode cX4_init 39 = .ok (.aload_n 0, 1) := by decide +kernel
theorem dX4_init_40 : decode cX4_init 40 = .ok (.new 26, 3) := by decide +kernel
theorem dX4_init_43 : decode cX4_init 43 = .ok (.dup, 1) := by decide +kernel
theorem dX4_init_44 : decode cX4_init 44 = .ok (.iconst 2, 1) := by decide +kernel
theorem dX4_init_45 : decode cX4_init 45 = .ok (.bipush 30, 2) := by decide +kernel
theorem dX4_init_47 : decode cX4_init 47 = .ok (.invokespecial 28, 3) := by decide +kernel
theorem dX4_init_50 : decode cX4_init 50 = .ok (.putfield 35, 3) := by decide +kernel
theorem dX4_init_53 : decode cX4_init 53 = .ok (.return_, 1) := by decide +kernel
set_option maxRecDepth 20000 in
theorem ggX7_init_Jx4a65c_init_da8c8 : GoodIn wsX7_init wsJx4a65c_init_da8c8 := goodIn_r _ [12, 13, 14, 15, 16, 17, 18, 19, 20, 21, 22, 23, 24, 2, 3, 25, 26, 27] (by decide +kernel) (by decide +kernel)
set_option maxRecDepth 20000 in
theorem gX7_init_Jx4a65c_init_da8c8 : GoodIn wsX7_init (wsJx4a65c_init_da8c8) := ggX7_init_Jx4a65c_init_da8c8
theorem dX7_init_0 : decode cX7_init 0 = .ok (.aload_n 0, 1) := by decide +kernel
theorem dX7_init_1 : decode cX7_init 1 = .ok (.invokespecial 3, 3) := by decide +kernel
theorem dX7_init_4 : decode cX7_init 4 = .ok (.aload_n 0, 1) := by decide +kernel
theorem dX7_init_5 : decode cX7_init 5 = .ok (.new 9, 3) := by decide +kernel
theorem dX7_init_8 : decode cX7_init 8 = .ok (.dup, 1) := by decide +kernel
theorem dX7_init_9 : decode cX7_init 9 = .ok (.invokespecial 11, 3) := by decide +kernel
theorem dX7_init_12 : decode cX7_init 12 = .ok (.putfield 12, 3) := by decide +kernel
theorem dX7_init_15 : decode cX7_init 15 = .ok (.aload_n 0, 1) := by decide +kernel
theorem dX7_init_16 : decode cX7_init 16 = .ok (.new 9, 3) := by decide +kernel
theorem dX7_init_19 : decode cX7_init 19 = .ok (.dup, 1) := by decide +kernel
theorem dX7_init_20 : decode cX7_init 20 = .ok (.invokespecial 11, 3) := by decide +kernel
theorem dX7_init_23 : decode cX7_init 23 = .ok (.putfield 18, 3) := by decide +kernel
theorem dX7_init_26 : decode cX7_init 26 = .ok (.aload_n 0, 1) := by decide +kernel
theorem dX7_init_27 : decode cX7_init 27 = .ok (.new 9, 3) := by decide +kernel
theorem dX7_init_30 : decode cX7_init 30 = .ok (.dup, 1) := by decide +kernel
theorem dX7_init_31 : decode cX7_init 31 = .ok (.invokespecial 11, 3) := by decide +kernel
theorem dX7_init_34 : decode cX7_init 34 = .ok (.putfield 21, 3) := by decide +kernel
theorem dX7_init_37 : decode cX7_init 37 = .ok (.return_, 1) := by decide +kernel
set_option maxRecDepth 20000 in
theorem ggX8_init_X9_init : GoodIn wsX8_init wsX9_init := goodIn_r _ [14, 15, 2, 3, 16, 17, 18, 19, 20, 31, 32, 33] (by decide +kernel) (by decide +kernel)
set_option maxRecDepth 20000 in
theorem gX8_init_X9_init : GoodIn wsX8_init (wsX9_init) := ggX8_init_X9_init
theorem dX8_init_0 : decode cX8_init 0 = .ok (.aload_n 0, 1) := by decide +kernel
theorem dX8_init_1 : decode cX8_init 1 = .ok (.invokespecial 3, 3) := by decide +kernel
theorem dX8_init_4 : decode cX8_init 4 = .ok (.aload_n 0, 1) := by decide +kernel
theorem dX8_init_5 : decode cX8_init 5 = .ok (.aconst_null, 1) := by decide +kernel
theorem dX8_init_6 : decode cX8_init 6 = .ok (.putfield 9, 3) := by decide +kernel
theorem dX8_init_9 : decode cX8_init 9 = .ok (.aload_n 0, 1) := by decide +kernel
theorem dX8_init_10 : decode cX8_init 10 = .ok (.new 15, 3) := by decide +kernel
theorem dX8_init_13 : decode cX8_init 13 = .ok (.dup, 1) := by decide +kernel
theorem dX8_init_14 : decode cX8_init 14 = .ok (.iconst 1, 1) := by decide +kernel
theorem dX8_init_15 : decode cX8_init 15 = .ok (.iconst 3, 1) := by decide +kernel
theorem dX8_init_16 : decode cX8_init 16 = .ok (.invokespecial 17, 3) := by decide +kernel
theorem dX8_init_19 : decode cX8_init 19 = .ok (.putfield 20, 3) := by decide +kernel
theorem dX8_init_22 : decode cX8_init 22 = .ok (.aload_n 0, 1) := by decide +kernel
theorem dX8_init_23 : decode cX8_init 23 = .ok (.new 15, 3) := by decide +kernel
theorem dX8_init_26 : decode cX8_init 26 = .ok (.dup, 1) := by decide +kernel
theorem dX8_init_27 : decode cX8_init 27 = .ok (.iconst 3, 1) := by decide +kernel
theorem dX8_init_28 : decode cX8_init 28 = .ok (.bipush 50, 2) := by decide +kernel
theorem dX8_init_30 : decode cX8_init 30 = .ok (.invokespecial 17, 3) := by decide +kernel
theorem dX8_init_33 : decode cX8_init 33 = .ok (.putfield 24, 3) := by decide +kernel
theorem dX8_init_36 : decode cX8_init 36 = .ok (.aload_n 0, 1) := by decide +kernel
theorem dX8_init_37 : decode cX8_init 37 = .ok (.new 15, 3) := by decide +kernel
theorem dX8_init_40 : decode cX8_init 40 = .ok (.dup, 1) := by decide +kernel
theorem dX8_init_41 : decode cX8_init 41 = .ok (.iconst 2, 1) := by decide +kernel
theorem dX8_init_42 : decode cX8_init 42 = .ok (.bipush 80, 2) := by decide +kernel
theorem dX8_init_44 : decode cX8_init 44 = .ok (.invokespecial 17, 3) := by decide +kernel
theorem dX8_init_47 : decode cX8_init 47 = .ok (.putfield 27, 3) := by decide +kernel
theorem dX8_init_50 : decode cX8_init 50 = .ok (.aload_n 0, 1) := by decide +kernel
theorem dX8_init_51 : decode cX8_init 51 = .ok (.bipush 101, 2) := by decide +kernel
theorem dX8_init_53 : decode cX8_init 53 = .ok (.putfield 30, 3) := by decide +kernel
theorem dX8_init_56 : decode cX8_init 56 = .ok (.return_, 1) := by decide +kernel
theorem dX9_init_0 : decode cX9_init 0 = .ok (.aload_n 0, 1) := by decide +kernel
theorem dX9_init_1 : decode cX9_init 1 = .ok (.invokespecial 3, 3) := by decide +kernel
theorem dX9_init_4 : decode cX9_init 4 = .ok (.aload_n 0, 1) := by decide +kernel
theorem dX9_init_5 : decode cX9_init 5 = .ok (.iload_n 1, 1) := by decide +kernel
theorem dX9_init_6 : decode cX9_init 6 = .ok (.ifCond .le 7, 3) := by decide +kernel
theorem dX9_init_9 : decode cX9_init 9 = .ok (.iload_n 1, 1) := by decide +kernel
theorem dX9_init_10 : decode cX9_init 10 = .ok (.goto 4, 3) := by decide +kernel
theorem dX9_init_13 : decode cX9_init 13 = .ok (.iconst 1, 1) := by decide +kernel
theorem dX9_init_14 : decode cX9_init 14 = .ok (.putfield 9, 3) := by decide +kernel
theorem dX9_init_17 : decode cX9_init 17 = .ok (.aload_n 0, 1) := by decide +kernel
theorem dX9_init_18 : decode cX9_init 18 = .ok (.iload_n 2, 1) := by decide +kernel
theorem dX9_init_19 : decode cX9_init 19 = .ok (.ifCond .le 18, 3) := by decide +kernel
theorem dX9_init_22 : decode cX9_init 22 = .ok (.iload_n 2, 1) := by decide +kernel
theorem dX9_init_23 : decode cX9_init 23 = .ok (.ldc 15, 2) := by decide +kernel
theorem dX9_init_25 : decode cX9_init 25 = .ok (.if_icmp .ge 12, 3) := by decide +kernel
theorem dX9_init_28 : decode cX9_init 28 = .ok (.aload_n 0, 1) := by decide +kernel
theorem dX9_init_29 : decode cX9_init 29 = .ok (.getfield 9, 3) := by decide +kernel
theorem dX9_init_32 : decode cX9_init 32 = .ok (.iload_n 2, 1) := by decide +kernel
theorem dX9_init_33 : decode cX9_init 33 = .ok (.imul, 1) := by decide +kernel
theorem dX9_init_34 : decode cX9_init 34 = .ok (.goto 7, 3) := by decide +kernel
theorem dX9_init_37 : decode cX9_init 37 = .ok (.aload_n 0, 1) := by decide +kernel
theorem dX9_init_38 : decode cX9_init 38 = .ok (.getfield 9, 3) := by decide +kernel
theorem dX9_init_41 : decode cX9_init 41 = .ok (.newarray .int, 2) := by decide +kernel
theorem dX9_init_43 : decode cX9_init 43 = .ok (.putfield 16, 3) := by decide +kernel
theorem dX9_init_46 : decode cX9_init 46 = .ok (.aload_n 0, 1) := by decide +kernel
theorem dX9_init_47 : decode cX9_init 47 = .ok (.iconst 0, 1) := by decide +kernel
theorem dX9_init_48 : decode cX9_init 48 = .ok (.putfield 20, 3) := by decide +kernel
theorem dX9_init_51 : decode cX9_init 51 = .ok (.return_, 1) := by decide +kernel
theorem dX9_count_0 : decode cX9_count 0 = .ok (.aload_n 0, 1) := by decide +kernel
theorem dX9_count_1 : decode cX9_count 1 = .ok (.getfield 20, 3) := by decide +kernel
theorem dX9_count_4 : decode cX9_count 4 = .ok (.ireturn, 1) := by decide +kernel
theorem dX9_get_0 : decode cX9_get 0 = .ok (.iload_n 1, 1) := by decide +kernel
theorem dX9_get_1 : decode cX9_get 1 = .ok (.aload_n 0, 1) := by decide +kernel
theorem dX9_get_2 : decode cX9_get 2 = .ok (.getfield 9, 3) := by decide +kernel
theorem dX9_get_5 : decode cX9_get 5 = .ok (.imul, 1) := by decide +kernel
theorem dX9_get_6 : decode cX9_get 6 = .ok (.iload_n 2, 1) := by decide +kernel
theorem dX9_get_7 : decode cX9_get 7 = .ok (.iadd, 1) := by decide +kernel
theorem dX9_get_8 : decode cX9_get 8 = .ok (.istore_n 3, 1) := by decide +kernel
theorem dX9_get_9 : decode cX9_get 9 = .ok (.iload_n 1, 1) := by decide +kernel
theorem dX9_get_10 : decode cX9_get 10 = .ok (.ifCond .lt 27, 3) := by decide +kernel
theorem dX9_get_13 : decode cX9_get 13 = .ok (.iload_n 1, 1) := by decide +kernel
theorem dX9_get_14 : decode cX9_get 14 = .ok (.aload_n 0, 1) := by decide +kernel
theorem dX9_get_15 : decode cX9_get 15 = .ok (.getfield 20, 3) := by decide +kernel
theorem dX9_get_18 : decode cX9_get 18 = .ok (.if_icmp .ge 19, 3) := by decide +kernel
theorem dX9_get_21 : decode cX9_get 21 = .ok (.iload_n 2, 1) := by decide +kernel
theorem dX9_get_22 : decode cX9_get 22 = .ok (.ifCond .lt 15, 3) := by decide +kernel
theorem dX9_get_25 : decode cX9_get 25 = .ok (.iload_n 2, 1) := by decide +kernel
theorem dX9_get_26 : decode cX9_get 26 = .ok (.aload_n 0, 1) := by decide +kernel
theorem dX9_get_27 : decode cX9_get 27 = .ok (.getfield 9, 3) := by decide +kernel
theorem dX9_get_30 : decode cX9_get 30 = .ok (.if_icmp .ge 7, 3) := by decide +kernel
theorem dX9_get_33 : decode cX9_get 33 = .ok (.iconst 1, 1) := by decide +kernel
theorem dX9_get_34 : decode cX9_get 34 = .ok (.goto 4, 3) := by decide +kernel
theorem dX9_get_37 : decode cX9_get 37 = .ok (.iconst 0, 1) := by decide +kernel
theorem dX9_get_38 : decode cX9_get 38 = .ok (.istore 4, 2) := by decide +kernel
theorem dX9_get_40 : decode cX9_get 40 = .ok (.iload 4, 2) := by decide +kernel
theorem dX9_get_42 : decode cX9_get 42 = .ok (.ifCond .eq 25, 3) := by decide +kernel
theorem dX9_get_45 : decode cX9_get 45 = .ok (.iload_n 3, 1) := by decide +kernel
theorem dX9_get_46 : decode cX9_get 46 = .ok (.ifCond .lt 21, 3) := by decide +kernel
theorem dX9_get_49 : decode cX9_get 49 = .ok (.iload_n 3, 1) := by decide +kernel
theorem dX9_get_50 : decode cX9_get 50 = .ok (.aload_n 0, 1) := by decide +kernel
theorem dX9_get_51 : decode cX9_get 51 = .ok (.getfield 16, 3) := by decide +kernel
theorem dX9_get_54 : decode cX9_get 54 = .ok (.arraylength, 1) := by decide +kernel
theorem dX9_get_55 : decode cX9_get 55 = .ok (.if_icmp .ge 12, 3) := by decide +kernel
theorem dX9_get_58 : decode cX9_get 58 = .ok (.aload_n 0, 1) := by decide +kernel
theorem dX9_get_59 : decode cX9_get 59 = .ok (.getfield 16, 3) := by decide +kernel
theorem dX9_get_62 : decode cX9_get 62 = .ok (.iload_n 3, 1) := by decide +kernel
theorem dX9_get_63 : decode cX9_get 63 = .ok (.iaload, 1) := by decide +kernel
theorem dX9_get_64 : decode cX9_get 64 = .ok (.goto 4, 3) := by decide +kernel
theorem dX9_get_67 : decode cX9_get 67 = .ok (.iconst (-1), 1) := by decide +kernel
theorem dX9_get_68 : decode cX9_get 68 = .ok (.ireturn, 1) := by decide +kernel
theorem dX9_set_0 : decode cX9_set 0 = .ok (.iload_n 1, 1) := by decide +kernel
theorem dX9_set_1 : decode cX9_set 1 = .ok (.aload_n 0, 1) := by decide +kernel
theorem dX9_set_2 : decode cX9_set 2 = .ok (.getfield 9, 3) := by decide +kernel
theorem dX9_set_5 : decode cX9_set 5 = .ok (.imul, 1) := by decide +kernel
theorem dX9_set_6 : decode cX9_set 6 = .ok (.iload_n 2, 1) := by decide +kernel
theorem dX9_set_7 : decode cX9_set 7 = .ok (.iadd, 1) := by decide +kernel
theorem dX9_set_8 : decode cX9_set 8 = .ok (.istore 4, 2) := by decide +kernel
theorem dX9_set_10 : decode cX9_set 10 = .ok (.iload_n 1, 1) := by decide +kernel
theorem dX9_set_11 : decode cX9_set 11 = .ok (.ifCond .lt 27, 3) := by decide +kernel
theorem dX9_set_14 : decode cX9_set 14 = .ok (.iload_n 1, 1) := by decide +kernel
theorem dX9_set_15 : decode cX9_set 15 = .ok (.aload_n 0, 1) := by decide +kernel
theorem dX9_set_16 : decode cX9_set 16 = .ok (.getfield 20, 3) := by decide +kernel
theorem dX9_set_19 : decode cX9_set 19 = .ok (.if_icmp .ge 19, 3) := by decide +kernel
theorem dX9_set_22 : decode cX9_set 22 = .ok (.iload_n 2, 1) := by decide +kernel
theorem dX9_set_23 : decode cX9_set 23 = .ok (.ifCond .lt 15, 3) := by decide +kernel
theorem dX9_set_26 : decode cX9_set 26 = .ok (.iload_n 2, 1) := by decide +kernel
theorem dX9_set_27 : decode cX9_set 27 = .ok (.aload_n 0, 1) := by decide +kernel
theorem dX9_set_28 : decode cX9_set 28 = .ok (.getfield 9, 3) := by decide +kernel
theorem dX9_set_31 : decode cX9_set 31 = .ok (.if_icmp .ge 7, 3) := by decide +kernel
theorem dX9_set_34 : decode cX9_set 34 = .ok (.iconst 1, 1) := by decide +kernel
theorem dX9_set_35 : decode cX9_set 35 = .ok (.goto 4, 3) := by decide +kernel
theorem dX9_set_38 : decode cX9_set 38 = .ok (.iconst 0, 1) := by decide +kernel
theorem dX9_set_39 : decode cX9_set 39 = .ok (.istore 5, 2) := by decide +kernel
theorem dX9_set_41 : decode cX9_set 41 = .ok (.iload 5, 2) := by decide +kernel
theorem dX9_set_43 : decode cX9_set 43 = .ok (.ifCond .eq 26, 3) := by decide +kernel
theorem dX9_set_46 : decode cX9_set 46 = .ok (.iload 4, 2) := by decide +kernel
theorem dX9_set_48 : decode cX9_set 48 = .ok (.ifCond .lt 21, 3) := by decide +kernel
theorem dX9_set_51 : decode cX9_set 51 = .ok (.iload 4, 2) := by decide +kernel
theorem dX9_set_53 : decode cX9_set 53 = .ok (.aload_n 0, 1) := by decide +kernel
theorem dX9_set_54 : decode cX9_set 54 = .ok (.getfield 16, 3) := by decide +kernel
theorem dX9_set_57 : decode cX9_set 57 = .ok (.arraylength, 1) := by decide +kernel
theorem dX9_set_58 : decode cX9_set 58 = .ok (.if_icmp .ge 11, 3) := by decide +kernel
theorem dX9_set_61 : decode cX9_set 61 = .ok (.aload_n 0, 1) := by decide +kernel
theorem dX9_set_62 : decode cX9_set 62 = .ok (.getfield 16, 3) := by decide +kernel
theorem dX9_set_65 : decode cX9_set 65 = .ok (.iload 4, 2) := by decide +kernel
theorem dX9_set_67 : decode cX9_set 67 = .ok (.iload_n 3, 1) := by decide +kernel
theorem dX9_set_68 : decode cX9_set 68 = .ok (.iastore, 1) := by decide +kernel
theorem dX9_set_69 : decode cX9_set 69 = .ok (.return_, 1) := by decide +kernel
set_option maxRecDepth 20000 in
theorem ggX9_add_J7_fill_fda19 : GoodIn wsX9_add wsJ7_fill_fda19 := goodIn_r _ [26, 27, 28, 7, 29, 30, 31, 32, 33, 34, 35, 44, 45, 46, 47, 48, 49, 50, 51, 52, 53] (by decide +kernel) (by decide +kernel)
set_option maxRecDepth 20000 in
theorem gX9_add_J7_fill_fda19 : GoodIn wsX9_add (va_wsS RX9 29 yJ7_fill_fda19 wsJ7_fill_fda19) := goodIn_app (goodIn_of _ (by decide +kernel)) ggX9_add_J7_fill_fda19
set_option maxRecDepth 20000 in
theorem ggX9_add_X9_set : GoodIn wsX9_add wsX9_set := goodIn_ca (goodIn_r _ [40, 2, 1, 3, 41, 42, 43] (by decide +kernel) (by decide +kernel)) (goodIn_sub (fun _ h => List.mem_cons_of_mem _ (List.mem_append_right _ h)) (by decide +kernel))
set_option maxRecDepth 20000 in
theorem gX9_add_X9_set : GoodIn wsX9_add (wsV RX9 33 RX9 yX9_set wsX9_set) := goodIn_app (goodIn_of _ (by decide +kernel)) ggX9_add_X9_set
theorem dX9_add_0 : decode cX9_add 0 = .ok (.aload_n 0, 1) := by decide +kernel
theorem dX9_add_1 : decode cX9_add 1 = .ok (.getfield 20, 3) := by decide +kernel
theorem dX9_add_4 : decode cX9_add 4 = .ok (.aload_n 0, 1) := by decide +kernel
theorem dX9_add_5 : decode cX9_add 5 = .ok (.getfield 9, 3) := by decide +kernel
theorem dX9_add_8 : decode cX9_add 8 = .ok (.imul, 1) := by decide +kernel
theorem dX9_add_9 : decode cX9_add 9 = .ok (.istore 4, 2) := by decide +kernel
theorem dX9_add_11 : decode cX9_add 11 = .ok (.iload 4, 2) := by decide +kernel
theorem dX9_add_13 : decode cX9_add 13 = .ok (.aload_n 0, 1) := by decide +kernel
theorem dX9_add_14 : decode cX9_add 14 = .ok (.getfield 9, 3) := by decide +kernel
theorem dX9_add_17 : decode cX9_add 17 = .ok (.iadd, 1) := by decide +kernel
theorem dX9_add_18 : decode cX9_add 18 = .ok (.istore 5, 2) := by decide +kernel
theorem dX9_add_20 : decode cX9_add 20 = .ok (.iload 5, 2) := by decide +kernel
theorem dX9_add_22 : decode cX9_add 22 = .ok (.aload_n 0, 1) := by decide +kernel
theorem dX9_add_23 : decode cX9_add 23 = .ok (.getfield 16, 3) := by decide +kernel
theorem dX9_add_26 : decode cX9_add 26 = .ok (.arraylength, 1) := by decide +kernel
theorem dX9_add_27 : decode cX9_add 27 = .ok (.if_icmp .le 25, 3) := by decide +kernel
theorem dX9_add_30 : decode cX9_add 30 = .ok (.iload 5, 2) := by decide +kernel
theorem dX9_add_32 : decode cX9_add 32 = .ok (.ldc 15, 2) := by decide +kernel
theorem dX9_add_34 : decode cX9_add 34 = .ok (.if_icmp .ge 18, 3) := by decide +kernel
theorem dX9_add_37 : decode cX9_add 37 = .ok (.aload_n 0, 1) := by decide +kernel
theorem dX9_add_38 : decode cX9_add 38 = .ok (.aload_n 0, 1) := by decide +kernel
theorem dX9_add_39 : decode cX9_add 39 = .ok (.getfield 16, 3) := by decide +kernel
theorem dX9_add_42 : decode cX9_add 42 = .ok (.iconst 2, 1) := by decide +kernel
theorem dX9_add_43 : decode cX9_add 43 = .ok (.iload 5, 2) := by decide +kernel
theorem dX9_add_45 : decode cX9_add 45 = .ok (.imul, 1) := by decide +kernel
theorem dX9_add_46 : decode cX9_add 46 = .ok (.invokestatic 23, 3) := by decide +kernel
theorem dX9_add_49 : decode cX9_add 49 = .ok (.putfield 16, 3) := by decide +kernel
theorem dX9_add_52 : decode cX9_add 52 = .ok (.iload 4, 2) := by decide +kernel
theorem dX9_add_54 : decode cX9_add 54 = .ok (.ifCond .lt 13, 3) := by decide +kernel
theorem dX9_add_57 : decode cX9_add 57 = .ok (.iload 5, 2) := by decide +kernel
theorem dX9_add_59 : decode cX9_add 59 = .ok (.aload_n 0, 1) := by decide +kernel
theorem dX9_add_60 : decode cX9_add 60 = .ok (.getfield 16, 3) := by decide +kernel
theorem dX9_add_63 : decode cX9_add 63 = .ok (.arraylength, 1) := by decide +kernel
theorem dX9_add_64 : decode cX9_add 64 = .ok (.if_icmp .le 5, 3) := by decide +kernel
theorem dX9_add_67 : decode cX9_add 67 = .ok (.iconst (-1), 1) := by decide +kernel
theorem dX9_add_68 : decode cX9_add 68 = .ok (.ireturn, 1) := by decide +kernel
theorem dX9_add_69 : decode cX9_add 69 = .ok (.aload_n 0, 1) := by decide +kernel
theorem dX9_add_70 : decode cX9_add 70 = .ok (.getfield 16, 3) := by decide +kernel
theorem dX9_add_73 : decode cX9_add 73 = .ok (.iload 4, 2) := by decide +kernel
theorem dX9_add_75 : decode cX9_add 75 = .ok (.iload 5, 2) := by decide +kernel
theorem dX9_add_77 : decode cX9_add 77 = .ok (.iconst (-1), 1) := by decide +kernel
theorem dX9_add_78 : decode cX9_add 78 = .ok (.invokestatic 29, 3) := by decide +kernel
theorem dX9_add_81 : decode cX9_add 81 = .ok (.aload_n 0, 1) := by decide +kernel
theorem dX9_add_82 : decode cX9_add 82 = .ok (.dup, 1) := by decide +kernel
theorem dX9_add_83 : decode cX9_add 83 = .ok (.getfield 20, 3) := by decide +kernel
theorem dX9_add_86 : decode cX9_add 86 = .ok (.iconst 1, 1) := by decide +kernel
theorem dX9_add_87 : decode cX9_add 87 = .ok (.iadd, 1) := by decide +kernel
theorem dX9_add_88 : decode cX9_add 88 = .ok (.putfield 20, 3) := by decide +kernel
theorem dX9_add_91 : decode cX9_add 91 = .ok (.aload_n 0, 1) := by decide +kernel
theorem dX9_add_92 : decode cX9_add 92 = .ok (.aload_n 0, 1) := by decide +kernel
theorem dX9_add_93 : decode cX9_add 93 = .ok (.getfield 20, 3) := by decide +kernel
theorem dX9_add_96 : decode cX9_add 96 = .ok (.iconst 1, 1) := by decide +kernel
theorem dX9_add_97 : decode cX9_add 97 = .ok (.isub, 1) := by decide +kernel
theorem dX9_add_98 : decode cX9_add 98 = .ok (.iconst 0, 1) := by decide +kernel
theorem dX9_add_99 : decode cX9_add 99 = .ok (.iload_n 1, 1) := by decide +kernel
theorem dX9_add_100 : decode cX9_add 100 = .ok (.invokevirtual 33, 3) := by decide +kernel
theorem dX9_add_103 : decode cX9_add 103 = .ok (.aload_n 0, 1) := by decide +kernel
theorem dX9_add_104 : decode cX9_add 104 = .ok (.aload_n 0, 1) := by decide +kernel
theorem dX9_add_105 : decode cX9_add 105 = .ok (.getfield 20, 3) := by decide +kernel
theorem dX9_add_108 : decode cX9_add 108 = .ok (.iconst 1, 1) := by decide +kernel
theorem dX9_add_109 : decode cX9_add 109 = .ok (.isub, 1) := by decide +kernel
theorem dX9_add_110 : decode cX9_add 110 = .ok (.iconst 1, 1) := by decide +kernel
theorem dX9_add_111 : decode cX9_add 111 = .ok (.iload_n 2, 1) := by decide +kernel
theorem dX9_add_112 : decode cX9_add 112 = .ok (.invokevirtual 33, 3) := by decide +kernel
theorem dX9_add_115 : decode cX9_add 115 = .ok (.aload_n 0, 1) := by decide +kernel
theorem dX9_add_116 : decode cX9_add 116 = .ok (.aload_n 0, 1) := by decide +kernel
theorem dX9_add_117 : decode cX9_add 117 = .ok (.getfield 20, 3) := by decide +kernel
theorem dX9_add_120 : decode cX9_add 120 = .ok (.iconst 1, 1) := by decide +kernel
theorem dX9_add_121 : decode cX9_add 121 = .ok (.isub, 1) := by decide +kernel
theorem dX9_add_122 : decode cX9_add 122 = .ok (.iconst 2, 1) := by decide +kernel
theorem dX9_add_123 : decode cX9_add 123 = .ok (.iload_n 3, 1) := by decide +kernel
theorem dX9_add_124 : decode cX9_add 124 = .ok (.invokevirtual 33, 3) := by decide +kernel
theorem dX9_add_127 : decode cX9_add 127 = .ok (.aload_n 0, 1) := by decide +kernel
theorem dX9_add_128 : decode cX9_add 128 = .ok (.getfield 20, 3) := by decide +kernel
theorem dX9_add_131 : decode cX9_add 131 = .ok (.iconst 1, 1) := by decide +kernel
theorem dX9_add_132 : decode cX9_add 132 = .ok (.isub, 1) := by decide +kernel
theorem dX9_add_133 : decode cX9_add 133 = .ok (.ireturn, 1) := by decide +kernel
theorem dX9_cut_0 : decode cX9_cut 0 = .ok (.iload_n 1, 1) := by decide +kernel
theorem dX9_cut_1 : decode cX9_cut 1 = .ok (.ifCond .lt 16, 3) := by decide +kernel
theorem dX9_cut_4 : decode cX9_cut 4 = .ok (.iload_n 1, 1) := by decide +kernel
theorem dX9_cut_5 : decode cX9_cut 5 = .ok (.aload_n 0, 1) := by decide +kernel
theorem dX9_cut_6 : decode cX9_cut 6 = .ok (.getfield 20, 3) := by decide +kernel
theorem dX9_cut_9 : decode cX9_cut 9 = .ok (.if_icmp .ge 8, 3) := by decide +kernel
theorem dX9_cut_12 : decode cX9_cut 12 = .ok (.aload_n 0, 1) := by decide +kernel
theorem dX9_cut_13 : decode cX9_cut 13 = .ok (.iload_n 1, 1) := by decide +kernel
theorem dX9_cut_14 : decode cX9_cut 14 = .ok (.putfield 20, 3) := by decide +kernel
theorem dX9_cut_17 : decode cX9_cut 17 = .ok (.return_, 1) := by decide +kernel
set_option maxRecDepth 20000 in
theorem ggX10_init_X9_init : GoodIn wsX10_init wsX9_init := goodIn_r _ [15, 16, 2, 3, 17, 18, 19, 20, 21, 65, 66, 67] (by decide +kernel) (by decide +kernel)
set_option maxRecDepth 20000 in
theorem gX10_init_X9_init : GoodIn wsX10_init (wsX9_init) := ggX10_init_X9_init
set_option maxRecDepth 20000 in
theorem ggX10_init_X9_add : GoodIn wsX10_init wsX9_add := goodIn_ca (goodIn_r _ [25, 21, 17, 20, 18, 26, 27, 28, 29, 30, 31, 32, 33, 34, 35, 19, 36, 37, 38, 39, 40, 41, 42, 43, 44, 45, 46, 47, 48, 49, 50, 51, 52, 53, 54, 55, 56, 57, 58, 7, 59, 65, 66, 67, 68, 69, 70, 71, 72, 73, 74, 75, 76, 77] (by decide +kernel) (by decide +kernel)) (goodIn_sub (fun _ h => List.mem_cons_of_mem _ (List.mem_append_right _ h)) (by decide +kernel))
set_option maxRecDepth 20000 in
theorem gX10_init_X9_add : GoodIn wsX10_init (wsV RX10 30 RX9 yX9_add wsX9_add) := goodIn_app (goodIn_of _ (by decide +kernel)) ggX10_init_X9_add
theorem dX10_init_0 : decode cX10_init 0 = .ok (.aload_n 0, 1) := by decide +kernel
theorem dX10_init_1 : decode cX10_init 1 = .ok (.invokespecial 3, 3) := by decide +kernel
theorem dX10_init_4 : decode cX10_init 4 = .ok (.aload_n 0, 1) := by decide +kernel
theorem dX10_init_5 : decode cX10_init 5 = .ok (.iconst 0, 1) := by decide +kernel
theorem dX10_init_6 : decode cX10_init 6 = .ok (.putfield 9, 3) := by decide +kernel
theorem dX10_init_9 : decode cX10_init 9 = .ok (.aload_n 0, 1) := by decide +kernel
theorem dX10_init_10 : decode cX10_init 10 = .ok (.new 15, 3) := by decide +kernel
theorem dX10_init_13 : decode cX10_init 13 = .ok (.dup, 1) := by decide +kernel
theorem dX10_init_14 : decode cX10_init 14 = .ok (.iconst 3, 1) := by decide +kernel
theorem dX10_init_15 : decode cX10_init 15 = .ok (.bipush 10, 2) := by decide +kernel
theorem dX10_init_17 : decode cX10_init 17 = .ok (.invokespecial 17, 3) := by decide +kernel
theorem dX10_init_20 : decode cX10_init 20 = .ok (.putfield 20, 3) := by decide +kernel
theorem dX10_init_23 : decode cX10_init 23 = .ok (.aload_n 0, 1) := by decide +kernel
theorem dX10_init_24 : decode cX10_init 24 = .ok (.new 15, 3) := by decide +kernel
theorem dX10_init_27 : decode cX10_init 27 = .ok (.dup, 1) := by decide +kernel
theorem dX10_init_28 : decode cX10_init 28 = .ok (.iconst 4, 1) := by decide +kernel
theorem dX10_init_29 : decode cX10_init 29 = .ok (.sipush 200, 3) := by decide +kernel
theorem dX10_init_32 : decode cX10_init 32 = .ok (.invokespecial 17, 3) := by decide +kernel
theorem dX10_init_35 : decode cX10_init 35 = .ok (.putfield 24, 3) := by decide +kernel
theorem dX10_init_38 : decode cX10_init 38 = .ok (.aload_n 0, 1) := by decide +kernel
theorem dX10_init_39 : decode cX10_init 39 = .ok (.new 15, 3) := by decide +kernel
theorem dX10_init_42 : decode cX10_init 42 = .ok (.dup, 1) := by decide +kernel
theorem dX10_init_43 : decode cX10_init 43 = .ok (.iconst 1, 1) := by decide +kernel
theorem dX10_init_44 : decode cX10_init 44 = .ok (.bipush 64, 2) := by decide +kernel
theorem dX10_init_46 : decode cX10_init 46 = .ok (.invokespecial 17, 3) := by decide +kernel
theorem dX10_init_49 : decode cX10_init 49 = .ok (.putfield 27, 3) := by decide +kernel
theorem dX10_init_52 : decode cX10_init 52 = .ok (.iconst 0, 1) := by decide +kernel
theorem dX10_init_53 : decode cX10_init 53 = .ok (.istore_n 1, 1) := by decide +kernel
theorem dX10_init_54 : decode cX10_init 54 = .ok (.iload_n 1, 1) := by decide +kernel
theorem dX10_init_55 : decode cX10_init 55 = .ok (.bipush 64, 2) := by decide +kernel
theorem dX10_init_57 : decode cX10_init 57 = .ok (.if_icmp .ge 20, 3) := by decide +kernel
theorem dX10_init_60 : decode cX10_init 60 = .ok (.aload_n 0, 1) := by decide +kernel
theorem dX10_init_61 : decode cX10_init 61 = .ok (.getfield 27, 3) := by decide +kernel
theorem dX10_init_64 : decode cX10_init 64 = .ok (.iconst (-1), 1) := by decide +kernel
theorem dX10_init_65 : decode cX10_init 65 = .ok (.iconst (-1), 1) := by decide +kernel
theorem dX10_init_66 : decode cX10_init 66 = .ok (.iconst (-1), 1) := by decide +kernel
theorem dX10_init_67 : decode cX10_init 67 = .ok (.invokevirtual 30, 3) := by decide +kernel
theorem dX10_init_70 : decode cX10_init 70 = .ok (.pop, 1) := by decide +kernel
theorem dX10_init_71 : decode cX10_init 71 = .ok (.iinc 1 1, 3) := by decide +kernel
theorem dX10_init_74 : decode cX10_init 74 = .ok (.goto (-20), 3) := by decide +kernel
theorem dX10_init_77 : decode cX10_init 77 = .ok (.aload_n 0, 1) := by decide +kernel
theorem dX10_init_78 : decode cX10_init 78 = .ok (.sipush 200, 3) := by decide +kernel
theorem dX10_init_81 : decode cX10_init 81 = .ok (.newarray .long, 2) := by decide +kernel
theorem dX10_init_83 : decode cX10_init 83 = .ok (.putfield 34, 3) := by decide +kernel
theorem dX10_init_86 : decode cX10_init 86 = .ok (.return_, 1) := by decide +kernel
set_option maxRecDepth 20000 in
theorem ggX11_init_X10_init : GoodIn wsX11_init wsX10_init := goodIn_ca (goodIn_r _ [30, 31, 2, 3, 32, 33, 34, 35, 36, 37, 38, 39, 40, 41, 42, 43, 44, 45, 46, 47, 48, 49, 50, 51, 52, 53, 54, 55, 56, 57, 58, 59, 60, 61, 62, 63, 64, 65, 66, 67, 68, 69, 70, 71, 72, 73, 74, 75, 76, 77, 78, 79, 80, 81, 82, 83, 84, 85, 86, 87, 153, 154, 155, 156, 157, 207, 208, 209, 210, 211, 212, 213, 214, 215, 216, 217, 218, 219] (by decide +kernel) (by decide +kernel)) (goodIn_sub (fun _ h => List.mem_cons_of_mem _ (List.mem_append_right _ h)) (by decide +kernel))
set_option maxRecDepth 20000 in
theorem gX11_init_X10_init : GoodIn wsX11_init (wsX10_init) := ggX11_init_X10_init
set_option maxRecDepth 20000 in
theorem ggX11_init_X7_init : GoodIn wsX11_init wsX7_init := goodIn_r _ [90, 91, 2, 3, 92, 93, 94, 95, 96, 97, 98, 99, 100, 101, 102, 103, 104, 105, 106, 107, 108, 109, 110, 111, 112, 220, 221, 222, 167, 168, 169] (by decide +kernel) (by decide +kernel)
set_option maxRecDepth 20000 in
theorem gX11_init_X7_init : GoodIn wsX11_init (wsX7_init) := ggX11_init_X7_init
set_option maxRecDepth 20000 in
theorem ggX11_init_X8_init : GoodIn wsX11_init wsX8_init := goodIn_r _ [115, 116, 2, 3, 117, 118, 34, 35, 119, 120, 121, 122, 123, 42, 43, 44, 45, 46, 47, 48, 49, 170, 171, 172, 173, 174, 175, 176, 177, 178, 179, 207, 208, 209] (by decide +kernel) (by decide +kernel)
set_option maxRecDepth 20000 in
theorem gX11_init_X8_init : GoodIn wsX11_init (wsX8_init) := ggX11_init_X8_init
set_option maxRecDepth 20000 in
theorem ggX11_init_X4_init : GoodIn wsX11_init wsX4_init := goodIn_r _ [126, 127, 2, 3, 128, 129, 130, 93, 94, 131, 132, 34, 35, 133, 134, 135, 99, 100, 101, 102, 103, 104, 105, 106, 107, 108, 109, 110, 111, 112, 136, 42, 43, 44, 45, 46, 47, 48, 49, 180, 181, 182, 183, 184, 185, 186, 187, 188, 189, 190, 191, 220, 221, 222, 207, 208, 209] (by decide +kernel) (by decide +kernel)
set_option maxRecDepth 20000 in
theorem gX11_init_X4_init : GoodIn wsX11_init (wsX4_init) := ggX11_init_X4_init
set_option maxRecDepth 20000 in
theorem ggX11_init_X0_init : GoodIn wsX11_init wsX0_init := goodIn_r _ [139, 140, 2, 3, 141, 142, 143, 34, 35, 144, 145, 146, 147, 148, 149, 150, 151, 152, 42, 43, 44, 45, 46, 47, 48, 49, 192, 193, 194, 195, 196, 197, 198, 199, 200, 201, 202, 203, 204, 205, 206, 207, 208, 209] (by decide +kernel) (by decide +kernel)
set_option maxRecDepth 20000 in
theorem gX11_init_X0_init : GoodIn wsX11_init (wsX0_init) := ggX11_init_X0_init
theorem dX11_init_0 : decode cX11_init 0 = .ok (.aload_n 0, 1) := by decide +kernel
theorem dX11_init_1 : decode cX11_init 1 = .ok (.invokespecial 1, 3) := by decide +kernel
theorem dX11_init_4 : decode cX11_init 4 = .ok (.aload_n 0, 1) := by decide +kernel
theorem dX11_init_5 : decode cX11_init 5 = .ok (.new 7, 3) := by decide +kernel
theorem dX11_init_8 : decode cX11_init 8 = .ok (.dup, 1) := by decide +kernel
theorem dX11_init_9 : decode cX11_init 9 = .ok (.invokespecial 9, 3) := by decide +kernel
theorem dX11_init_12 : decode cX11_init 12 = .ok (.putfield 10, 3) := by decide +kernel
theorem dX11_init_15 : decode cX11_init 15 = .ok (.aload_n 0, 1) := by decide +kernel
theorem dX11_init_16 : decode cX11_init 16 = .ok (.new 16, 3) := by decide +kernel
theorem dX11_init_19 : decode cX11_init 19 = .ok (.dup, 1) := by decide +kernel
theorem dX11_init_20 : decode cX11_init 20 = .ok (.invokespecial 18, 3) := by decide +kernel
theorem dX11_init_23 : decode cX11_init 23 = .ok (.putfield 19, 3) := by decide +kernel
theorem dX11_init_26 : decode cX11_init 26 = .ok (.aload_n 0, 1) := by decide +kernel
theorem dX11_init_27 : decode cX11_init 27 = .ok (.new 23, 3) := by decide +kernel
theorem dX11_init_30 : decode cX11_init 30 = .ok (.dup, 1) := by decide +kernel
theorem dX11_init_31 : decode cX11_init 31 = .ok (.invokespecial 25, 3) := by decide +kernel
theorem dX11_init_34 : decode cX11_init 34 = .ok (.putfield 26, 3) := by decide +kernel
theorem dX11_init_37 : decode cX11_init 37 = .ok (.aload_n 0, 1) := by decide +kernel
theorem dX11_init_38 : decode cX11_init 38 = .ok (.new 23, 3) := by decide +kernel
theorem dX11_init_41 : decode cX11_init 41 = .ok (.dup, 1) := by decide +kernel
theorem dX11_init_42 : decode cX11_init 42 = .ok (.invokespecial 25, 3) := by decide +kernel
theorem dX11_init_45 : decode cX11_init 45 = .ok (.putfield 30, 3) := by decide +kernel
theorem dX11_init_48 : decode cX11_init 48 = .ok (.aload_n 0, 1) := by decide +kernel
theorem dX11_init_49 : decode cX11_init 49 = .ok (.new 33, 3) := by decide +kernel
theorem dX11_init_52 : decode cX11_init 52 = .ok (.dup, 1) := by decide +kernel
theorem dX11_init_53 : decode cX11_init 53 = .ok (.aload_n 0, 1) := by decide +kernel
theorem dX11_init_54 : decode cX11_init 54 = .ok (.getfield 10, 3) := by decide +kernel
theorem dX11_init_57 : decode cX11_init 57 = .ok (.aload_n 0, 1) := by decide +kernel
theorem dX11_init_58 : decode cX11_init 58 = .ok (.getfield 30, 3) := by decide +kernel
theorem dX11_init_61 : decode cX11_init 61 = .ok (.invokespecial 35, 3) := by decide +kernel
theorem dX11_init_64 : decode cX11_init 64 = .ok (.putfield 38, 3) := by decide +kernel
theorem dX11_init_67 : decode cX11_init 67 = .ok (.aload_n 0, 1) := by decide +kernel
theorem dX11_init_68 : decode cX11_init 68 = .ok (.new 42, 3) := by decide +kernel
theorem dX11_init_71 : decode cX11_init 71 = .ok (.dup, 1) := by decide +kernel
theorem dX11_init_72 : decode cX11_init 72 = .ok (.aload_n 0, 1) := by decide +kernel
theorem dX11_init_73 : decode cX11_init 73 = .ok (.getfield 19, 3) := by decide +kernel
theorem dX11_init_76 : decode cX11_init 76 = .ok (.aload_n 0, 1) := by decide +kernel
theorem dX11_init_77 : decode cX11_init 77 = .ok (.getfield 10, 3) := by decide +kernel
theorem dX11_init_80 : decode cX11_init 80 = .ok (.invokespecial 44, 3) := by decide +kernel
theorem dX11_init_83 : decode cX11_init 83 = .ok (.putfield 47, 3) := by decide +kernel
theorem dX11_init_86 : decode cX11_init 86 = .ok (.aload_n 0, 1) := by decide +kernel
theorem dX11_init_87 : decode cX11_init 87 = .ok (.iconst 0, 1) := by decide +kernel
theorem dX11_init_88 : decode cX11_init 88 = .ok (.putfield 51, 3) := by decide +kernel
theorem dX11_init_91 : decode cX11_init 91 = .ok (.aload_n 0, 1) := by decide +kernel
theorem dX11_init_92 : decode cX11_init 92 = .ok (.iconst 0, 1) := by decide +kernel
theorem dX11_init_93 : decode cX11_init 93 = .ok (.putfield 55, 3) := by decide +kernel
theorem dX11_init_96 : decode cX11_init 96 = .ok (.aload_n 0, 1) := by decide +kernel
theorem dX11_init_97 : decode cX11_init 97 = .ok (.lconst 0, 1) := by decide +kernel
theorem dX11_init_98 : decode cX11_init 98 = .ok (.putfield 59, 3) := by decide +kernel
theorem dX11_init_101 : decode cX11_init 101 = .ok (.return_, 1) := by decide +kernel
theorem dJxa1e45_init_da8c8_0 : decode cJxa1e45_init_da8c8 0 = .ok (.aload_n 0, 1) := by decide +kernel
theorem dJxa1e45_init_da8c8_1 : decode cJxa1e45_init_da8c8 1 = .ok (.invokespecial 1, 3) := by decide +kernel
theorem dJxa1e45_init_da8c8_4 : decode cJxa1e45_init_da8c8 4 = .ok (.return_, 1) := by decide +kernel
set_option maxRecDepth 20000 in
theorem ggJxc12de_init_da8c8_Jxa1e45_init_da8c8 : GoodIn wsJxc12de_init_da8c8 wsJxa1e45_init_da8c8 := goodIn_r _ [5, 6, 7, 8] (by decide +kernel) (by decide +kernel)
set_option maxRecDepth 20000 in
theorem gJxc12de_init_da8c8_Jxa1e45_init_da8c8 : GoodIn wsJxc12de_init_da8c8 (wsJxa1e45_init_da8c8) := ggJxc12de_init_da8c8_Jxa1e45_init_da8c8
theorem dJxc12de_init_da8c8_0 : decode cJxc12de_init_da8c8 0 = .ok (.aload_n 0, 1) := by decide +kernel
theorem dJxc12de_init_da8c8_1 : decode cJxc12de_init_da8c8 1 = .ok (.invokespecial 1, 3) := by decide +kernel
theorem dJxc12de_init_da8c8_4 : decode cJxc12de_init_da8c8 4 = .ok (.aload_n 0, 1) := by decide +kernel
theorem dJxc12de_init_da8c8_5 : decode cJxc12de_init_da8c8 5 = .ok (.iconst 0, 1) := by decide +kernel
theorem dJxc12de_init_da8c8_6 : decode cJxc12de_init_da8c8 6 = .ok (.putfield 7, 3) := by decide +kernel
theorem dJxc12de_init_da8c8_9 : decode cJxc12de_init_da8c8 9 = .ok (.return_, 1) := by decide +kernel
set_option maxRecDepth 20000 in
theorem ggJx4a65c_init_da8c8_Jxc12de_init_da8c8 : GoodIn wsJx4a65c_init_da8c8 wsJxc12de_init_da8c8 := goodIn_r _ [6, 7, 8, 9, 10, 11, 12, 13, 14, 15, 16, 17] (by decide +kernel) (by decide +kernel)
set_option maxRecDepth 20000 in
theorem gJx4a65c_init_da8c8_Jxc12de_init_da8c8 : GoodIn wsJx4a65c_init_da8c8 (wsJxc12de_init_da8c8) := ggJx4a65c_init_da8c8_Jxc12de_init_da8c8
theorem dJx4a65c_init_da8c8_0 : decode cJx4a65c_init_da8c8 0 = .ok (.aload_n 0, 1) := by decide +kernel
theorem dJx4a65c_init_da8c8_1 : decode cJx4a65c_init_da8c8 1 = .ok (.invokespecial 1, 3) := by decide +kernel
theorem dJx4a65c_init_da8c8_4 : decode cJx4a65c_init_da8c8 4 = .ok (.aload_n 0, 1) := by decide +kernel
theorem dJx4a65c_init_da8c8_5 : decode cJx4a65c_init_da8c8 5 = .ok (.getstatic 39, 3) := by decide +kernel
theorem dJx4a65c_init_da8c8_8 : decode cJx4a65c_init_da8c8 8 = .ok (.putfield 9, 3) := by decide +kernel
theorem dJx4a65c_init_da8c8_11 : decode cJx4a65c_init_da8c8 11 = .ok (.return_, 1) := by decide +kernel
theorem dJ7_rangeCheck_23922_0 : decode cJ7_rangeCheck_23922 0 = .ok (.iload_n 1, 1) := by decide +kernel
theorem dJ7_rangeCheck_23922_1 : decode cJ7_rangeCheck_23922 1 = .ok (.iload_n 2, 1) := by decide +kernel
theorem dJ7_rangeCheck_23922_2 : decode cJ7_rangeCheck_23922 2 = .ok (.if_icmp .le 44, 3) := by decide +kernel
theorem dJ7_rangeCheck_23922_5 : decode cJ7_rangeCheck_23922 5 = .ok (.new 43, 3) := by decide +kernel
theorem dJ7_rangeCheck_23922_8 : decode cJ7_rangeCheck_23922 8 = .ok (.dup, 1) := by decide +kernel
theorem dJ7_rangeCheck_23922_9 : decode cJ7_rangeCheck_23922 9 = .ok (.new 45, 3) := by decide +kernel
theorem dJ7_rangeCheck_23922_12 : decode cJ7_rangeCheck_23922 12 = .ok (.dup, 1) := by decide +kernel
theorem dJ7_rangeCheck_23922_13 : decode cJ7_rangeCheck_23922 13 = .ok (.invokespecial 47, 3) := by decide +kernel
theorem dJ7_rangeCheck_23922_16 : decode cJ7_rangeCheck_23922 16 = .ok (.ldc 48, 2) := by decide +kernel
theorem dJ7_rangeCheck_23922_18 : decode cJ7_rangeCheck_23922 18 = .ok (.invokevirtual 50, 3) := by decide +kernel
theorem dJ7_rangeCheck_23922_21 : decode cJ7_rangeCheck_23922 21 = .ok (.iload_n 1, 1) := by decide +kernel
theorem dJ7_rangeCheck_23922_22 : decode cJ7_rangeCheck_23922 22 = .ok (.invokevirtual 54, 3) := by decide +kernel
theorem dJ7_rangeCheck_23922_25 : decode cJ7_rangeCheck_23922 25 = .ok (.ldc 57, 2) := by decide +kernel
theorem dJ7_rangeCheck_23922_27 : decode cJ7_rangeCheck_23922 27 = .ok (.invokevirtual 50, 3) := by decide +kernel
theorem dJ7_rangeCheck_23922_30 : decode cJ7_rangeCheck_23922 30 = .ok (.iload_n 2, 1) := by decide +kernel
theorem dJ7_rangeCheck_23922_31 : decode cJ7_rangeCheck_23922 31 = .ok (.invokevirtual 54, 3) := by decide +kernel
theorem dJ7_rangeCheck_23922_34 : decode cJ7_rangeCheck_23922 34 = .ok (.ldc 59, 2) := by decide +kernel
theorem dJ7_rangeCheck_23922_36 : decode cJ7_rangeCheck_23922 36 = .ok (.invokevirtual 50, 3) := by decide +kernel
theorem dJ7_rangeCheck_23922_39 : decode cJ7_rangeCheck_23922 39 = .ok (.invokevirtual 61, 3) := by decide +kernel
theorem dJ7_rangeCheck_23922_42 : decode cJ7_rangeCheck_23922 42 = .ok (.invokespecial 65, 3) := by decide +kernel
theorem dJ7_rangeCheck_23922_45 : decode cJ7_rangeCheck_23922 45 = .ok (.athrow, 1) := by decide +kernel
theorem dJ7_rangeCheck_23922_46 : decode cJ7_rangeCheck_23922 46 = .ok (.iload_n 1, 1) := by decide +kernel
theorem dJ7_rangeCheck_23922_47 : decode cJ7_rangeCheck_23922 47 = .ok (.ifCond .ge 12, 3) := by decide +kernel
theorem dJ7_rangeCheck_23922_50 : decode cJ7_rangeCheck_23922 50 = .ok (.new 68, 3) := by decide +kernel
theorem dJ7_rangeCheck_23922_53 : decode cJ7_rangeCheck_23922 53 = .ok (.dup, 1) := by decide +kernel
theorem dJ7_rangeCheck_23922_54 : decode cJ7_rangeCheck_23922 54 = .ok (.iload_n 1, 1) := by decide +kernel
theorem dJ7_rangeCheck_23922_55 : decode cJ7_rangeCheck_23922 55 = .ok (.invokespecial 70, 3) := by decide +kernel
theorem dJ7_rangeCheck_23922_58 : decode cJ7_rangeCheck_23922 58 = .ok (.athrow, 1) := by decide +kernel
theorem dJ7_rangeCheck_23922_59 : decode cJ7_rangeCheck_23922 59 = .ok (.iload_n 2, 1) := by decide +kernel
theorem dJ7_rangeCheck_23922_60 : decode cJ7_rangeCheck_23922 60 = .ok (.iload_n 0, 1) := by decide +kernel
theorem dJ7_rangeCheck_23922_61 : decode cJ7_rangeCheck_23922 61 = .ok (.if_icmp .le 12, 3) := by decide +kernel
theorem dJ7_rangeCheck_23922_64 : decode cJ7_rangeCheck_23922 64 = .ok (.new 68, 3) := by decide +kernel
theorem dJ7_rangeCheck_23922_67 : decode cJ7_rangeCheck_23922 67 = .ok (.dup, 1) := by decide +kernel
theorem dJ7_rangeCheck_23922_68 : decode cJ7_rangeCheck_23922 68 = .ok (.iload_n 2, 1) := by decide +kernel
theorem dJ7_rangeCheck_23922_69 : decode cJ7_rangeCheck_23922 69 = .ok (.invokespecial 70, 3) := by decide +kernel
theorem dJ7_rangeCheck_23922_72 : decode cJ7_rangeCheck_23922 72 = .ok (.athrow, 1) := by decide +kernel
theorem dJ7_rangeCheck_23922_73 : decode cJ7_rangeCheck_23922 73 = .ok (.return_, 1) := by decide +kernel
set_option maxRecDepth 20000 in
theorem ggJ7_fill_fda19_J7_rangeCheck_23922 : GoodIn wsJ7_fill_fda19 wsJ7_rangeCheck_23922 := goodIn_r _ [4, 5, 6, 7, 8, 9, 10, 11, 12, 13, 14, 15, 16, 17, 18, 19, 20] (by decide +kernel) (by decide +kernel)
set_option maxRecDepth 20000 in
theorem gJ7_fill_fda19_J7_rangeCheck_23922 : GoodIn wsJ7_fill_fda19 (va_wsS RJ7 13 yJ7_rangeCheck_23922 wsJ7_rangeCheck_23922) := goodIn_app (goodIn_of _ (by decide +kernel)) ggJ7_fill_fda19_J7_rangeCheck_23922
theorem dJ7_fill_fda19_0 : decode cJ7_fill_fda19 0 = .ok (.aload_n 0, 1) := by decide +kernel
theorem dJ7_fill_fda19_1 : decode cJ7_fill_fda19 1 = .ok (.arraylength, 1) := by decide +kernel
theorem dJ7_fill_fda19_2 : decode cJ7_fill_fda19 2 = .ok (.iload_n 1, 1) := by decide +kernel
theorem dJ7_fill_fda19_3 : decode cJ7_fill_fda19 3 = .ok (.iload_n 2, 1) := by decide +kernel
theorem dJ7_fill_fda19_4 : decode cJ7_fill_fda19 4 = .ok (.invokestatic 13, 3) := by decide +kernel
theorem dJ7_fill_fda19_7 : decode cJ7_fill_fda19 7 = .ok (.iload_n 1, 1) := by decide +kernel
theorem dJ7_fill_fda19_8 : decode cJ7_fill_fda19 8 = .ok (.istore 4, 2) := by decide +kernel
theorem dJ7_fill_fda19_10 : decode cJ7_fill_fda19 10 = .ok (.iload 4, 2) := by decide +kernel
theorem dJ7_fill_fda19_12 : decode cJ7_fill_fda19 12 = .ok (.iload_n 2, 1) := by decide +kernel
theorem dJ7_fill_fda19_13 : decode cJ7_fill_fda19 13 = .ok (.if_icmp .ge 14, 3) := by decide +kernel
theorem dJ7_fill_fda19_16 : decode cJ7_fill_fda19 16 = .ok (.aload_n 0, 1) := by decide +kernel
theorem dJ7_fill_fda19_17 : decode cJ7_fill_fda19 17 = .ok (.iload 4, 2) := by decide +kernel
theorem dJ7_fill_fda19_19 : decode cJ7_fill_fda19 19 = .ok (.iload_n 3, 1) := by decide +kernel
theorem dJ7_fill_fda19_20 : decode cJ7_fill_fda19 20 = .ok (.iastore, 1) := by decide +kernel
theorem dJ7_fill_fda19_21 : decode cJ7_fill_fda19 21 = .ok (.iinc 4 1, 3) := by decide +kernel
theorem dJ7_fill_fda19_24 : decode cJ7_fill_fda19 24 = .ok (.goto (-14), 3) := by decide +kernel
theorem dJ7_fill_fda19_27 : decode cJ7_fill_fda19 27 = .ok (.return_, 1) := by decide +kernel
abbrev vwCl : List vw_C := [(RJ0, TJ0, 4), (RJ4, TJ4, 4), (RJx00060, TJx00060, 6), (RJx4a65c, TJx4a65c, 3), (RX0, TX0, 15), (RX1, TX1, 9), (RX2, TX2, 10), (RX3, TX3, 4), (RX4, TX4, 12), (RX5, TX5, 9), (RX6, TX6, 5), (RX7, TX7, 3), (RX8, TX8, 10), (RX9, TX9, 3), (RX10, TX10, 5), (RX11, TX11, 9), (RX12, TX12, 3), (RX13, TX13, 9), (RX14, TX14, 6), (RX15, TX15, 6), (RX16, TX16, 3), (RX17, TX17, 4), (RX18, TX18, 70)]
end
section
/-! Own rows: contracts of one shape (a list of cells before, one behind), their calls and ends in one row each. -/
/-- array classes of one component type are one -/
theorem o_ty1 {D : va_G} {cl : List vw_C} {tys : List (ClassId × FieldType)} {U : State} (h : va_K D cl tys U) {i j : Nat} {c1 c2 : ClassId} {ty : FieldType} (hi : tys[i]? = some (c1, ty)) (hj : tys[j]? = some (c2, ty)) : c1 = c2 := by
  have h1 := (h.2 i _ hi).2
  have h2 := (h.2 j _ hj).2
  unfold va_RA at h1 h2
  cases ty with
  | object C =>
    obtain ⟨k1, m1, -, -, -, e1⟩ := h1
    obtain ⟨k2, m2, -, -, -, e2⟩ := h2
    exact Option.some.inj (e1.symm.trans e2)
  | _ => exact Option.some.inj (h1.symm.trans h2)
/-- the exceptions that the class throws -/
def oExc (E : String) : Prop := E = "java/lang/IndexOutOfBoundsException" ∨ E = "java/lang/IllegalArgumentException" ∨ E = "java/lang/IllegalStateException" ∨ E = "java/lang/UnsupportedOperationException" ∨ E = "java/util/NoSuchElementException" ∨ E = "java/lang/ArithmeticException"
def oUS : String := "UNASSIGNED_STACK"
/-- what lies outside: the statics that a throw and a new list read, e0 the list's empty array -/
def oEn (e0 : Nat) (A : Nat → Prop) (U : State) (H : Heap) : Prop :=
  vx_Zq Bundle.tN "UNASSIGNED_STACK" Bundle.steD A U H ∧ vx_Zq Bundle.tN "SUPPRESSED_SENTINEL" Bundle.listD A U H ∧ va_Z "java/util/ArrayList" "DEFAULTCAPACITY_EMPTY_ELEMENTDATA" "[Ljava/lang/Object;" (.ref e0) A U H ∧ (∃ cell : Cell, H[e0]? = some cell ∧ U.isArrayOf cell (.object "java/lang/Object") ∧ cell.slots.size = 0 ∧ e0 < H.size ∧ ¬ A e0) ∧ ∀ E, oExc E → va_Nw (.castable E E) U
theorem oEn.same {e0 : Nat} {A : Nat → Prop} {u U : State} {H : Heap} (h : u.vm = U.vm) (q : oEn e0 A u H) : oEn e0 A U H := by
  have hal : u.vm.Alike U.vm := by rw [h]; exact Vm.Alike.refl _
  obtain ⟨h1, h2, h3, ⟨cell, h4, h5, h6⟩, h7⟩ := q
  exact ⟨vx_Zq.moved hal h1, vx_Zq.moved hal h2, va_Z.moved hal h3, ⟨cell, h4, State.isArrayOf_alike hal h5, h6⟩, fun E hE => va_Nw.same rfl h (h7 E hE)⟩
theorem oEn.call {e0 : Nat} {A A1 : Nat → Prop} {s U : State} {H : Heap} {locs : List Loc} (q : oEn e0 A s s.heap) (hS : va_S A s.heap H locs) (hA : ∀ x, A1 x → A x) (hW : s.WarmedH U.vm) : oEn e0 A1 U H := by
  have hal := hW.alike
  obtain ⟨h1, h2, h3, ⟨cell, h4, h5, h6, h7, h8⟩, h9⟩ := q
  have hk : ∀ a : Nat, a < s.heap.size → ¬ A a → H[a]? = s.heap[a]? := hS.2.1
  exact ⟨((vx_Zq.moved hal h1).kept hk).narrow hA, ((vx_Zq.moved hal h2).kept hk).narrow hA, ((va_Z.moved hal h3).kept hk).narrow hA, ⟨cell, by rw [hk e0 h7 h8]; exact h4, State.isArrayOf_alike hal h5, h6, Nat.lt_of_lt_of_le h7 hS.1, fun z => h8 (hA e0 z)⟩, fun E hE => va_Nw.warmC hW (h9 E hE)⟩
def oPre (e0 : Nat) (D : va_G) (tys : List (ClassId × FieldType)) (wc : va_W) (sz : Nat) (U : State) : Prop := U.heap.size = sz ∧ va_P D vwCl wc U.heap ∧ va_K D vwCl tys U ∧ va_D (fun _ => True) wc ∧ oEn e0 (va_A wc sz) U U.heap
def oB {S : Type} (D : va_G) (tys : List (ClassId × FieldType)) (A : Nat → Prop) (w1 : S → va_W) : S → State → Prop := fun u t => va_P D vwCl (w1 u) t.heap ∧ va_K D vwCl tys t ∧ va_D A (w1 u)
theorem oPre_blind {e0 : Nat} {D : va_G} {tys : List (ClassId × FieldType)} {wc : va_W} {sz : Nat} {av : List Value} : FrameBlind (va_Pc av (oPre e0 D tys wc sz)) := fun a U g mk q => by
  obtain ⟨q0, q1, qP, qK, qD, qE⟩ := q
  exact ⟨q0, q1, qP, va_K.moved (u := U) (U := U.calling g mk a) (Vm.Alike.refl U.vm) qK, qD, oEn.same (u := U) (U := U.calling g mk a) rfl qE⟩
/-- top of the stack: a number by another text -/
theorem o_top {p : Program} {l : Launch} {e : Env} {R : Room} {s : State} {m : MethodId} {args : Array Value} {below : List Frame} {meth : Method} {c : Code} {H : Heap} {locs : List Loc} {cells slots : Nat} {Q : State → Prop} {pc : Nat} {ls : Array Slot} {rest : List Value} {x v : Int32} (h : x = v) (k : W p l e R s m args below meth c H locs cells slots Q (F0 m pc ls (.int v :: rest))) : W p l e R s m args below meth c H locs cells slots Q (F0 m pc ls (.int x :: rest)) := by
  subst h; exact k
theorem o_nle {a b : Nat} (h : b < a) (ha : a < 2 ^ 31) : ¬ nI a ≤ nI b := nI_ge h ha
theorem o_nlt {a b : Nat} (h : b ≤ a) (ha : a < 2 ^ 31) : ¬ nI a < nI b := nI_nlt h ha
theorem o_lt {a b : Nat} (h : a < b) (hb : b < 2 ^ 31) : nI a < nI b := nI_lt h hb
theorem o_le {a b : Nat} (h : a ≤ b) (hb : b < 2 ^ 31) : nI a ≤ nI b := nI_le h hb
theorem o_ne {a b : Nat} (ha : a < 2 ^ 31) (hb : b < 2 ^ 31) (h : a ≠ b) : ¬ nI a = nI b := fun z => h ((nI_eq ha hb).mp z)
theorem o_nn {x : Int32} (h : ¬ x < 0) : 0 ≤ x := by
  have h1 : ¬ x.toInt < (0 : Int32).toInt := fun z => h (Int32.lt_iff_toInt_lt.mpr z)
  exact Int32.le_iff_toInt_le.mpr (by omega)
theorem o_nn0 {x : Int32} (h : 0 ≤ x) : ¬ x < 0 := fun z => by
  have h1 := Int32.lt_iff_toInt_lt.mp z
  have h2 := Int32.le_iff_toInt_le.mp h
  omega
theorem o_nnm {x : Int32} (h : ¬ x < 0) : ¬ x ≤ -1 := fun z => by
  have h1 : ¬ x.toInt < (0 : Int32).toInt := fun z => h (Int32.lt_iff_toInt_lt.mpr z)
  have h2 := Int32.le_iff_toInt_le.mp z
  have h3 : (-1 : Int32).toInt = -1 := rfl
  have h4 : (0 : Int32).toInt = 0 := rfl
  omega
theorem o_subP {D : va_G} {wH wc : va_W} {H : Heap} (hP : va_P D vwCl wH H) (isC : List Nat) (hC : isC.map (fun i => wH[i]?) = wc.map some) : va_P D vwCl wc H := fun k x hk => by
  have h1 : (isC.map (fun i => wH[i]?))[k]? = some (some x) := by rw [hC]; simp [hk]
  rw [List.getElem?_map] at h1
  cases h2 : isC[k]? with
  | none => rw [h2] at h1; cases h1
  | some i => rw [h2] at h1; exact hP i x (Option.some.inj h1)
def oCi (l : Launch) (e0 : Nat) (D : va_G) (tys : List (ClassId × FieldType)) (y : MethodName) (ws : List Cond) (rm : Room) (av : List Value) (wc : va_W) {S : Type} (post : Int32 → S → Prop) (w1 : S → va_W) (mc ms : Nat) : Prop :=
  ∀ sz : Nat, Met l y ws rm (va_Pc av (oPre e0 D tys wc sz)) (va_Qi post (oB D tys (va_A wc sz) w1) (va_A wc sz)) mc ms (va_A wc sz)
def oCv (l : Launch) (e0 : Nat) (D : va_G) (tys : List (ClassId × FieldType)) (y : MethodName) (ws : List Cond) (rm : Room) (av : List Value) (wc : va_W) {S : Type} (post : S → Prop) (w1 : S → va_W) (mc ms : Nat) : Prop :=
  ∀ sz : Nat, Met l y ws rm (va_Pc av (oPre e0 D tys wc sz)) (va_Qv post (oB D tys (va_A wc sz) w1) (va_A wc sz)) mc ms (va_A wc sz)
def oCl (l : Launch) (e0 : Nat) (D : va_G) (tys : List (ClassId × FieldType)) (y : MethodName) (ws : List Cond) (rm : Room) (av : List Value) (wc : va_W) {S : Type} (post : Int64 → S → Prop) (w1 : S → va_W) (mc ms : Nat) : Prop :=
  ∀ sz : Nat, Met l y ws rm (va_Pc av (oPre e0 D tys wc sz)) (va_Ql post (oB D tys (va_A wc sz) w1) (va_A wc sz)) mc ms (va_A wc sz)
def oCq (l : Launch) (e0 : Nat) (D : va_G) (tys : List (ClassId × FieldType)) (y : MethodName) (ws : List Cond) (rm : Room) (av : List Value) (wc : va_W) {S : Type} (post : Option Nat → S → Prop) (w1 : S → va_W) (mc ms : Nat) : Prop :=
  ∀ sz : Nat, Met l y ws rm (va_Pc av (oPre e0 D tys wc sz)) (va_Qq post (oB D tys (va_A wc sz) w1) (va_A wc sz)) mc ms (va_A wc sz)
/-- it throws E, and what was there is unchanged -/
def oXC (E : String) (sz : Nat) : String → State → State → Prop := vx_X (S := Unit) (fun _ => True) (fun E' _ _ => E' = E) (fun q => sz ≤ q)
def oCx (l : Launch) (e0 : Nat) (D : va_G) (tys : List (ClassId × FieldType)) (y : MethodName) (ws : List Cond) (rm : Room) (av : List Value) (wc : va_W) (E : String) (mc ms : Nat) : Prop :=
  ∀ sz : Nat, vx_Met l y ws rm (va_Pc av (oPre e0 D tys wc sz)) (fun _ _ _ _ => False) (oXC E sz) mc ms (va_A wc sz)
section OWN
variable {l : Launch} {e0 : Nat} {D : va_G} {tys : List (ClassId × FieldType)} {y : MethodName} {ws ws' : List Cond} {rm : Room} {av : List Value} {wc : va_W} {S : Type} {w1 : S → va_W} {mc ms : Nat} {cc : ByteArray} {maxL : Nat} {ret : Option FieldType}
theorem oi_of {post : Int32 → S → Prop} (hy : plainName y.cls = true) (hw : ws = Cond.code y cc maxL ret :: ws') (hlen : (lg_sl av).length ≤ maxL)
    (body : ∀ (p : Program) (e : Env) (s : State) (m : MethodId) (below : List Frame) (meth : Method) (c : Code) (A : Nat → Prop) (ls : Array Slot), p.tables.exec = Jvm.exec → c.code = cc → c.maxLocals = maxL → meth.sig.returnType = ret → (∀ w ∈ ws, w.before av.toArray s = true) → s.vm.findClass y.cls = some m.cls → meth.locks = false → meth.name = y.name → (∀ q, s.heap.size ≤ q → A q) → va_K D vwCl tys s → va_P D vwCl wc s.heap → va_D A wc → va_S A s.heap s.heap [] → oEn e0 A s s.heap → lv_has ls maxL (lv_args 0 av) → 
      W p l e rm s m av.toArray below meth c s.heap [] 0 0 (MQ below (va_Qi post (oB D tys A w1) A) av.toArray s mc ms A) (F0 m 0 ls [])) : oCi l e0 D tys y ws rm av wc post w1 mc ms := by
  intro sz
  refine Met.ofW (cc := cc) (maxL := maxL) (ret := ret) hy hw ?_
  intro p e s m args below meth c s₁ B hml hv
  obtain ⟨rfl, hsz, hP, hK, hD0, hE⟩ := hv
  subst hsz
  have hl := lv_entry av (n := maxL) hlen
  rw [lg_entry_eq]
  exact body p e s m below meth c (va_A wc s.heap.size) _ B.exec B.bytes hml B.returns (atoms_spec (ws := ws) B.pre) (findClass_of_methodNamed B.named) B.notSynchronized (name_of_methodNamed B.named B.method).1 (fun q h => Or.inr h) hK hP hD0.self va_S.rf hE hl
theorem ov_of {post : S → Prop} (hy : plainName y.cls = true) (hw : ws = Cond.code y cc maxL ret :: ws') (hlen : (lg_sl av).length ≤ maxL)
    (body : ∀ (p : Program) (e : Env) (s : State) (m : MethodId) (below : List Frame) (meth : Method) (c : Code) (A : Nat → Prop) (ls : Array Slot), p.tables.exec = Jvm.exec → c.code = cc → c.maxLocals = maxL → meth.sig.returnType = ret → (∀ w ∈ ws, w.before av.toArray s = true) → s.vm.findClass y.cls = some m.cls → meth.locks = false → meth.name = y.name → (∀ q, s.heap.size ≤ q → A q) → va_K D vwCl tys s → va_P D vwCl wc s.heap → va_D A wc → va_S A s.heap s.heap [] → oEn e0 A s s.heap → lv_has ls maxL (lv_args 0 av) → 
      W p l e rm s m av.toArray below meth c s.heap [] 0 0 (MQ below (va_Qv post (oB D tys A w1) A) av.toArray s mc ms A) (F0 m 0 ls [])) : oCv l e0 D tys y ws rm av wc post w1 mc ms := by
  intro sz
  refine Met.ofW (cc := cc) (maxL := maxL) (ret := ret) hy hw ?_
  intro p e s m args below meth c s₁ B hml hv
  obtain ⟨rfl, hsz, hP, hK, hD0, hE⟩ := hv
  subst hsz
  have hl := lv_entry av (n := maxL) hlen
  rw [lg_entry_eq]
  exact body p e s m below meth c (va_A wc s.heap.size) _ B.exec B.bytes hml B.returns (atoms_spec (ws := ws) B.pre) (findClass_of_methodNamed B.named) B.notSynchronized (name_of_methodNamed B.named B.method).1 (fun q h => Or.inr h) hK hP hD0.self va_S.rf hE hl
theorem ol_of {post : Int64 → S → Prop} (hy : plainName y.cls = true) (hw : ws = Cond.code y cc maxL ret :: ws') (hlen : (lg_sl av).length ≤ maxL)
    (body : ∀ (p : Program) (e : Env) (s : State) (m : MethodId) (below : List Frame) (meth : Method) (c : Code) (A : Nat → Prop) (ls : Array Slot), p.tables.exec = Jvm.exec → c.code = cc → c.maxLocals = maxL → meth.sig.returnType = ret → (∀ w ∈ ws, w.before av.toArray s = true) → s.vm.findClass y.cls = some m.cls → meth.locks = false → meth.name = y.name → (∀ q, s.heap.size ≤ q → A q) → va_K D vwCl tys s → va_P D vwCl wc s.heap → va_D A wc → va_S A s.heap s.heap [] → oEn e0 A s s.heap → lv_has ls maxL (lv_args 0 av) → 
      W p l e rm s m av.toArray below meth c s.heap [] 0 0 (MQ below (va_Ql post (oB D tys A w1) A) av.toArray s mc ms A) (F0 m 0 ls [])) : oCl l e0 D tys y ws rm av wc post w1 mc ms := by
  intro sz
  refine Met.ofW (cc := cc) (maxL := maxL) (ret := ret) hy hw ?_
  intro p e s m args below meth c s₁ B hml hv
  obtain ⟨rfl, hsz, hP, hK, hD0, hE⟩ := hv
  subst hsz
  have hl := lv_entry av (n := maxL) hlen
  rw [lg_entry_eq]
  exact body p e s m below meth c (va_A wc s.heap.size) _ B.exec B.bytes hml B.returns (atoms_spec (ws := ws) B.pre) (findClass_of_methodNamed B.named) B.notSynchronized (name_of_methodNamed B.named B.method).1 (fun q h => Or.inr h) hK hP hD0.self va_S.rf hE hl
theorem oq_of {post : Option Nat → S → Prop} (hy : plainName y.cls = true) (hw : ws = Cond.code y cc maxL ret :: ws') (hlen : (lg_sl av).length ≤ maxL)
    (body : ∀ (p : Program) (e : Env) (s : State) (m : MethodId) (below : List Frame) (meth : Method) (c : Code) (A : Nat → Prop) (ls : Array Slot), p.tables.exec = Jvm.exec → c.code = cc → c.maxLocals = maxL → meth.sig.returnType = ret → (∀ w ∈ ws, w.before av.toArray s = true) → s.vm.findClass y.cls = some m.cls → meth.locks = false → meth.name = y.name → (∀ q, s.heap.size ≤ q → A q) → va_K D vwCl tys s → va_P D vwCl wc s.heap → va_D A wc → va_S A s.heap s.heap [] → oEn e0 A s s.heap → lv_has ls maxL (lv_args 0 av) → 
      W p l e rm s m av.toArray below meth c s.heap [] 0 0 (MQ below (va_Qq post (oB D tys A w1) A) av.toArray s mc ms A) (F0 m 0 ls [])) : oCq l e0 D tys y ws rm av wc post w1 mc ms := by
  intro sz
  refine Met.ofW (cc := cc) (maxL := maxL) (ret := ret) hy hw ?_
  intro p e s m args below meth c s₁ B hml hv
  obtain ⟨rfl, hsz, hP, hK, hD0, hE⟩ := hv
  subst hsz
  have hl := lv_entry av (n := maxL) hlen
  rw [lg_entry_eq]
  exact body p e s m below meth c (va_A wc s.heap.size) _ B.exec B.bytes hml B.returns (atoms_spec (ws := ws) B.pre) (findClass_of_methodNamed B.named) B.notSynchronized (name_of_methodNamed B.named B.method).1 (fun q h => Or.inr h) hK hP hD0.self va_S.rf hE hl
theorem ox_of {E : String} (hy : plainName y.cls = true) (hw : ws = Cond.code y cc maxL ret :: ws') (hlen : (lg_sl av).length ≤ maxL)
    (body : ∀ (p : Program) (e : Env) (s : State) (m : MethodId) (below : List Frame) (meth : Method) (c : Code) (A : Nat → Prop) (ls : Array Slot), (∀ x ∈ c.exceptionTable.toList, False) → p.tables.exec = Jvm.exec → c.code = cc → c.maxLocals = maxL → meth.sig.returnType = ret → (∀ w ∈ ws, w.before av.toArray s = true) → s.vm.findClass y.cls = some m.cls → meth.locks = false → meth.name = y.name → (∀ q, s.heap.size ≤ q → A q) → va_K D vwCl tys s → va_P D vwCl wc s.heap → va_D A wc → va_S A s.heap s.heap [] → oEn e0 A s s.heap → lv_has ls maxL (lv_args 0 av) →
      W p l e rm s m av.toArray below meth c s.heap [] 0 0 (vx_MQ below (fun _ _ _ _ => False) (oXC E s.heap.size) av.toArray s mc ms A) (F0 m 0 ls [])) : oCx l e0 D tys y ws rm av wc E mc ms := by
  intro sz
  refine vx_ofW (cc := cc) (maxL := maxL) (ret := ret) hy hw ?_
  intro p e s m args below meth c s₁ B hml hno hv
  obtain ⟨rfl, hsz, hP, hK, hD0, hE⟩ := hv
  subst hsz
  have hl := lv_entry av (n := maxL) hlen
  rw [lg_entry_eq]
  exact body p e s m below meth c (va_A wc s.heap.size) _ hno B.exec B.bytes hml B.returns (atoms_spec (ws := ws) B.pre) (findClass_of_methodNamed B.named) B.notSynchronized (name_of_methodNamed B.named B.method).1 (fun q h => Or.inr h) hK hP hD0.self va_S.rf hE hl
end OWN
section OWNW
variable {p : Program} {l : Launch} {e : Env} {R : Room} {s : State} {m : MethodId} {args : Array Value} {below : List Frame} {meth : Method} {c : Code} {H : Heap} {locs : List Loc} {cells slots : Nat} {Q : State → Prop}
variable {cc : ByteArray} {pc : Nat} {ls : Array Slot} {rest : List Value} {e0 : Nat} {D : va_G} {A : Nat → Prop} {a : Nat} {tys : List (ClassId × FieldType)} {wH w' : va_W} {H0 : Heap} {mc ms : Nat}
theorem oi_ret {S : Type} {post : Int32 → S → Prop} {w1 : S → va_W} {ty : FieldType} (hexec : p.tables.exec = Jvm.exec) (hb : c.code = cc) (hr : meth.sig.returnType = some ty) (hlocks : meth.locks = false) {r : Int32} (hn : narrow ty (.int r) = .int r) (u : S) (hpost : post r u) (hK : va_K D vwCl tys s) (hP : va_P D vwCl (w1 u) H) (hD : va_D A (w1 u)) (hS : va_S A s.heap H locs) (hc : cells ≤ mc) (hs : slots ≤ ms) (hdg : decode cc pc = .ok (.ireturn, 1)) :
    W p l e R s m args below meth c H locs cells slots (MQ below (va_Qi post (oB D tys A w1) A) args s mc ms A) (F0 m pc ls [.int r]) :=
  W.widen hc hs (W.zret hexec hb hr hn (fun t ht hW => ⟨⟨r, u, rfl, hpost, by rw [ht]; exact hP, va_K.moved hW.alike hK, hD⟩, hS.F ht⟩) hS.2.2 hdg hlocks)
theorem ol_ret {S : Type} {post : Int64 → S → Prop} {w1 : S → va_W} (hexec : p.tables.exec = Jvm.exec) (hb : c.code = cc) (hr : meth.sig.returnType = some .long) (hlocks : meth.locks = false) {r : Int64} (u : S) (hpost : post r u) (hK : va_K D vwCl tys s) (hP : va_P D vwCl (w1 u) H) (hD : va_D A (w1 u)) (hS : va_S A s.heap H locs) (hc : cells ≤ mc) (hs : slots ≤ ms) (hdg : decode cc pc = .ok (.lreturn, 1)) :
    W p l e R s m args below meth c H locs cells slots (MQ below (va_Ql post (oB D tys A w1) A) args s mc ms A) (F0 m pc ls [.long r]) :=
  W.widen hc hs (W.lret hexec hb hr (fun t ht hW => ⟨⟨r, u, rfl, hpost, by rw [ht]; exact hP, va_K.moved hW.alike hK, hD⟩, hS.F ht⟩) hS.2.2 hdg hlocks)
theorem ov_ret {S : Type} {post : S → Prop} {w1 : S → va_W} (hexec : p.tables.exec = Jvm.exec) (hb : c.code = cc) (hr : meth.sig.returnType = none) (hlocks : meth.locks = false) (u : S) (hpost : post u) (hK : va_K D vwCl tys s) (hP : va_P D vwCl (w1 u) H) (hD : va_D A (w1 u)) (hS : va_S A s.heap H locs) (hc : cells ≤ mc) (hs : slots ≤ ms) (hdg : decode cc pc = .ok (.return_, 1)) :
    W p l e R s m args below meth c H locs cells slots (MQ below (va_Qv post (oB D tys A w1) A) args s mc ms A) (F0 m pc ls []) :=
  W.widen hc hs (W.vret hexec hb hr (fun t ht hW => ⟨⟨u, rfl, hpost, by rw [ht]; exact hP, va_K.moved hW.alike hK, hD⟩, hS.F ht⟩) hS.2.2 hdg hlocks)
theorem oq_ret {S : Type} {post : Option Nat → S → Prop} {w1 : S → va_W} {rt : FieldType} (hexec : p.tables.exec = Jvm.exec) (hb : c.code = cc) (hr : meth.sig.returnType = some rt) (hrt : (∃ n, rt = .object n) ∨ ∃ t, rt = .array t) (hlocks : meth.locks = false) (r : Option Nat) {v : Value} (hv : v = va_rf r) (u : S) (hpost : post r u) (hK : va_K D vwCl tys s) (hP : va_P D vwCl (w1 u) H) (hD : va_D A (w1 u)) (hS : va_S A s.heap H locs) (hc : cells ≤ mc) (hs : slots ≤ ms) (hdg : decode cc pc = .ok (.areturn, 1)) :
    W p l e R s m args below meth c H locs cells slots (MQ below (va_Qq post (oB D tys A w1) A) args s mc ms A) (F0 m pc ls [v]) := by
  subst hv
  exact W.widen hc hs (W.aret hexec hb hr hrt (by cases r with | none => exact Or.inl rfl | some a => exact Or.inr ⟨a, rfl⟩) (fun t ht hW => ⟨⟨r, u, rfl, hpost, by rw [ht]; exact hP, va_K.moved hW.alike hK, hD⟩, hS.F ht⟩) hS.2.2 hdg hlocks)
/-- a new array of numbers, its class the one that is known -/
theorem o_newa {atype : ArrayType} {ty : FieldType} (t0 : Nat) {cA0 : ClassId} (ht0 : tys[t0]? = some (cA0, ty)) (harr : (Cond.arrayClass (newarray.typeOf atype)).before args s = true) (hty : newarray.typeOf atype = ty) (hK : va_K D vwCl tys s) (hP : va_P D vwCl wH H) (hD : va_D A wH) (hS : va_S A H0 H locs) (hA : ∀ q, H0.size ≤ q → A q)
    {n : Int32} {N' : Nat} {a0 : vp_A} (hexec : p.tables.exec = Jvm.exec) (hb : c.code = cc) (ha : ∀ cA : ClassId, vp_cell cA a0 = arrV cA N' (fun _ => defaultValue ty)) (hn : ¬ n < 0) (hN : n.toNatClampNeg = N') (hbytes : N' * componentBytes ty ≤ 536870912) (hcells : cells + 1 ≤ R.cells) (hslots : slots + N' ≤ R.slots) (hdg : decode cc pc = .ok (.newarray atype, 2))
    (kk : ∀ (q : Nat) (H1 : Heap), va_P D vwCl (wH ++ [(q, .inl (cA0, a0))]) H1 → va_D A (wH ++ [(q, .inl (cA0, a0))]) → va_S A H0 H1 locs →
      W p l e R s m args below meth c H1 locs (cells + 1) (slots + N') Q (F0 m (pc + 2) ls (.ref q :: rest))) : W p l e R s m args below meth c H locs cells slots Q (F0 m pc ls (.int n :: rest)) := by
  refine va_newa hexec hb harr hty hK hP hD hS hA ha hn hN hbytes hcells hslots hdg (fun q cA H1 hK1 hP1 hD1 hS1 => ?_)
  have hlt : t0 < tys.length := (List.getElem?_eq_some_iff.mp ht0).1
  have he : cA0 = cA := o_ty1 hK1 (i := t0) (j := tys.length) (ty := ty) (by rw [List.getElem?_append_left hlt]; exact ht0) (by simp)
  subst he
  exact kk q H1 hP1 hD1 hS1
section CALLS
variable {y : MethodName} {bytes : ByteArray} {maxL nL n index : Nat} {ret : Option FieldType} {ws : List Cond} {rm : Room} {Ts : List Cond} {own C : String} {b : Addr} {As st0 : List Value} {wc wr : va_W} {S : Type} {w1 w2 : S → va_W}
theorem oi_callV {post : Int32 → S → Prop} (hx : p.tables.exec = Jvm.exec) (hb : c.code = cc) (hml : c.maxLocals = nL) (hown : s.vm.findClass own = some m.cls) (hts : ∀ w ∈ Ts, w.before args s = true) (hM : oCi l e0 D tys y ws rm (.ref b :: As) wc post w1 mc ms) (cw : CallW R s args own C index y bytes maxL ret ws rm mc ms n) (hK : va_K D vwCl tys s) (hP : va_P D vwCl wH H) (hD : va_D A wH) (hS : va_S A s.heap H locs) (hA : ∀ q, s.heap.size ≤ q → A q) (hE : oEn e0 A s s.heap)
    (isC isR : List Nat) (hC : isC.map (fun i => wH[i]?) = wc.map some) (hR : isR.map (fun i => wH[i]?) = wr.map some) (hnC : va_nd isC = true) (hnR : va_nd isR = true) (hdis : ∀ i ∈ isR, i ∉ isC) (hw2 : ∀ u, wr ++ w1 u = w2 u) (q0 ci : Nat) {fs : List Value} {q : vw_C} (hcl : vwCl[ci]? = some q) (he : wc[q0]? = some (b, .inr (ci, fs))) (hqC : q.1 = C)
    (hsize : ls.size = nL) (hst : st0 = As.reverse ++ .ref b :: rest) (hroom : (rest.map fun v => v.category).sum ≤ 8) (hn : As.length = n) (hf : cells + mc ≤ R.cells ∧ slots + ms ≤ R.slots) (hdg : decode cc pc = .ok (.invokevirtual index, 3))
    (kk : ∀ (r : Int32) (u : S) (H1 : Heap) (locs1 : List Loc), post r u → va_P D vwCl (w2 u) H1 → va_D A (w2 u) → va_S A s.heap H1 locs1 → W p l e R s m args below meth c H1 locs1 (cells + mc) (slots + ms) Q (F0 m (pc + 3) ls (.int r :: rest))) : W p l e R s m args below meth c H locs cells slots Q (F0 m pc ls st0) := by
  subst hst
  subst hqC
  have hPc : va_P D vwCl wc H := o_subP hP isC hC
  have hDc := hD.sub (ws' := wc) isC hnC hC
  have hFc := va_free (wc := wc) hD hS hA isC hC
  refine va_calli (va_runV (As := As) (rest := rest) ⟨hx, hb, hml, hown, hts⟩ (hM H.size) cw ⟨oPre_blind, va_recv hK hPc hcl he, fun U hU hW => ⟨rfl, by rw [hU], by rw [hU]; exact hPc, va_K.moved hW.alike hK, hDc.weaken (fun _ _ _ _ => trivial), by rw [hU]; exact hE.call hS hFc hW⟩⟩ rfl hn hsize rfl (lv_room hroom) hdg hf) hS (fun q _ h => hFc q h) hFc (fun r u t H1 locs1 ht hvm hpost hB hz1 hk1 hS1 => ?_)
  obtain ⟨hP1, hK1, hD1⟩ := hB
  rw [ht] at hP1
  obtain ⟨hP2, hD2⟩ := va_join (wr := wr) (w1 := w1 u) hP hD isC isR hC hR hnR hdis hk1 hFc hP1 hD1
  rw [hw2] at hP2 hD2
  exact kk r u H1 locs1 hpost hP2 hD2 hS1
theorem oi_callS {post : Int32 → S → Prop} (hx : p.tables.exec = Jvm.exec) (hb : c.code = cc) (hml : c.maxLocals = nL) (hown : s.vm.findClass own = some m.cls) (hts : ∀ w ∈ Ts, w.before args s = true) (hM : oCi l e0 D tys y ws rm As wc post w1 mc ms) (cw : CallB R s args own index y bytes maxL ret ws rm mc ms n ∧ (Cond.static y).before args s = true) (hK : va_K D vwCl tys s) (hP : va_P D vwCl wH H) (hD : va_D A wH) (hS : va_S A s.heap H locs) (hA : ∀ q, s.heap.size ≤ q → A q) (hE : oEn e0 A s s.heap)
    (isC isR : List Nat) (hC : isC.map (fun i => wH[i]?) = wc.map some) (hR : isR.map (fun i => wH[i]?) = wr.map some) (hnC : va_nd isC = true) (hnR : va_nd isR = true) (hdis : ∀ i ∈ isR, i ∉ isC) (hw2 : ∀ u, wr ++ w1 u = w2 u) 
    (hsize : ls.size = nL) (hst : st0 = As.reverse ++ rest) (hroom : (rest.map fun v => v.category).sum ≤ 8) (hn : As.length = n) (hf : cells + mc ≤ R.cells ∧ slots + ms ≤ R.slots) (hdg : decode cc pc = .ok (.invokestatic index, 3))
    (kk : ∀ (r : Int32) (u : S) (H1 : Heap) (locs1 : List Loc), post r u → va_P D vwCl (w2 u) H1 → va_D A (w2 u) → va_S A s.heap H1 locs1 → W p l e R s m args below meth c H1 locs1 (cells + mc) (slots + ms) Q (F0 m (pc + 3) ls (.int r :: rest))) : W p l e R s m args below meth c H locs cells slots Q (F0 m pc ls st0) := by
  subst hst
  have hPc : va_P D vwCl wc H := o_subP hP isC hC
  have hDc := hD.sub (ws' := wc) isC hnC hC
  have hFc := va_free (wc := wc) hD hS hA isC hC
  refine va_calli (va_runS (As := As) (rest := rest) ⟨hx, hb, hml, hown, hts⟩ (hM H.size) cw ⟨oPre_blind, fun U hU hW => ⟨rfl, by rw [hU], by rw [hU]; exact hPc, va_K.moved hW.alike hK, hDc.weaken (fun _ _ _ _ => trivial), by rw [hU]; exact hE.call hS hFc hW⟩⟩ rfl hn hsize rfl (lv_room hroom) hdg hf) hS (fun q _ h => hFc q h) hFc (fun r u t H1 locs1 ht hvm hpost hB hz1 hk1 hS1 => ?_)
  obtain ⟨hP1, hK1, hD1⟩ := hB
  rw [ht] at hP1
  obtain ⟨hP2, hD2⟩ := va_join (wr := wr) (w1 := w1 u) hP hD isC isR hC hR hnR hdis hk1 hFc hP1 hD1
  rw [hw2] at hP2 hD2
  exact kk r u H1 locs1 hpost hP2 hD2 hS1
theorem ov_callV {post : S → Prop} (hx : p.tables.exec = Jvm.exec) (hb : c.code = cc) (hml : c.maxLocals = nL) (hown : s.vm.findClass own = some m.cls) (hts : ∀ w ∈ Ts, w.before args s = true) (hM : oCv l e0 D tys y ws rm (.ref b :: As) wc post w1 mc ms) (cw : CallW R s args own C index y bytes maxL ret ws rm mc ms n) (hK : va_K D vwCl tys s) (hP : va_P D vwCl wH H) (hD : va_D A wH) (hS : va_S A s.heap H locs) (hA : ∀ q, s.heap.size ≤ q → A q) (hE : oEn e0 A s s.heap)
    (isC isR : List Nat) (hC : isC.map (fun i => wH[i]?) = wc.map some) (hR : isR.map (fun i => wH[i]?) = wr.map some) (hnC : va_nd isC = true) (hnR : va_nd isR = true) (hdis : ∀ i ∈ isR, i ∉ isC) (hw2 : ∀ u, wr ++ w1 u = w2 u) (q0 ci : Nat) {fs : List Value} {q : vw_C} (hcl : vwCl[ci]? = some q) (he : wc[q0]? = some (b, .inr (ci, fs))) (hqC : q.1 = C)
    (hsize : ls.size = nL) (hst : st0 = As.reverse ++ .ref b :: rest) (hroom : (rest.map fun v => v.category).sum ≤ 8) (hn : As.length = n) (hf : cells + mc ≤ R.cells ∧ slots + ms ≤ R.slots) (hdg : decode cc pc = .ok (.invokevirtual index, 3))
    (kk : ∀ (u : S) (H1 : Heap) (locs1 : List Loc), post u → va_P D vwCl (w2 u) H1 → va_D A (w2 u) → va_S A s.heap H1 locs1 → W p l e R s m args below meth c H1 locs1 (cells + mc) (slots + ms) Q (F0 m (pc + 3) ls rest)) : W p l e R s m args below meth c H locs cells slots Q (F0 m pc ls st0) := by
  subst hst
  subst hqC
  have hPc : va_P D vwCl wc H := o_subP hP isC hC
  have hDc := hD.sub (ws' := wc) isC hnC hC
  have hFc := va_free (wc := wc) hD hS hA isC hC
  refine va_callv (va_runV (As := As) (rest := rest) ⟨hx, hb, hml, hown, hts⟩ (hM H.size) cw ⟨oPre_blind, va_recv hK hPc hcl he, fun U hU hW => ⟨rfl, by rw [hU], by rw [hU]; exact hPc, va_K.moved hW.alike hK, hDc.weaken (fun _ _ _ _ => trivial), by rw [hU]; exact hE.call hS hFc hW⟩⟩ rfl hn hsize rfl (lv_room hroom) hdg hf) hS (fun q _ h => hFc q h) hFc (fun u t H1 locs1 ht hvm hpost hB hz1 hk1 hS1 => ?_)
  obtain ⟨hP1, hK1, hD1⟩ := hB
  rw [ht] at hP1
  obtain ⟨hP2, hD2⟩ := va_join (wr := wr) (w1 := w1 u) hP hD isC isR hC hR hnR hdis hk1 hFc hP1 hD1
  rw [hw2] at hP2 hD2
  exact kk u H1 locs1 hpost hP2 hD2 hS1
theorem ov_callS {post : S → Prop} (hx : p.tables.exec = Jvm.exec) (hb : c.code = cc) (hml : c.maxLocals = nL) (hown : s.vm.findClass own = some m.cls) (hts : ∀ w ∈ Ts, w.before args s = true) (hM : oCv l e0 D tys y ws rm As wc post w1 mc ms) (cw : CallB R s args own index y bytes maxL ret ws rm mc ms n ∧ (Cond.static y).before args s = true) (hK : va_K D vwCl tys s) (hP : va_P D vwCl wH H) (hD : va_D A wH) (hS : va_S A s.heap H locs) (hA : ∀ q, s.heap.size ≤ q → A q) (hE : oEn e0 A s s.heap)
    (isC isR : List Nat) (hC : isC.map (fun i => wH[i]?) = wc.map some) (hR : isR.map (fun i => wH[i]?) = wr.map some) (hnC : va_nd isC = true) (hnR : va_nd isR = true) (hdis : ∀ i ∈ isR, i ∉ isC) (hw2 : ∀ u, wr ++ w1 u = w2 u) 
    (hsize : ls.size = nL) (hst : st0 = As.reverse ++ rest) (hroom : (rest.map fun v => v.category).sum ≤ 8) (hn : As.length = n) (hf : cells + mc ≤ R.cells ∧ slots + ms ≤ R.slots) (hdg : decode cc pc = .ok (.invokestatic index, 3))
    (kk : ∀ (u : S) (H1 : Heap) (locs1 : List Loc), post u → va_P D vwCl (w2 u) H1 → va_D A (w2 u) → va_S A s.heap H1 locs1 → W p l e R s m args below meth c H1 locs1 (cells + mc) (slots + ms) Q (F0 m (pc + 3) ls rest)) : W p l e R s m args below meth c H locs cells slots Q (F0 m pc ls st0) := by
  subst hst
  have hPc : va_P D vwCl wc H := o_subP hP isC hC
  have hDc := hD.sub (ws' := wc) isC hnC hC
  have hFc := va_free (wc := wc) hD hS hA isC hC
  refine va_callv (va_runS (As := As) (rest := rest) ⟨hx, hb, hml, hown, hts⟩ (hM H.size) cw ⟨oPre_blind, fun U hU hW => ⟨rfl, by rw [hU], by rw [hU]; exact hPc, va_K.moved hW.alike hK, hDc.weaken (fun _ _ _ _ => trivial), by rw [hU]; exact hE.call hS hFc hW⟩⟩ rfl hn hsize rfl (lv_room hroom) hdg hf) hS (fun q _ h => hFc q h) hFc (fun u t H1 locs1 ht hvm hpost hB hz1 hk1 hS1 => ?_)
  obtain ⟨hP1, hK1, hD1⟩ := hB
  rw [ht] at hP1
  obtain ⟨hP2, hD2⟩ := va_join (wr := wr) (w1 := w1 u) hP hD isC isR hC hR hnR hdis hk1 hFc hP1 hD1
  rw [hw2] at hP2 hD2
  exact kk u H1 locs1 hpost hP2 hD2 hS1
theorem ov_callI {post : S → Prop} (hx : p.tables.exec = Jvm.exec) (hb : c.code = cc) (hml : c.maxLocals = nL) (hown : s.vm.findClass own = some m.cls) (hts : ∀ w ∈ Ts, w.before args s = true) (hM : oCv l e0 D tys y ws rm (.ref b :: As) wc post w1 mc ms) (cw : CallB R s args own index y bytes maxL none ws rm mc ms n ∧ y.name = "<init>" ∧ (Cond.instanceMethod y).before args s = true) (hK : va_K D vwCl tys s) (hP : va_P D vwCl wH H) (hD : va_D A wH) (hS : va_S A s.heap H locs) (hA : ∀ q, s.heap.size ≤ q → A q) (hE : oEn e0 A s s.heap)
    (isC isR : List Nat) (hC : isC.map (fun i => wH[i]?) = wc.map some) (hR : isR.map (fun i => wH[i]?) = wr.map some) (hnC : va_nd isC = true) (hnR : va_nd isR = true) (hdis : ∀ i ∈ isR, i ∉ isC) (hw2 : ∀ u, wr ++ w1 u = w2 u) 
    (hsize : ls.size = nL) (hst : st0 = As.reverse ++ .ref b :: rest) (hroom : (rest.map fun v => v.category).sum ≤ 8) (hn : As.length = n) (hf : cells + mc ≤ R.cells ∧ slots + ms ≤ R.slots) (hdg : decode cc pc = .ok (.invokespecial index, 3))
    (kk : ∀ (u : S) (H1 : Heap) (locs1 : List Loc), post u → va_P D vwCl (w2 u) H1 → va_D A (w2 u) → va_S A s.heap H1 locs1 → W p l e R s m args below meth c H1 locs1 (cells + mc) (slots + ms) Q (F0 m (pc + 3) ls rest)) : W p l e R s m args below meth c H locs cells slots Q (F0 m pc ls st0) := by
  subst hst
  have hPc : va_P D vwCl wc H := o_subP hP isC hC
  have hDc := hD.sub (ws' := wc) isC hnC hC
  have hFc := va_free (wc := wc) hD hS hA isC hC
  refine va_callv (va_runI (As := As) (rest := rest) ⟨hx, hb, hml, hown, hts⟩ (hM H.size) cw ⟨oPre_blind, fun U hU hW => ⟨rfl, by rw [hU], by rw [hU]; exact hPc, va_K.moved hW.alike hK, hDc.weaken (fun _ _ _ _ => trivial), by rw [hU]; exact hE.call hS hFc hW⟩⟩ rfl hn hsize rfl (lv_room hroom) hdg hf) hS (fun q _ h => hFc q h) hFc (fun u t H1 locs1 ht hvm hpost hB hz1 hk1 hS1 => ?_)
  obtain ⟨hP1, hK1, hD1⟩ := hB
  rw [ht] at hP1
  obtain ⟨hP2, hD2⟩ := va_join (wr := wr) (w1 := w1 u) hP hD isC isR hC hR hnR hdis hk1 hFc hP1 hD1
  rw [hw2] at hP2 hD2
  exact kk u H1 locs1 hpost hP2 hD2 hS1
theorem ol_callV {post : Int64 → S → Prop} (hx : p.tables.exec = Jvm.exec) (hb : c.code = cc) (hml : c.maxLocals = nL) (hown : s.vm.findClass own = some m.cls) (hts : ∀ w ∈ Ts, w.before args s = true) (hM : oCl l e0 D tys y ws rm (.ref b :: As) wc post w1 mc ms) (cw : CallW R s args own C index y bytes maxL ret ws rm mc ms n) (hK : va_K D vwCl tys s) (hP : va_P D vwCl wH H) (hD : va_D A wH) (hS : va_S A s.heap H locs) (hA : ∀ q, s.heap.size ≤ q → A q) (hE : oEn e0 A s s.heap)
    (isC isR : List Nat) (hC : isC.map (fun i => wH[i]?) = wc.map some) (hR : isR.map (fun i => wH[i]?) = wr.map some) (hnC : va_nd isC = true) (hnR : va_nd isR = true) (hdis : ∀ i ∈ isR, i ∉ isC) (hw2 : ∀ u, wr ++ w1 u = w2 u) (q0 ci : Nat) {fs : List Value} {q : vw_C} (hcl : vwCl[ci]? = some q) (he : wc[q0]? = some (b, .inr (ci, fs))) (hqC : q.1 = C)
    (hsize : ls.size = nL) (hst : st0 = As.reverse ++ .ref b :: rest) (hroom : (rest.map fun v => v.category).sum ≤ 8) (hn : As.length = n) (hf : cells + mc ≤ R.cells ∧ slots + ms ≤ R.slots) (hdg : decode cc pc = .ok (.invokevirtual index, 3))
    (kk : ∀ (r : Int64) (u : S) (H1 : Heap) (locs1 : List Loc), post r u → va_P D vwCl (w2 u) H1 → va_D A (w2 u) → va_S A s.heap H1 locs1 → W p l e R s m args below meth c H1 locs1 (cells + mc) (slots + ms) Q (F0 m (pc + 3) ls (.long r :: rest))) : W p l e R s m args below meth c H locs cells slots Q (F0 m pc ls st0) := by
  subst hst
  subst hqC
  have hPc : va_P D vwCl wc H := o_subP hP isC hC
  have hDc := hD.sub (ws' := wc) isC hnC hC
  have hFc := va_free (wc := wc) hD hS hA isC hC
  refine va_calll (va_runV (As := As) (rest := rest) ⟨hx, hb, hml, hown, hts⟩ (hM H.size) cw ⟨oPre_blind, va_recv hK hPc hcl he, fun U hU hW => ⟨rfl, by rw [hU], by rw [hU]; exact hPc, va_K.moved hW.alike hK, hDc.weaken (fun _ _ _ _ => trivial), by rw [hU]; exact hE.call hS hFc hW⟩⟩ rfl hn hsize rfl (lv_room hroom) hdg hf) hS (fun q _ h => hFc q h) hFc (fun r u t H1 locs1 ht hvm hpost hB hz1 hk1 hS1 => ?_)
  obtain ⟨hP1, hK1, hD1⟩ := hB
  rw [ht] at hP1
  obtain ⟨hP2, hD2⟩ := va_join (wr := wr) (w1 := w1 u) hP hD isC isR hC hR hnR hdis hk1 hFc hP1 hD1
  rw [hw2] at hP2 hD2
  exact kk r u H1 locs1 hpost hP2 hD2 hS1
theorem ol_callS {post : Int64 → S → Prop} (hx : p.tables.exec = Jvm.exec) (hb : c.code = cc) (hml : c.maxLocals = nL) (hown : s.vm.findClass own = some m.cls) (hts : ∀ w ∈ Ts, w.before args s = true) (hM : oCl l e0 D tys y ws rm As wc post w1 mc ms) (cw : CallB R s args own index y bytes maxL ret ws rm mc ms n ∧ (Cond.static y).before args s = true) (hK : va_K D vwCl tys s) (hP : va_P D vwCl wH H) (hD : va_D A wH) (hS : va_S A s.heap H locs) (hA : ∀ q, s.heap.size ≤ q → A q) (hE : oEn e0 A s s.heap)
    (isC isR : List Nat) (hC : isC.map (fun i => wH[i]?) = wc.map some) (hR : isR.map (fun i => wH[i]?) = wr.map some) (hnC : va_nd isC = true) (hnR : va_nd isR = true) (hdis : ∀ i ∈ isR, i ∉ isC) (hw2 : ∀ u, wr ++ w1 u = w2 u) 
    (hsize : ls.size = nL) (hst : st0 = As.reverse ++ rest) (hroom : (rest.map fun v => v.category).sum ≤ 8) (hn : As.length = n) (hf : cells + mc ≤ R.cells ∧ slots + ms ≤ R.slots) (hdg : decode cc pc = .ok (.invokestatic index, 3))
    (kk : ∀ (r : Int64) (u : S) (H1 : Heap) (locs1 : List Loc), post r u → va_P D vwCl (w2 u) H1 → va_D A (w2 u) → va_S A s.heap H1 locs1 → W p l e R s m args below meth c H1 locs1 (cells + mc) (slots + ms) Q (F0 m (pc + 3) ls (.long r :: rest))) : W p l e R s m args below meth c H locs cells slots Q (F0 m pc ls st0) := by
  subst hst
  have hPc : va_P D vwCl wc H := o_subP hP isC hC
  have hDc := hD.sub (ws' := wc) isC hnC hC
  have hFc := va_free (wc := wc) hD hS hA isC hC
  refine va_calll (va_runS (As := As) (rest := rest) ⟨hx, hb, hml, hown, hts⟩ (hM H.size) cw ⟨oPre_blind, fun U hU hW => ⟨rfl, by rw [hU], by rw [hU]; exact hPc, va_K.moved hW.alike hK, hDc.weaken (fun _ _ _ _ => trivial), by rw [hU]; exact hE.call hS hFc hW⟩⟩ rfl hn hsize rfl (lv_room hroom) hdg hf) hS (fun q _ h => hFc q h) hFc (fun r u t H1 locs1 ht hvm hpost hB hz1 hk1 hS1 => ?_)
  obtain ⟨hP1, hK1, hD1⟩ := hB
  rw [ht] at hP1
  obtain ⟨hP2, hD2⟩ := va_join (wr := wr) (w1 := w1 u) hP hD isC isR hC hR hnR hdis hk1 hFc hP1 hD1
  rw [hw2] at hP2 hD2
  exact kk r u H1 locs1 hpost hP2 hD2 hS1
theorem oq_callV {post : Option Nat → S → Prop} (hx : p.tables.exec = Jvm.exec) (hb : c.code = cc) (hml : c.maxLocals = nL) (hown : s.vm.findClass own = some m.cls) (hts : ∀ w ∈ Ts, w.before args s = true) (hM : oCq l e0 D tys y ws rm (.ref b :: As) wc post w1 mc ms) (cw : CallW R s args own C index y bytes maxL ret ws rm mc ms n) (hK : va_K D vwCl tys s) (hP : va_P D vwCl wH H) (hD : va_D A wH) (hS : va_S A s.heap H locs) (hA : ∀ q, s.heap.size ≤ q → A q) (hE : oEn e0 A s s.heap)
    (isC isR : List Nat) (hC : isC.map (fun i => wH[i]?) = wc.map some) (hR : isR.map (fun i => wH[i]?) = wr.map some) (hnC : va_nd isC = true) (hnR : va_nd isR = true) (hdis : ∀ i ∈ isR, i ∉ isC) (hw2 : ∀ u, wr ++ w1 u = w2 u) (q0 ci : Nat) {fs : List Value} {q : vw_C} (hcl : vwCl[ci]? = some q) (he : wc[q0]? = some (b, .inr (ci, fs))) (hqC : q.1 = C)
    (hsize : ls.size = nL) (hst : st0 = As.reverse ++ .ref b :: rest) (hroom : (rest.map fun v => v.category).sum ≤ 8) (hn : As.length = n) (hf : cells + mc ≤ R.cells ∧ slots + ms ≤ R.slots) (hdg : decode cc pc = .ok (.invokevirtual index, 3))
    (kk : ∀ (r : Option Nat) (u : S) (H1 : Heap) (locs1 : List Loc), post r u → va_P D vwCl (w2 u) H1 → va_D A (w2 u) → va_S A s.heap H1 locs1 → W p l e R s m args below meth c H1 locs1 (cells + mc) (slots + ms) Q (F0 m (pc + 3) ls (va_rf r :: rest))) : W p l e R s m args below meth c H locs cells slots Q (F0 m pc ls st0) := by
  subst hst
  subst hqC
  have hPc : va_P D vwCl wc H := o_subP hP isC hC
  have hDc := hD.sub (ws' := wc) isC hnC hC
  have hFc := va_free (wc := wc) hD hS hA isC hC
  refine va_callq (va_runV (As := As) (rest := rest) ⟨hx, hb, hml, hown, hts⟩ (hM H.size) cw ⟨oPre_blind, va_recv hK hPc hcl he, fun U hU hW => ⟨rfl, by rw [hU], by rw [hU]; exact hPc, va_K.moved hW.alike hK, hDc.weaken (fun _ _ _ _ => trivial), by rw [hU]; exact hE.call hS hFc hW⟩⟩ rfl hn hsize rfl (lv_room hroom) hdg hf) hS (fun q _ h => hFc q h) hFc (fun r u t H1 locs1 ht hvm hpost hB hz1 hk1 hS1 => ?_)
  obtain ⟨hP1, hK1, hD1⟩ := hB
  rw [ht] at hP1
  obtain ⟨hP2, hD2⟩ := va_join (wr := wr) (w1 := w1 u) hP hD isC isR hC hR hnR hdis hk1 hFc hP1 hD1
  rw [hw2] at hP2 hD2
  exact kk r u H1 locs1 hpost hP2 hD2 hS1
theorem oq_callS {post : Option Nat → S → Prop} (hx : p.tables.exec = Jvm.exec) (hb : c.code = cc) (hml : c.maxLocals = nL) (hown : s.vm.findClass own = some m.cls) (hts : ∀ w ∈ Ts, w.before args s = true) (hM : oCq l e0 D tys y ws rm As wc post w1 mc ms) (cw : CallB R s args own index y bytes maxL ret ws rm mc ms n ∧ (Cond.static y).before args s = true) (hK : va_K D vwCl tys s) (hP : va_P D vwCl wH H) (hD : va_D A wH) (hS : va_S A s.heap H locs) (hA : ∀ q, s.heap.size ≤ q → A q) (hE : oEn e0 A s s.heap)
    (isC isR : List Nat) (hC : isC.map (fun i => wH[i]?) = wc.map some) (hR : isR.map (fun i => wH[i]?) = wr.map some) (hnC : va_nd isC = true) (hnR : va_nd isR = true) (hdis : ∀ i ∈ isR, i ∉ isC) (hw2 : ∀ u, wr ++ w1 u = w2 u) 
    (hsize : ls.size = nL) (hst : st0 = As.reverse ++ rest) (hroom : (rest.map fun v => v.category).sum ≤ 8) (hn : As.length = n) (hf : cells + mc ≤ R.cells ∧ slots + ms ≤ R.slots) (hdg : decode cc pc = .ok (.invokestatic index, 3))
    (kk : ∀ (r : Option Nat) (u : S) (H1 : Heap) (locs1 : List Loc), post r u → va_P D vwCl (w2 u) H1 → va_D A (w2 u) → va_S A s.heap H1 locs1 → W p l e R s m args below meth c H1 locs1 (cells + mc) (slots + ms) Q (F0 m (pc + 3) ls (va_rf r :: rest))) : W p l e R s m args below meth c H locs cells slots Q (F0 m pc ls st0) := by
  subst hst
  have hPc : va_P D vwCl wc H := o_subP hP isC hC
  have hDc := hD.sub (ws' := wc) isC hnC hC
  have hFc := va_free (wc := wc) hD hS hA isC hC
  refine va_callq (va_runS (As := As) (rest := rest) ⟨hx, hb, hml, hown, hts⟩ (hM H.size) cw ⟨oPre_blind, fun U hU hW => ⟨rfl, by rw [hU], by rw [hU]; exact hPc, va_K.moved hW.alike hK, hDc.weaken (fun _ _ _ _ => trivial), by rw [hU]; exact hE.call hS hFc hW⟩⟩ rfl hn hsize rfl (lv_room hroom) hdg hf) hS (fun q _ h => hFc q h) hFc (fun r u t H1 locs1 ht hvm hpost hB hz1 hk1 hS1 => ?_)
  obtain ⟨hP1, hK1, hD1⟩ := hB
  rw [ht] at hP1
  obtain ⟨hP2, hD2⟩ := va_join (wr := wr) (w1 := w1 u) hP hD isC isR hC hR hnR hdis hk1 hFc hP1 hD1
  rw [hw2] at hP2 hD2
  exact kk r u H1 locs1 hpost hP2 hD2 hS1
/-- a call of what throws E: E lies in flight over this method's frame, what was there is unchanged -/
theorem ox_callV {E : String} (hx : p.tables.exec = Jvm.exec) (hb : c.code = cc) (hml : c.maxLocals = nL) (hown : s.vm.findClass own = some m.cls) (hts : ∀ w ∈ Ts, w.before args s = true) (hM : oCx l e0 D tys y ws rm (.ref b :: As) wc E mc ms) (cw : CallW R s args own C index y bytes maxL ret ws rm mc ms n) (hK : va_K D vwCl tys s) (hP : va_P D vwCl wH H) (hD : va_D A wH) (hS : va_S A s.heap H locs) (hA : ∀ q, s.heap.size ≤ q → A q) (hE : oEn e0 A s s.heap)
    (isC : List Nat) (hC : isC.map (fun i => wH[i]?) = wc.map some) (hnC : va_nd isC = true) (q0 ci : Nat) {fs : List Value} {q : vw_C} (hcl : vwCl[ci]? = some q) (he : wc[q0]? = some (b, .inr (ci, fs))) (hqC : q.1 = C)
    (hsize : ls.size = nL) (hst : st0 = As.reverse ++ .ref b :: rest) (hroom : (rest.map fun v => v.category).sum ≤ 8) (hn : As.length = n) (hf : cells + mc ≤ R.cells ∧ slots + ms ≤ R.slots) (hdg : decode cc pc = .ok (.invokevirtual index, 3))
    (kx : ∀ (ce : Cell) (q9 : Addr) (H1 : Heap) (locs1 : List Loc), H.size ≤ H1.size → (∀ q : Nat, q < H.size → H1[q]? = H[q]?) → va_P D vwCl wH H1 → va_S A s.heap H1 locs1 → H1[q9]? = some ce → ce.vm = .none → s.vm.findClass E = some ce.cls → vx_W p l e R s m args below meth c H1 locs1 (cells + mc) (slots + ms) Q (F0 m pc ls rest) q9) : W p l e R s m args below meth c H locs cells slots Q (F0 m pc ls st0) := by
  subst hst
  subst hqC
  have hPc : va_P D vwCl wc H := o_subP hP isC hC
  have hDc := hD.sub (ws' := wc) isC hnC hC
  have hFc := va_free (wc := wc) hD hS hA isC hC
  have hr := vx_runV (As := As) (rest := rest) (g := F0 m pc ls (As.reverse ++ .ref b :: rest)) (l := l) (e := e) (below := below) (meth := meth) (H := H) (locs := locs) (cells := cells) (slots := slots) ⟨hx, hb, hml, hown, hts⟩ (hM H.size) cw ⟨oPre_blind, va_recv hK hPc hcl he, fun U hU hW => ⟨rfl, by rw [hU], by rw [hU]; exact hPc, va_K.moved hW.alike hK, hDc.weaken (fun _ _ _ _ => trivial), by rw [hU]; exact hE.call hS hFc hW⟩⟩ rfl hn hsize rfl (lv_room hroom) hdg hf
  intro T hT X
  rcases hr T hT X with ⟨v, st₀, t, T', L, h0, X', hL, e1, e2, hff, st⟩ | ⟨q, st₀, t, T', L, E', ce, h0, X', hL, e1, e2, ⟨u, -, hb9, hF⟩, hce, hcv, hcl9, st⟩
  · exact hff.elim
  · subst hb9
    obtain ⟨k1, k2, k3⟩ := vx_keep h0 e1 hS (A1 := fun q => H.size ≤ q) (fun q hq h => absurd h (Nat.not_le.mpr hq)) (fun q h => hFc q h) hL hF
    have k4 : ∀ q : Nat, q < H.size → T'.heap[q]? = H[q]? := fun q hq => k2 q hq (Nat.not_le.mpr hq)
    obtain ⟨t2, a1, b1⟩ := kx ce q T'.heap (locs ++ L) k1 k4 (hP.kept (fun k x hx9 => k4 x.1 ((hP k x hx9).lt))) k3 (by rw [e1]; exact hce) hcv hcl9 T' rfl X'
    exact ⟨t2, st.trans a1, b1⟩
/-- it goes on to the caller -/
theorem ox_out {E : String} {ce : Cell} {q9 : Addr} (hno : ∀ x ∈ c.exceptionTable.toList, False) (hlocks : meth.locks = false) (hS : va_S A s.heap H locs) (hz : s.heap.size ≤ H.size) (hk : ∀ q : Nat, q < s.heap.size → H[q]? = s.heap[q]?) (hcell : H[q9]? = some ce) (hv : ce.vm = .none) (hcl : s.vm.findClass E = some ce.cls) (hc : cells ≤ mc) (hs : slots ≤ ms) :
    vx_W p l e R s m args below meth c H locs cells slots (vx_MQ below (fun _ _ _ _ => False) (oXC E s.heap.size) args s mc ms A) (F0 m pc ls rest) q9 :=
  vx_out (fun x hx9 => (hno x hx9).elim) hlocks hcell hv hcl (fun t ht _ => ⟨(), trivial, rfl, by rw [ht]; exact hz, fun q hq _ => by rw [ht]; exact hk q hq⟩) hS.2.2 hc hs
/-- new E(); athrow -/
theorem ox_throw {E : String} {names : List String} {ik ic : Nat} {Ts : List Cond} (hno : ∀ x ∈ c.exceptionTable.toList, False) (hlocks : meth.locks = false) (hexec : p.tables.exec = Jvm.exec) (hb : c.code = cc) (hl : l.stackTraces = false)
    (hown : s.vm.findClass own = some m.cls) (hcls : Bundle.fit E = true) (hnames : ∀ n ∈ names, Bundle.fit n = true) (hts : ∀ w ∈ Ts, w.before args s = true)
    (hk : Cond.classLink own ik E ∈ Ts) (hini : Cond.initialized E ∈ Ts) (hgd : ∀ w ∈ (vx_at0 own ic E names).filter goodWord, w ∈ Ts) (hbd : ∀ w ∈ (vx_at0 own ic E names).filter (fun w => !goodWord w), w ∈ [Cond.castable E E]) (hgood : ∀ w ∈ Cond.classLink own ik E :: Cond.initialized E :: vx_at0 own ic E names, vx_ot w = true) (hEx : oExc E)
    (hE : oEn e0 A s s.heap) (hS : va_S A s.heap H locs) (hz : s.heap.size ≤ H.size) (hkp : ∀ q : Nat, q < s.heap.size → H[q]? = s.heap[q]?) (hsize : ls.size = c.maxLocals)
    (d0 : decode cc pc = .ok (.new ik, 3)) (d3 : decode cc (pc + 3) = .ok (.dup, 1)) (d4 : decode cc (pc + 4) = .ok (.invokespecial ic, 3)) (d7 : decode cc (pc + 7) = .ok (.athrow, 1))
    (hRframes : names.length + 3 < R.frames) (hRlocals : (rest.map fun v => v.category).sum + (13 * (names.length + 1) + 42) ≤ R.locals) (hRcells : cells + 1 ≤ R.cells) (hRslots : slots + 6 ≤ R.slots) (hc : cells + 1 ≤ mc) (hs : slots + 6 ≤ ms) :
    W p l e R s m args below meth c H locs cells slots (vx_MQ below (fun _ _ _ _ => False) (oXC E s.heap.size) args s mc ms A) (F0 m pc ls rest) :=
  vx_throw0 hexec hb hl hown hcls hnames (hts _ hk) (hts _ hini) (vx_hat (fun w hw => hts w (hgd w hw)) hbd (vx_c (va_Nw.use rfl (hE.2.2.2.2 E hEx)) vx_n)) hgood hE.1 hE.2.1 hS hsize d0 d3 d4 d7 (fun x hx9 => (hno x hx9).elim) hRframes hRlocals hRcells hRslots hlocks
    (fun t _ h1 h2 => ⟨(), trivial, rfl, Nat.le_trans hz h1, fun q hq _ => (h2 q (Nat.lt_of_lt_of_le hq hz)).trans (hkp q hq)⟩) hS.2.2 hc hs
end CALLS
end OWNW
end
section
abbrev oTy (k : Nat → ClassId) : List (ClassId × FieldType) := [(k 0, .int), (k 1, .long), (k 2, .char), (k 3, .boolean), (k 4, .double)]
theorem o_in {x : Int32} {n : Nat} (hn : n < 2147483648) (h0 : ¬ x < 0) (h1 : ¬ nI n ≤ x) : vp_in x n := by
  rcases pk_ix x hn with h | h | ⟨j, hj, rfl⟩
  · exact absurd h h0
  · exact absurd h h1
  · exact vp_in_nI hj hn
theorem iw_X9_init_X9 : ∀ w ∈ wsX90, w ∈ wsX9_init := by decide +kernel
set_option maxHeartbeats 4000000 in
set_option maxRecDepth 100000 in
theorem c_Table_init_3_10 (l : Launch) (e0 : Nat) (D : va_G) (k : Nat → ClassId) (h0 : Nat) : oCv l e0 D (oTy k) yX9_init wsX9_init ({ frames := 1, cells := 1, slots := 30, locals := 20 } : Room) [.ref h0, .int 3, .int 10] [(h0, .inr (13, [.int 0, .null, .int 0]))] (S := Nat) (fun (u : Nat) => True) (fun u => [(h0, .inr (13, [.int 3, .ref u, .int 0])), (u, .inl ((k 0), 30, .inl (fun _ => 0)))]) 1 30 := by
  refine ov_of (cc := cX9_init) (maxL := 3) (ret := none) (by decide +kernel) rfl (Nat.le_of_ble_eq_true rfl) ?_
  intro p e s m below meth c A ls hx hb hml hr hts hown hlocks hin hA hK hP hD hS hE hl
  have hl : lv_has ls 3 [(0, .ref h0), (1, .int 3), (2, .int 10)] := hl
  refine lv_aload_n hx hb dX9_init_0 rfl (lv_at hl 0 rfl) ?_
  refine W.objInit hx hb hown (hts (.methodLink RX9 3 objectInit) (by decide +kernel)) (hts (.instanceMethod objectInit) (by decide +kernel)) (hts (.code objectInit ⟨#[0xb1]⟩ 1 none) (by decide +kernel)) rfl (by rw [hml]; exact hl.1) rfl dX9_init_1 (Nat.le_of_ble_eq_true rfl) (Nat.le_of_ble_eq_true rfl) ?_
  refine W.eq (g2 := F0 m 4 ls []) rfl ?_
  refine lv_aload_n hx hb dX9_init_4 rfl (lv_at hl 0 rfl) ?_
  refine lv_iload_n hx hb dX9_init_5 rfl (lv_at hl 1 rfl) ?_
  refine lv_if_le (tgt := 13) hx hb dX9_init_6 (by decide) (fun c_6 => absurd c_6 (by decide)) (fun c_6 => ?_)
  refine lv_iload_n hx hb dX9_init_9 rfl (lv_at hl 1 rfl) ?_
  refine lv_goto (tgt := 14) hx hb dX9_init_10 (by decide) ?_
  refine va_putF (D := D) (ci := 13) (v := .int 3) (ty := .int) (C := RX9) (T := TX9) (N := 3) hx hb hts iw_X9_init_X9 tyX9 tyX9_ok nmX9 hown hK hP hD hS 0 rfl rfl 0 (by decide) (hts (.fieldLink RX9 9 "ModedMill$Table" "columns" "I") (by decide +kernel)) (fun _ h9 => h9) rfl hin rfl (by decide +kernel) rfl rfl (Nat.le_of_ble_eq_true rfl) dX9_init_14 (fun H locs hP hD hS => ?_)
  have hP : va_P D vwCl [(h0, .inr (13, [.int 3, .null, .int 0]))] H := hP
  have hD : va_D A [(h0, .inr (13, [.int 3, .null, .int 0]))] := hD
  refine lv_aload_n hx hb dX9_init_17 rfl (lv_at hl 0 rfl) ?_
  refine lv_iload_n hx hb dX9_init_18 rfl (lv_at hl 2 rfl) ?_
  refine lv_if_le (tgt := 37) hx hb dX9_init_19 (by decide) (fun c_19 => absurd c_19 (by decide)) (fun c_19 => ?_)
  refine lv_iload_n hx hb dX9_init_22 rfl (lv_at hl 2 rfl) ?_
  refine lv_ldc (v := 1000000) hx hb hown (hts (.constant RX9 15 (1000000)) (by decide +kernel)) dX9_init_23 ?_
  refine lv_icmp_ge (tgt := 37) hx hb dX9_init_25 (by decide) (fun c_25 => absurd c_25 (by decide)) (fun c_25 => ?_)
  refine lv_aload_n hx hb dX9_init_28 rfl (lv_at hl 0 rfl) ?_
  refine va_get (D := D) (ci := 13) (v := .int 3) (C := RX9) (T := TX9) (N := 3) hx hb hts iw_X9_init_X9 hown hK hP 0 rfl rfl 0 (by decide) (hts (.fieldLink RX9 9 "ModedMill$Table" "columns" "I") (by decide +kernel)) (fun _ h9 => h9) rfl dX9_init_29 ?_
  refine lv_iload_n hx hb dX9_init_32 rfl (lv_at hl 2 rfl) ?_
  refine lv_imul hx hb dX9_init_33 ?_
  refine o_top (v := 30) (by decide) ?_
  refine lv_goto (tgt := 41) hx hb dX9_init_34 (by decide) ?_
  refine o_newa (D := D) (atype := .int) (ty := .int) 0 (cA0 := (k 0)) rfl (hts (.arrayClass .int) (by decide +kernel)) rfl hK hP hD hS hA (a0 := (30, .inl (fun _ => 0))) (N' := 30) hx hb (fun _ => rfl) (by decide) (rfl) (Nat.le_of_ble_eq_true rfl) (Nat.le_of_ble_eq_true rfl) (Nat.le_of_ble_eq_true rfl) dX9_init_41 (fun q41_1 H hP hD hS => ?_)
  have hP : va_P D vwCl [(h0, .inr (13, [.int 3, .null, .int 0])), (q41_1, .inl ((k 0), 30, .inl (fun _ => 0)))] H := hP
  have hD : va_D A [(h0, .inr (13, [.int 3, .null, .int 0])), (q41_1, .inl ((k 0), 30, .inl (fun _ => 0)))] := hD
  refine va_put (D := D) (ci := 13) (v := .ref q41_1) (ty := (tyX9 1)) (C := RX9) (T := TX9) (N := 3) hx hb hts iw_X9_init_X9 tyX9 tyX9_ok nmX9 hown hK hP hD hS 0 rfl rfl 1 (by decide) (hts (.fieldLink RX9 16 "ModedMill$Table" "cells" "[I") (by decide +kernel)) (fun _ h9 => h9) rfl (by decide +kernel) rfl rfl (Nat.le_of_ble_eq_true rfl) dX9_init_43 (fun H locs hP hD hS => ?_)
  have hP : va_P D vwCl [(h0, .inr (13, [.int 3, .ref q41_1, .int 0])), (q41_1, .inl ((k 0), 30, .inl (fun _ => 0)))] H := hP
  have hD : va_D A [(h0, .inr (13, [.int 3, .ref q41_1, .int 0])), (q41_1, .inl ((k 0), 30, .inl (fun _ => 0)))] := hD
  refine lv_aload_n hx hb dX9_init_46 rfl (lv_at hl 0 rfl) ?_
  refine lv_iconst (v := 0) hx hb dX9_init_47 (by decide) ?_
  refine va_put (D := D) (ci := 13) (v := .int 0) (ty := .int) (C := RX9) (T := TX9) (N := 3) hx hb hts iw_X9_init_X9 tyX9 tyX9_ok nmX9 hown hK hP hD hS 0 rfl rfl 2 (by decide) (hts (.fieldLink RX9 20 "ModedMill$Table" "lines" "I") (by decide +kernel)) (fun _ h9 => h9) rfl (by decide +kernel) rfl rfl (Nat.le_of_ble_eq_true rfl) dX9_init_48 (fun H locs hP hD hS => ?_)
  have hP : va_P D vwCl [(h0, .inr (13, [.int 3, .ref q41_1, .int 0])), (q41_1, .inl ((k 0), 30, .inl (fun _ => 0)))] H := hP
  have hD : va_D A [(h0, .inr (13, [.int 3, .ref q41_1, .int 0])), (q41_1, .inl ((k 0), 30, .inl (fun _ => 0)))] := hD
  exact ov_ret hx hb hr hlocks q41_1 (trivial) hK (hP.sub [0, 1] rfl) (hD.sub [0, 1] (by decide) rfl) hS (Nat.le_of_ble_eq_true rfl) (Nat.le_of_ble_eq_true rfl) dX9_init_51
set_option maxHeartbeats 4000000 in
set_option maxRecDepth 100000 in
theorem c_Table_init_4_200 (l : Launch) (e0 : Nat) (D : va_G) (k : Nat → ClassId) (h0 : Nat) : oCv l e0 D (oTy k) yX9_init wsX9_init ({ frames := 1, cells := 1, slots := 800, locals := 20 } : Room) [.ref h0, .int 4, .int 200] [(h0, .inr (13, [.int 0, .null, .int 0]))] (S := Nat) (fun (u : Nat) => True) (fun u => [(h0, .inr (13, [.int 4, .ref u, .int 0])), (u, .inl ((k 0), 800, .inl (fun _ => 0)))]) 1 800 := by
  refine ov_of (cc := cX9_init) (maxL := 3) (ret := none) (by decide +kernel) rfl (Nat.le_of_ble_eq_true rfl) ?_
  intro p e s m below meth c A ls hx hb hml hr hts hown hlocks hin hA hK hP hD hS hE hl
  have hl : lv_has ls 3 [(0, .ref h0), (1, .int 4), (2, .int 200)] := hl
  refine lv_aload_n hx hb dX9_init_0 rfl (lv_at hl 0 rfl) ?_
  refine W.objInit hx hb hown (hts (.methodLink RX9 3 objectInit) (by decide +kernel)) (hts (.instanceMethod objectInit) (by decide +kernel)) (hts (.code objectInit ⟨#[0xb1]⟩ 1 none) (by decide +kernel)) rfl (by rw [hml]; exact hl.1) rfl dX9_init_1 (Nat.le_of_ble_eq_true rfl) (Nat.le_of_ble_eq_true rfl) ?_
  refine W.eq (g2 := F0 m 4 ls []) rfl ?_
  refine lv_aload_n hx hb dX9_init_4 rfl (lv_at hl 0 rfl) ?_
  refine lv_iload_n hx hb dX9_init_5 rfl (lv_at hl 1 rfl) ?_
  refine lv_if_le (tgt := 13) hx hb dX9_init_6 (by decide) (fun c_6 => absurd c_6 (by decide)) (fun c_6 => ?_)
  refine lv_iload_n hx hb dX9_init_9 rfl (lv_at hl 1 rfl) ?_
  refine lv_goto (tgt := 14) hx hb dX9_init_10 (by decide) ?_
  refine va_putF (D := D) (ci := 13) (v := .int 4) (ty := .int) (C := RX9) (T := TX9) (N := 3) hx hb hts iw_X9_init_X9 tyX9 tyX9_ok nmX9 hown hK hP hD hS 0 rfl rfl 0 (by decide) (hts (.fieldLink RX9 9 "ModedMill$Table" "columns" "I") (by decide +kernel)) (fun _ h9 => h9) rfl hin rfl (by decide +kernel) rfl rfl (Nat.le_of_ble_eq_true rfl) dX9_init_14 (fun H locs hP hD hS => ?_)
  have hP : va_P D vwCl [(h0, .inr (13, [.int 4, .null, .int 0]))] H := hP
  have hD : va_D A [(h0, .inr (13, [.int 4, .null, .int 0]))] := hD
  refine lv_aload_n hx hb dX9_init_17 rfl (lv_at hl 0 rfl) ?_
  refine lv_iload_n hx hb dX9_init_18 rfl (lv_at hl 2 rfl) ?_
  refine lv_if_le (tgt := 37) hx hb dX9_init_19 (by decide) (fun c_19 => absurd c_19 (by decide)) (fun c_19 => ?_)
  refine lv_iload_n hx hb dX9_init_22 rfl (lv_at hl 2 rfl) ?_
  refine lv_ldc (v := 1000000) hx hb hown (hts (.constant RX9 15 (1000000)) (by decide +kernel)) dX9_init_23 ?_
  refine lv_icmp_ge (tgt := 37) hx hb dX9_init_25 (by decide) (fun c_25 => absurd c_25 (by decide)) (fun c_25 => ?_)
  refine lv_aload_n hx hb dX9_init_28 rfl (lv_at hl 0 rfl) ?_
  refine va_get (D := D) (ci := 13) (v := .int 4) (C := RX9) (T := TX9) (N := 3) hx hb hts iw_X9_init_X9 hown hK hP 0 rfl rfl 0 (by decide) (hts (.fieldLink RX9 9 "ModedMill$Table" "columns" "I") (by decide +kernel)) (fun _ h9 => h9) rfl dX9_init_29 ?_
  refine lv_iload_n hx hb dX9_init_32 rfl (lv_at hl 2 rfl) ?_
  refine lv_imul hx hb dX9_init_33 ?_
  refine o_top (v := 800) (by decide) ?_
  refine lv_goto (tgt := 41) hx hb dX9_init_34 (by decide) ?_
  refine o_newa (D := D) (atype := .int) (ty := .int) 0 (cA0 := (k 0)) rfl (hts (.arrayClass .int) (by decide +kernel)) rfl hK hP hD hS hA (a0 := (800, .inl (fun _ => 0))) (N' := 800) hx hb (fun _ => rfl) (by decide) (rfl) (Nat.le_of_ble_eq_true rfl) (Nat.le_of_ble_eq_true rfl) (Nat.le_of_ble_eq_true rfl) dX9_init_41 (fun q41_1 H hP hD hS => ?_)
  have hP : va_P D vwCl [(h0, .inr (13, [.int 4, .null, .int 0])), (q41_1, .inl ((k 0), 800, .inl (fun _ => 0)))] H := hP
  have hD : va_D A [(h0, .inr (13, [.int 4, .null, .int 0])), (q41_1, .inl ((k 0), 800, .inl (fun _ => 0)))] := hD
  refine va_put (D := D) (ci := 13) (v := .ref q41_1) (ty := (tyX9 1)) (C := RX9) (T := TX9) (N := 3) hx hb hts iw_X9_init_X9 tyX9 tyX9_ok nmX9 hown hK hP hD hS 0 rfl rfl 1 (by decide) (hts (.fieldLink RX9 16 "ModedMill$Table" "cells" "[I") (by decide +kernel)) (fun _ h9 => h9) rfl (by decide +kernel) rfl rfl (Nat.le_of_ble_eq_true rfl) dX9_init_43 (fun H locs hP hD hS => ?_)
  have hP : va_P D vwCl [(h0, .inr (13, [.int 4, .ref q41_1, .int 0])), (q41_1, .inl ((k 0), 800, .inl (fun _ => 0)))] H := hP
  have hD : va_D A [(h0, .inr (13, [.int 4, .ref q41_1, .int 0])), (q41_1, .inl ((k 0), 800, .inl (fun _ => 0)))] := hD
  refine lv_aload_n hx hb dX9_init_46 rfl (lv_at hl 0 rfl) ?_
  refine lv_iconst (v := 0) hx hb dX9_init_47 (by decide) ?_
  refine va_put (D := D) (ci := 13) (v := .int 0) (ty := .int) (C := RX9) (T := TX9) (N := 3) hx hb hts iw_X9_init_X9 tyX9 tyX9_ok nmX9 hown hK hP hD hS 0 rfl rfl 2 (by decide) (hts (.fieldLink RX9 20 "ModedMill$Table" "lines" "I") (by decide +kernel)) (fun _ h9 => h9) rfl (by decide +kernel) rfl rfl (Nat.le_of_ble_eq_true rfl) dX9_init_48 (fun H locs hP hD hS => ?_)
  have hP : va_P D vwCl [(h0, .inr (13, [.int 4, .ref q41_1, .int 0])), (q41_1, .inl ((k 0), 800, .inl (fun _ => 0)))] H := hP
  have hD : va_D A [(h0, .inr (13, [.int 4, .ref q41_1, .int 0])), (q41_1, .inl ((k 0), 800, .inl (fun _ => 0)))] := hD
  exact ov_ret hx hb hr hlocks q41_1 (trivial) hK (hP.sub [0, 1] rfl) (hD.sub [0, 1] (by decide) rfl) hS (Nat.le_of_ble_eq_true rfl) (Nat.le_of_ble_eq_true rfl) dX9_init_51
set_option maxHeartbeats 4000000 in
set_option maxRecDepth 100000 in
theorem c_Table_init_1_64 (l : Launch) (e0 : Nat) (D : va_G) (k : Nat → ClassId) (h0 : Nat) : oCv l e0 D (oTy k) yX9_init wsX9_init ({ frames := 1, cells := 1, slots := 64, locals := 20 } : Room) [.ref h0, .int 1, .int 64] [(h0, .inr (13, [.int 0, .null, .int 0]))] (S := Nat) (fun (u : Nat) => True) (fun u => [(h0, .inr (13, [.int 1, .ref u, .int 0])), (u, .inl ((k 0), 64, .inl (fun _ => 0)))]) 1 64 := by
  refine ov_of (cc := cX9_init) (maxL := 3) (ret := none) (by decide +kernel) rfl (Nat.le_of_ble_eq_true rfl) ?_
  intro p e s m below meth c A ls hx hb hml hr hts hown hlocks hin hA hK hP hD hS hE hl
  have hl : lv_has ls 3 [(0, .ref h0), (1, .int 1), (2, .int 64)] := hl
  refine lv_aload_n hx hb dX9_init_0 rfl (lv_at hl 0 rfl) ?_
  refine W.objInit hx hb hown (hts (.methodLink RX9 3 objectInit) (by decide +kernel)) (hts (.instanceMethod objectInit) (by decide +kernel)) (hts (.code objectInit ⟨#[0xb1]⟩ 1 none) (by decide +kernel)) rfl (by rw [hml]; exact hl.1) rfl dX9_init_1 (Nat.le_of_ble_eq_true rfl) (Nat.le_of_ble_eq_true rfl) ?_
  refine W.eq (g2 := F0 m 4 ls []) rfl ?_
  refine lv_aload_n hx hb dX9_init_4 rfl (lv_at hl 0 rfl) ?_
  refine lv_iload_n hx hb dX9_init_5 rfl (lv_at hl 1 rfl) ?_
  refine lv_if_le (tgt := 13) hx hb dX9_init_6 (by decide) (fun c_6 => absurd c_6 (by decide)) (fun c_6 => ?_)
  refine lv_iload_n hx hb dX9_init_9 rfl (lv_at hl 1 rfl) ?_
  refine lv_goto (tgt := 14) hx hb dX9_init_10 (by decide) ?_
  refine va_putF (D := D) (ci := 13) (v := .int 1) (ty := .int) (C := RX9) (T := TX9) (N := 3) hx hb hts iw_X9_init_X9 tyX9 tyX9_ok nmX9 hown hK hP hD hS 0 rfl rfl 0 (by decide) (hts (.fieldLink RX9 9 "ModedMill$Table" "columns" "I") (by decide +kernel)) (fun _ h9 => h9) rfl hin rfl (by decide +kernel) rfl rfl (Nat.le_of_ble_eq_true rfl) dX9_init_14 (fun H locs hP hD hS => ?_)
  have hP : va_P D vwCl [(h0, .inr (13, [.int 1, .null, .int 0]))] H := hP
  have hD : va_D A [(h0, .inr (13, [.int 1, .null, .int 0]))] := hD
  refine lv_aload_n hx hb dX9_init_17 rfl (lv_at hl 0 rfl) ?_
  refine lv_iload_n hx hb dX9_init_18 rfl (lv_at hl 2 rfl) ?_
  refine lv_if_le (tgt := 37) hx hb dX9_init_19 (by decide) (fun c_19 => absurd c_19 (by decide)) (fun c_19 => ?_)
  refine lv_iload_n hx hb dX9_init_22 rfl (lv_at hl 2 rfl) ?_
  refine lv_ldc (v := 1000000) hx hb hown (hts (.constant RX9 15 (1000000)) (by decide +kernel)) dX9_init_23 ?_
  refine lv_icmp_ge (tgt := 37) hx hb dX9_init_25 (by decide) (fun c_25 => absurd c_25 (by decide)) (fun c_25 => ?_)
  refine lv_aload_n hx hb dX9_init_28 rfl (lv_at hl 0 rfl) ?_
  refine va_get (D := D) (ci := 13) (v := .int 1) (C := RX9) (T := TX9) (N := 3) hx hb hts iw_X9_init_X9 hown hK hP 0 rfl rfl 0 (by decide) (hts (.fieldLink RX9 9 "ModedMill$Table" "columns" "I") (by decide +kernel)) (fun _ h9 => h9) rfl dX9_init_29 ?_
  refine lv_iload_n hx hb dX9_init_32 rfl (lv_at hl 2 rfl) ?_
  refine lv_imul hx hb dX9_init_33 ?_
  refine o_top (v := 64) (by decide) ?_
  refine lv_goto (tgt := 41) hx hb dX9_init_34 (by decide) ?_
  refine o_newa (D := D) (atype := .int) (ty := .int) 0 (cA0 := (k 0)) rfl (hts (.arrayClass .int) (by decide +kernel)) rfl hK hP hD hS hA (a0 := (64, .inl (fun _ => 0))) (N' := 64) hx hb (fun _ => rfl) (by decide) (rfl) (Nat.le_of_ble_eq_true rfl) (Nat.le_of_ble_eq_true rfl) (Nat.le_of_ble_eq_true rfl) dX9_init_41 (fun q41_1 H hP hD hS => ?_)
  have hP : va_P D vwCl [(h0, .inr (13, [.int 1, .null, .int 0])), (q41_1, .inl ((k 0), 64, .inl (fun _ => 0)))] H := hP
  have hD : va_D A [(h0, .inr (13, [.int 1, .null, .int 0])), (q41_1, .inl ((k 0), 64, .inl (fun _ => 0)))] := hD
  refine va_put (D := D) (ci := 13) (v := .ref q41_1) (ty := (tyX9 1)) (C := RX9) (T := TX9) (N := 3) hx hb hts iw_X9_init_X9 tyX9 tyX9_ok nmX9 hown hK hP hD hS 0 rfl rfl 1 (by decide) (hts (.fieldLink RX9 16 "ModedMill$Table" "cells" "[I") (by decide +kernel)) (fun _ h9 => h9) rfl (by decide +kernel) rfl rfl (Nat.le_of_ble_eq_true rfl) dX9_init_43 (fun H locs hP hD hS => ?_)
  have hP : va_P D vwCl [(h0, .inr (13, [.int 1, .ref q41_1, .int 0])), (q41_1, .inl ((k 0), 64, .inl (fun _ => 0)))] H := hP
  have hD : va_D A [(h0, .inr (13, [.int 1, .ref q41_1, .int 0])), (q41_1, .inl ((k 0), 64, .inl (fun _ => 0)))] := hD
  refine lv_aload_n hx hb dX9_init_46 rfl (lv_at hl 0 rfl) ?_
  refine lv_iconst (v := 0) hx hb dX9_init_47 (by decide) ?_
  refine va_put (D := D) (ci := 13) (v := .int 0) (ty := .int) (C := RX9) (T := TX9) (N := 3) hx hb hts iw_X9_init_X9 tyX9 tyX9_ok nmX9 hown hK hP hD hS 0 rfl rfl 2 (by decide) (hts (.fieldLink RX9 20 "ModedMill$Table" "lines" "I") (by decide +kernel)) (fun _ h9 => h9) rfl (by decide +kernel) rfl rfl (Nat.le_of_ble_eq_true rfl) dX9_init_48 (fun H locs hP hD hS => ?_)
  have hP : va_P D vwCl [(h0, .inr (13, [.int 1, .ref q41_1, .int 0])), (q41_1, .inl ((k 0), 64, .inl (fun _ => 0)))] H := hP
  have hD : va_D A [(h0, .inr (13, [.int 1, .ref q41_1, .int 0])), (q41_1, .inl ((k 0), 64, .inl (fun _ => 0)))] := hD
  exact ov_ret hx hb hr hlocks q41_1 (trivial) hK (hP.sub [0, 1] rfl) (hD.sub [0, 1] (by decide) rfl) hS (Nat.le_of_ble_eq_true rfl) (Nat.le_of_ble_eq_true rfl) dX9_init_51
set_option maxHeartbeats 4000000 in
set_option maxRecDepth 100000 in
theorem c_Table_init_1_3 (l : Launch) (e0 : Nat) (D : va_G) (k : Nat → ClassId) (h0 : Nat) : oCv l e0 D (oTy k) yX9_init wsX9_init ({ frames := 1, cells := 1, slots := 3, locals := 20 } : Room) [.ref h0, .int 1, .int 3] [(h0, .inr (13, [.int 0, .null, .int 0]))] (S := Nat) (fun (u : Nat) => True) (fun u => [(h0, .inr (13, [.int 1, .ref u, .int 0])), (u, .inl ((k 0), 3, .inl (fun _ => 0)))]) 1 3 := by
  refine ov_of (cc := cX9_init) (maxL := 3) (ret := none) (by decide +kernel) rfl (Nat.le_of_ble_eq_true rfl) ?_
  intro p e s m below meth c A ls hx hb hml hr hts hown hlocks hin hA hK hP hD hS hE hl
  have hl : lv_has ls 3 [(0, .ref h0), (1, .int 1), (2, .int 3)] := hl
  refine lv_aload_n hx hb dX9_init_0 rfl (lv_at hl 0 rfl) ?_
  refine W.objInit hx hb hown (hts (.methodLink RX9 3 objectInit) (by decide +kernel)) (hts (.instanceMethod objectInit) (by decide +kernel)) (hts (.code objectInit ⟨#[0xb1]⟩ 1 none) (by decide +kernel)) rfl (by rw [hml]; exact hl.1) rfl dX9_init_1 (Nat.le_of_ble_eq_true rfl) (Nat.le_of_ble_eq_true rfl) ?_
  refine W.eq (g2 := F0 m 4 ls []) rfl ?_
  refine lv_aload_n hx hb dX9_init_4 rfl (lv_at hl 0 rfl) ?_
  refine lv_iload_n hx hb dX9_init_5 rfl (lv_at hl 1 rfl) ?_
  refine lv_if_le (tgt := 13) hx hb dX9_init_6 (by decide) (fun c_6 => absurd c_6 (by decide)) (fun c_6 => ?_)
  refine lv_iload_n hx hb dX9_init_9 rfl (lv_at hl 1 rfl) ?_
  refine lv_goto (tgt := 14) hx hb dX9_init_10 (by decide) ?_
  refine va_putF (D := D) (ci := 13) (v := .int 1) (ty := .int) (C := RX9) (T := TX9) (N := 3) hx hb hts iw_X9_init_X9 tyX9 tyX9_ok nmX9 hown hK hP hD hS 0 rfl rfl 0 (by decide) (hts (.fieldLink RX9 9 "ModedMill$Table" "columns" "I") (by decide +kernel)) (fun _ h9 => h9) rfl hin rfl (by decide +kernel) rfl rfl (Nat.le_of_ble_eq_true rfl) dX9_init_14 (fun H locs hP hD hS => ?_)
  have hP : va_P D vwCl [(h0, .inr (13, [.int 1, .null, .int 0]))] H := hP
  have hD : va_D A [(h0, .inr (13, [.int 1, .null, .int 0]))] := hD
  refine lv_aload_n hx hb dX9_init_17 rfl (lv_at hl 0 rfl) ?_
  refine lv_iload_n hx hb dX9_init_18 rfl (lv_at hl 2 rfl) ?_
  refine lv_if_le (tgt := 37) hx hb dX9_init_19 (by decide) (fun c_19 => absurd c_19 (by decide)) (fun c_19 => ?_)
  refine lv_iload_n hx hb dX9_init_22 rfl (lv_at hl 2 rfl) ?_
  refine lv_ldc (v := 1000000) hx hb hown (hts (.constant RX9 15 (1000000)) (by decide +kernel)) dX9_init_23 ?_
  refine lv_icmp_ge (tgt := 37) hx hb dX9_init_25 (by decide) (fun c_25 => absurd c_25 (by decide)) (fun c_25 => ?_)
  refine lv_aload_n hx hb dX9_init_28 rfl (lv_at hl 0 rfl) ?_
  refine va_get (D := D) (ci := 13) (v := .int 1) (C := RX9) (T := TX9) (N := 3) hx hb hts iw_X9_init_X9 hown hK hP 0 rfl rfl 0 (by decide) (hts (.fieldLink RX9 9 "ModedMill$Table" "columns" "I") (by decide +kernel)) (fun _ h9 => h9) rfl dX9_init_29 ?_
  refine lv_iload_n hx hb dX9_init_32 rfl (lv_at hl 2 rfl) ?_
  refine lv_imul hx hb dX9_init_33 ?_
  refine o_top (v := 3) (by decide) ?_
  refine lv_goto (tgt := 41) hx hb dX9_init_34 (by decide) ?_
  refine o_newa (D := D) (atype := .int) (ty := .int) 0 (cA0 := (k 0)) rfl (hts (.arrayClass .int) (by decide +kernel)) rfl hK hP hD hS hA (a0 := (3, .inl (fun _ => 0))) (N' := 3) hx hb (fun _ => rfl) (by decide) (rfl) (Nat.le_of_ble_eq_true rfl) (Nat.le_of_ble_eq_true rfl) (Nat.le_of_ble_eq_true rfl) dX9_init_41 (fun q41_1 H hP hD hS => ?_)
  have hP : va_P D vwCl [(h0, .inr (13, [.int 1, .null, .int 0])), (q41_1, .inl ((k 0), 3, .inl (fun _ => 0)))] H := hP
  have hD : va_D A [(h0, .inr (13, [.int 1, .null, .int 0])), (q41_1, .inl ((k 0), 3, .inl (fun _ => 0)))] := hD
  refine va_put (D := D) (ci := 13) (v := .ref q41_1) (ty := (tyX9 1)) (C := RX9) (T := TX9) (N := 3) hx hb hts iw_X9_init_X9 tyX9 tyX9_ok nmX9 hown hK hP hD hS 0 rfl rfl 1 (by decide) (hts (.fieldLink RX9 16 "ModedMill$Table" "cells" "[I") (by decide +kernel)) (fun _ h9 => h9) rfl (by decide +kernel) rfl rfl (Nat.le_of_ble_eq_true rfl) dX9_init_43 (fun H locs hP hD hS => ?_)
  have hP : va_P D vwCl [(h0, .inr (13, [.int 1, .ref q41_1, .int 0])), (q41_1, .inl ((k 0), 3, .inl (fun _ => 0)))] H := hP
  have hD : va_D A [(h0, .inr (13, [.int 1, .ref q41_1, .int 0])), (q41_1, .inl ((k 0), 3, .inl (fun _ => 0)))] := hD
  refine lv_aload_n hx hb dX9_init_46 rfl (lv_at hl 0 rfl) ?_
  refine lv_iconst (v := 0) hx hb dX9_init_47 (by decide) ?_
  refine va_put (D := D) (ci := 13) (v := .int 0) (ty := .int) (C := RX9) (T := TX9) (N := 3) hx hb hts iw_X9_init_X9 tyX9 tyX9_ok nmX9 hown hK hP hD hS 0 rfl rfl 2 (by decide) (hts (.fieldLink RX9 20 "ModedMill$Table" "lines" "I") (by decide +kernel)) (fun _ h9 => h9) rfl (by decide +kernel) rfl rfl (Nat.le_of_ble_eq_true rfl) dX9_init_48 (fun H locs hP hD hS => ?_)
  have hP : va_P D vwCl [(h0, .inr (13, [.int 1, .ref q41_1, .int 0])), (q41_1, .inl ((k 0), 3, .inl (fun _ => 0)))] H := hP
  have hD : va_D A [(h0, .inr (13, [.int 1, .ref q41_1, .int 0])), (q41_1, .inl ((k 0), 3, .inl (fun _ => 0)))] := hD
  exact ov_ret hx hb hr hlocks q41_1 (trivial) hK (hP.sub [0, 1] rfl) (hD.sub [0, 1] (by decide) rfl) hS (Nat.le_of_ble_eq_true rfl) (Nat.le_of_ble_eq_true rfl) dX9_init_51
set_option maxHeartbeats 4000000 in
set_option maxRecDepth 100000 in
theorem c_Table_init_3_50 (l : Launch) (e0 : Nat) (D : va_G) (k : Nat → ClassId) (h0 : Nat) : oCv l e0 D (oTy k) yX9_init wsX9_init ({ frames := 1, cells := 1, slots := 150, locals := 20 } : Room) [.ref h0, .int 3, .int 50] [(h0, .inr (13, [.int 0, .null, .int 0]))] (S := Nat) (fun (u : Nat) => True) (fun u => [(h0, .inr (13, [.int 3, .ref u, .int 0])), (u, .inl ((k 0), 150, .inl (fun _ => 0)))]) 1 150 := by
  refine ov_of (cc := cX9_init) (maxL := 3) (ret := none) (by decide +kernel) rfl (Nat.le_of_ble_eq_true rfl) ?_
  intro p e s m below meth c A ls hx hb hml hr hts hown hlocks hin hA hK hP hD hS hE hl
  have hl : lv_has ls 3 [(0, .ref h0), (1, .int 3), (2, .int 50)] := hl
  refine lv_aload_n hx hb dX9_init_0 rfl (lv_at hl 0 rfl) ?_
  refine W.objInit hx hb hown (hts (.methodLink RX9 3 objectInit) (by decide +kernel)) (hts (.instanceMethod objectInit) (by decide +kernel)) (hts (.code objectInit ⟨#[0xb1]⟩ 1 none) (by decide +kernel)) rfl (by rw [hml]; exact hl.1) rfl dX9_init_1 (Nat.le_of_ble_eq_true rfl) (Nat.le_of_ble_eq_true rfl) ?_
  refine W.eq (g2 := F0 m 4 ls []) rfl ?_
  refine lv_aload_n hx hb dX9_init_4 rfl (lv_at hl 0 rfl) ?_
  refine lv_iload_n hx hb dX9_init_5 rfl (lv_at hl 1 rfl) ?_
  refine lv_if_le (tgt := 13) hx hb dX9_init_6 (by decide) (fun c_6 => absurd c_6 (by decide)) (fun c_6 => ?_)
  refine lv_iload_n hx hb dX9_init_9 rfl (lv_at hl 1 rfl) ?_
  refine lv_goto (tgt := 14) hx hb dX9_init_10 (by decide) ?_
  refine va_putF (D := D) (ci := 13) (v := .int 3) (ty := .int) (C := RX9) (T := TX9) (N := 3) hx hb hts iw_X9_init_X9 tyX9 tyX9_ok nmX9 hown hK hP hD hS 0 rfl rfl 0 (by decide) (hts (.fieldLink RX9 9 "ModedMill$Table" "columns" "I") (by decide +kernel)) (fun _ h9 => h9) rfl hin rfl (by decide +kernel) rfl rfl (Nat.le_of_ble_eq_true rfl) dX9_init_14 (fun H locs hP hD hS => ?_)
  have hP : va_P D vwCl [(h0, .inr (13, [.int 3, .null, .int 0]))] H := hP
  have hD : va_D A [(h0, .inr (13, [.int 3, .null, .int 0]))] := hD
  refine lv_aload_n hx hb dX9_init_17 rfl (lv_at hl 0 rfl) ?_
  refine lv_iload_n hx hb dX9_init_18 rfl (lv_at hl 2 rfl) ?_
  refine lv_if_le (tgt := 37) hx hb dX9_init_19 (by decide) (fun c_19 => absurd c_19 (by decide)) (fun c_19 => ?_)
  refine lv_iload_n hx hb dX9_init_22 rfl (lv_at hl 2 rfl) ?_
  refine lv_ldc (v := 1000000) hx hb hown (hts (.constant RX9 15 (1000000)) (by decide +kernel)) dX9_init_23 ?_
  refine lv_icmp_ge (tgt := 37) hx hb dX9_init_25 (by decide) (fun c_25 => absurd c_25 (by decide)) (fun c_25 => ?_)
  refine lv_aload_n hx hb dX9_init_28 rfl (lv_at hl 0 rfl) ?_
  refine va_get (D := D) (ci := 13) (v := .int 3) (C := RX9) (T := TX9) (N := 3) hx hb hts iw_X9_init_X9 hown hK hP 0 rfl rfl 0 (by decide) (hts (.fieldLink RX9 9 "ModedMill$Table" "columns" "I") (by decide +kernel)) (fun _ h9 => h9) rfl dX9_init_29 ?_
  refine lv_iload_n hx hb dX9_init_32 rfl (lv_at hl 2 rfl) ?_
  refine lv_imul hx hb dX9_init_33 ?_
  refine o_top (v := 150) (by decide) ?_
  refine lv_goto (tgt := 41) hx hb dX9_init_34 (by decide) ?_
  refine o_newa (D := D) (atype := .int) (ty := .int) 0 (cA0 := (k 0)) rfl (hts (.arrayClass .int) (by decide +kernel)) rfl hK hP hD hS hA (a0 := (150, .inl (fun _ => 0))) (N' := 150) hx hb (fun _ => rfl) (by decide) (rfl) (Nat.le_of_ble_eq_true rfl) (Nat.le_of_ble_eq_true rfl) (Nat.le_of_ble_eq_true rfl) dX9_init_41 (fun q41_1 H hP hD hS => ?_)
  have hP : va_P D vwCl [(h0, .inr (13, [.int 3, .null, .int 0])), (q41_1, .inl ((k 0), 150, .inl (fun _ => 0)))] H := hP
  have hD : va_D A [(h0, .inr (13, [.int 3, .null, .int 0])), (q41_1, .inl ((k 0), 150, .inl (fun _ => 0)))] := hD
  refine va_put (D := D) (ci := 13) (v := .ref q41_1) (ty := (tyX9 1)) (C := RX9) (T := TX9) (N := 3) hx hb hts iw_X9_init_X9 tyX9 tyX9_ok nmX9 hown hK hP hD hS 0 rfl rfl 1 (by decide) (hts (.fieldLink RX9 16 "ModedMill$Table" "cells" "[I") (by decide +kernel)) (fun _ h9 => h9) rfl (by decide +kernel) rfl rfl (Nat.le_of_ble_eq_true rfl) dX9_init_43 (fun H locs hP hD hS => ?_)
  have hP : va_P D vwCl [(h0, .inr (13, [.int 3, .ref q41_1, .int 0])), (q41_1, .inl ((k 0), 150, .inl (fun _ => 0)))] H := hP
  have hD : va_D A [(h0, .inr (13, [.int 3, .ref q41_1, .int 0])), (q41_1, .inl ((k 0), 150, .inl (fun _ => 0)))] := hD
  refine lv_aload_n hx hb dX9_init_46 rfl (lv_at hl 0 rfl) ?_
  refine lv_iconst (v := 0) hx hb dX9_init_47 (by decide) ?_
  refine va_put (D := D) (ci := 13) (v := .int 0) (ty := .int) (C := RX9) (T := TX9) (N := 3) hx hb hts iw_X9_init_X9 tyX9 tyX9_ok nmX9 hown hK hP hD hS 0 rfl rfl 2 (by decide) (hts (.fieldLink RX9 20 "ModedMill$Table" "lines" "I") (by decide +kernel)) (fun _ h9 => h9) rfl (by decide +kernel) rfl rfl (Nat.le_of_ble_eq_true rfl) dX9_init_48 (fun H locs hP hD hS => ?_)
  have hP : va_P D vwCl [(h0, .inr (13, [.int 3, .ref q41_1, .int 0])), (q41_1, .inl ((k 0), 150, .inl (fun _ => 0)))] H := hP
  have hD : va_D A [(h0, .inr (13, [.int 3, .ref q41_1, .int 0])), (q41_1, .inl ((k 0), 150, .inl (fun _ => 0)))] := hD
  exact ov_ret hx hb hr hlocks q41_1 (trivial) hK (hP.sub [0, 1] rfl) (hD.sub [0, 1] (by decide) rfl) hS (Nat.le_of_ble_eq_true rfl) (Nat.le_of_ble_eq_true rfl) dX9_init_51
set_option maxHeartbeats 4000000 in
set_option maxRecDepth 100000 in
theorem c_Table_init_2_80 (l : Launch) (e0 : Nat) (D : va_G) (k : Nat → ClassId) (h0 : Nat) : oCv l e0 D (oTy k) yX9_init wsX9_init ({ frames := 1, cells := 1, slots := 160, locals := 20 } : Room) [.ref h0, .int 2, .int 80] [(h0, .inr (13, [.int 0, .null, .int 0]))] (S := Nat) (fun (u : Nat) => True) (fun u => [(h0, .inr (13, [.int 2, .ref u, .int 0])), (u, .inl ((k 0), 160, .inl (fun _ => 0)))]) 1 160 := by
  refine ov_of (cc := cX9_init) (maxL := 3) (ret := none) (by decide +kernel) rfl (Nat.le_of_ble_eq_true rfl) ?_
  intro p e s m below meth c A ls hx hb hml hr hts hown hlocks hin hA hK hP hD hS hE hl
  have hl : lv_has ls 3 [(0, .ref h0), (1, .int 2), (2, .int 80)] := hl
  refine lv_aload_n hx hb dX9_init_0 rfl (lv_at hl 0 rfl) ?_
  refine W.objInit hx hb hown (hts (.methodLink RX9 3 objectInit) (by decide +kernel)) (hts (.instanceMethod objectInit) (by decide +kernel)) (hts (.code objectInit ⟨#[0xb1]⟩ 1 none) (by decide +kernel)) rfl (by rw [hml]; exact hl.1) rfl dX9_init_1 (Nat.le_of_ble_eq_true rfl) (Nat.le_of_ble_eq_true rfl) ?_
  refine W.eq (g2 := F0 m 4 ls []) rfl ?_
  refine lv_aload_n hx hb dX9_init_4 rfl (lv_at hl 0 rfl) ?_
  refine lv_iload_n hx hb dX9_init_5 rfl (lv_at hl 1 rfl) ?_
  refine lv_if_le (tgt := 13) hx hb dX9_init_6 (by decide) (fun c_6 => absurd c_6 (by decide)) (fun c_6 => ?_)
  refine lv_iload_n hx hb dX9_init_9 rfl (lv_at hl 1 rfl) ?_
  refine lv_goto (tgt := 14) hx hb dX9_init_10 (by decide) ?_
  refine va_putF (D := D) (ci := 13) (v := .int 2) (ty := .int) (C := RX9) (T := TX9) (N := 3) hx hb hts iw_X9_init_X9 tyX9 tyX9_ok nmX9 hown hK hP hD hS 0 rfl rfl 0 (by decide) (hts (.fieldLink RX9 9 "ModedMill$Table" "columns" "I") (by decide +kernel)) (fun _ h9 => h9) rfl hin rfl (by decide +kernel) rfl rfl (Nat.le_of_ble_eq_true rfl) dX9_init_14 (fun H locs hP hD hS => ?_)
  have hP : va_P D vwCl [(h0, .inr (13, [.int 2, .null, .int 0]))] H := hP
  have hD : va_D A [(h0, .inr (13, [.int 2, .null, .int 0]))] := hD
  refine lv_aload_n hx hb dX9_init_17 rfl (lv_at hl 0 rfl) ?_
  refine lv_iload_n hx hb dX9_init_18 rfl (lv_at hl 2 rfl) ?_
  refine lv_if_le (tgt := 37) hx hb dX9_init_19 (by decide) (fun c_19 => absurd c_19 (by decide)) (fun c_19 => ?_)
  refine lv_iload_n hx hb dX9_init_22 rfl (lv_at hl 2 rfl) ?_
  refine lv_ldc (v := 1000000) hx hb hown (hts (.constant RX9 15 (1000000)) (by decide +kernel)) dX9_init_23 ?_
  refine lv_icmp_ge (tgt := 37) hx hb dX9_init_25 (by decide) (fun c_25 => absurd c_25 (by decide)) (fun c_25 => ?_)
  refine lv_aload_n hx hb dX9_init_28 rfl (lv_at hl 0 rfl) ?_
  refine va_get (D := D) (ci := 13) (v := .int 2) (C := RX9) (T := TX9) (N := 3) hx hb hts iw_X9_init_X9 hown hK hP 0 rfl rfl 0 (by decide) (hts (.fieldLink RX9 9 "ModedMill$Table" "columns" "I") (by decide +kernel)) (fun _ h9 => h9) rfl dX9_init_29 ?_
  refine lv_iload_n hx hb dX9_init_32 rfl (lv_at hl 2 rfl) ?_
  refine lv_imul hx hb dX9_init_33 ?_
  refine o_top (v := 160) (by decide) ?_
  refine lv_goto (tgt := 41) hx hb dX9_init_34 (by decide) ?_
  refine o_newa (D := D) (atype := .int) (ty := .int) 0 (cA0 := (k 0)) rfl (hts (.arrayClass .int) (by decide +kernel)) rfl hK hP hD hS hA (a0 := (160, .inl (fun _ => 0))) (N' := 160) hx hb (fun _ => rfl) (by decide) (rfl) (Nat.le_of_ble_eq_true rfl) (Nat.le_of_ble_eq_true rfl) (Nat.le_of_ble_eq_true rfl) dX9_init_41 (fun q41_1 H hP hD hS => ?_)
  have hP : va_P D vwCl [(h0, .inr (13, [.int 2, .null, .int 0])), (q41_1, .inl ((k 0), 160, .inl (fun _ => 0)))] H := hP
  have hD : va_D A [(h0, .inr (13, [.int 2, .null, .int 0])), (q41_1, .inl ((k 0), 160, .inl (fun _ => 0)))] := hD
  refine va_put (D := D) (ci := 13) (v := .ref q41_1) (ty := (tyX9 1)) (C := RX9) (T := TX9) (N := 3) hx hb hts iw_X9_init_X9 tyX9 tyX9_ok nmX9 hown hK hP hD hS 0 rfl rfl 1 (by decide) (hts (.fieldLink RX9 16 "ModedMill$Table" "cells" "[I") (by decide +kernel)) (fun _ h9 => h9) rfl (by decide +kernel) rfl rfl (Nat.le_of_ble_eq_true rfl) dX9_init_43 (fun H locs hP hD hS => ?_)
  have hP : va_P D vwCl [(h0, .inr (13, [.int 2, .ref q41_1, .int 0])), (q41_1, .inl ((k 0), 160, .inl (fun _ => 0)))] H := hP
  have hD : va_D A [(h0, .inr (13, [.int 2, .ref q41_1, .int 0])), (q41_1, .inl ((k 0), 160, .inl (fun _ => 0)))] := hD
  refine lv_aload_n hx hb dX9_init_46 rfl (lv_at hl 0 rfl) ?_
  refine lv_iconst (v := 0) hx hb dX9_init_47 (by decide) ?_
  refine va_put (D := D) (ci := 13) (v := .int 0) (ty := .int) (C := RX9) (T := TX9) (N := 3) hx hb hts iw_X9_init_X9 tyX9 tyX9_ok nmX9 hown hK hP hD hS 0 rfl rfl 2 (by decide) (hts (.fieldLink RX9 20 "ModedMill$Table" "lines" "I") (by decide +kernel)) (fun _ h9 => h9) rfl (by decide +kernel) rfl rfl (Nat.le_of_ble_eq_true rfl) dX9_init_48 (fun H locs hP hD hS => ?_)
  have hP : va_P D vwCl [(h0, .inr (13, [.int 2, .ref q41_1, .int 0])), (q41_1, .inl ((k 0), 160, .inl (fun _ => 0)))] H := hP
  have hD : va_D A [(h0, .inr (13, [.int 2, .ref q41_1, .int 0])), (q41_1, .inl ((k 0), 160, .inl (fun _ => 0)))] := hD
  exact ov_ret hx hb hr hlocks q41_1 (trivial) hK (hP.sub [0, 1] rfl) (hD.sub [0, 1] (by decide) rfl) hS (Nat.le_of_ble_eq_true rfl) (Nat.le_of_ble_eq_true rfl) dX9_init_51
set_option maxHeartbeats 4000000 in
set_option maxRecDepth 100000 in
theorem c_Table_init_3_30 (l : Launch) (e0 : Nat) (D : va_G) (k : Nat → ClassId) (h0 : Nat) : oCv l e0 D (oTy k) yX9_init wsX9_init ({ frames := 1, cells := 1, slots := 90, locals := 20 } : Room) [.ref h0, .int 3, .int 30] [(h0, .inr (13, [.int 0, .null, .int 0]))] (S := Nat) (fun (u : Nat) => True) (fun u => [(h0, .inr (13, [.int 3, .ref u, .int 0])), (u, .inl ((k 0), 90, .inl (fun _ => 0)))]) 1 90 := by
  refine ov_of (cc := cX9_init) (maxL := 3) (ret := none) (by decide +kernel) rfl (Nat.le_of_ble_eq_true rfl) ?_
  intro p e s m below meth c A ls hx hb hml hr hts hown hlocks hin hA hK hP hD hS hE hl
  have hl : lv_has ls 3 [(0, .ref h0), (1, .int 3), (2, .int 30)] := hl
  refine lv_aload_n hx hb dX9_init_0 rfl (lv_at hl 0 rfl) ?_
  refine W.objInit hx hb hown (hts (.methodLink RX9 3 objectInit) (by decide +kernel)) (hts (.instanceMethod objectInit) (by decide +kernel)) (hts (.code objectInit ⟨#[0xb1]⟩ 1 none) (by decide +kernel)) rfl (by rw [hml]; exact hl.1) rfl dX9_init_1 (Nat.le_of_ble_eq_true rfl) (Nat.le_of_ble_eq_true rfl) ?_
  refine W.eq (g2 := F0 m 4 ls []) rfl ?_
  refine lv_aload_n hx hb dX9_init_4 rfl (lv_at hl 0 rfl) ?_
  refine lv_iload_n hx hb dX9_init_5 rfl (lv_at hl 1 rfl) ?_
  refine lv_if_le (tgt := 13) hx hb dX9_init_6 (by decide) (fun c_6 => absurd c_6 (by decide)) (fun c_6 => ?_)
  refine lv_iload_n hx hb dX9_init_9 rfl (lv_at hl 1 rfl) ?_
  refine lv_goto (tgt := 14) hx hb dX9_init_10 (by decide) ?_
  refine va_putF (D := D) (ci := 13) (v := .int 3) (ty := .int) (C := RX9) (T := TX9) (N := 3) hx hb hts iw_X9_init_X9 tyX9 tyX9_ok nmX9 hown hK hP hD hS 0 rfl rfl 0 (by decide) (hts (.fieldLink RX9 9 "ModedMill$Table" "columns" "I") (by decide +kernel)) (fun _ h9 => h9) rfl hin rfl (by decide +kernel) rfl rfl (Nat.le_of_ble_eq_true rfl) dX9_init_14 (fun H locs hP hD hS => ?_)
  have hP : va_P D vwCl [(h0, .inr (13, [.int 3, .null, .int 0]))] H := hP
  have hD : va_D A [(h0, .inr (13, [.int 3, .null, .int 0]))] := hD
  refine lv_aload_n hx hb dX9_init_17 rfl (lv_at hl 0 rfl) ?_
  refine lv_iload_n hx hb dX9_init_18 rfl (lv_at hl 2 rfl) ?_
  refine lv_if_le (tgt := 37) hx hb dX9_init_19 (by decide) (fun c_19 => absurd c_19 (by decide)) (fun c_19 => ?_)
  refine lv_iload_n hx hb dX9_init_22 rfl (lv_at hl 2 rfl) ?_
  refine lv_ldc (v := 1000000) hx hb hown (hts (.constant RX9 15 (1000000)) (by decide +kernel)) dX9_init_23 ?_
  refine lv_icmp_ge (tgt := 37) hx hb dX9_init_25 (by decide) (fun c_25 => absurd c_25 (by decide)) (fun c_25 => ?_)
  refine lv_aload_n hx hb dX9_init_28 rfl (lv_at hl 0 rfl) ?_
  refine va_get (D := D) (ci := 13) (v := .int 3) (C := RX9) (T := TX9) (N := 3) hx hb hts iw_X9_init_X9 hown hK hP 0 rfl rfl 0 (by decide) (hts (.fieldLink RX9 9 "ModedMill$Table" "columns" "I") (by decide +kernel)) (fun _ h9 => h9) rfl dX9_init_29 ?_
  refine lv_iload_n hx hb dX9_init_32 rfl (lv_at hl 2 rfl) ?_
  refine lv_imul hx hb dX9_init_33 ?_
  refine o_top (v := 90) (by decide) ?_
  refine lv_goto (tgt := 41) hx hb dX9_init_34 (by decide) ?_
  refine o_newa (D := D) (atype := .int) (ty := .int) 0 (cA0 := (k 0)) rfl (hts (.arrayClass .int) (by decide +kernel)) rfl hK hP hD hS hA (a0 := (90, .inl (fun _ => 0))) (N' := 90) hx hb (fun _ => rfl) (by decide) (rfl) (Nat.le_of_ble_eq_true rfl) (Nat.le_of_ble_eq_true rfl) (Nat.le_of_ble_eq_true rfl) dX9_init_41 (fun q41_1 H hP hD hS => ?_)
  have hP : va_P D vwCl [(h0, .inr (13, [.int 3, .null, .int 0])), (q41_1, .inl ((k 0), 90, .inl (fun _ => 0)))] H := hP
  have hD : va_D A [(h0, .inr (13, [.int 3, .null, .int 0])), (q41_1, .inl ((k 0), 90, .inl (fun _ => 0)))] := hD
  refine va_put (D := D) (ci := 13) (v := .ref q41_1) (ty := (tyX9 1)) (C := RX9) (T := TX9) (N := 3) hx hb hts iw_X9_init_X9 tyX9 tyX9_ok nmX9 hown hK hP hD hS 0 rfl rfl 1 (by decide) (hts (.fieldLink RX9 16 "ModedMill$Table" "cells" "[I") (by decide +kernel)) (fun _ h9 => h9) rfl (by decide +kernel) rfl rfl (Nat.le_of_ble_eq_true rfl) dX9_init_43 (fun H locs hP hD hS => ?_)
  have hP : va_P D vwCl [(h0, .inr (13, [.int 3, .ref q41_1, .int 0])), (q41_1, .inl ((k 0), 90, .inl (fun _ => 0)))] H := hP
  have hD : va_D A [(h0, .inr (13, [.int 3, .ref q41_1, .int 0])), (q41_1, .inl ((k 0), 90, .inl (fun _ => 0)))] := hD
  refine lv_aload_n hx hb dX9_init_46 rfl (lv_at hl 0 rfl) ?_
  refine lv_iconst (v := 0) hx hb dX9_init_47 (by decide) ?_
  refine va_put (D := D) (ci := 13) (v := .int 0) (ty := .int) (C := RX9) (T := TX9) (N := 3) hx hb hts iw_X9_init_X9 tyX9 tyX9_ok nmX9 hown hK hP hD hS 0 rfl rfl 2 (by decide) (hts (.fieldLink RX9 20 "ModedMill$Table" "lines" "I") (by decide +kernel)) (fun _ h9 => h9) rfl (by decide +kernel) rfl rfl (Nat.le_of_ble_eq_true rfl) dX9_init_48 (fun H locs hP hD hS => ?_)
  have hP : va_P D vwCl [(h0, .inr (13, [.int 3, .ref q41_1, .int 0])), (q41_1, .inl ((k 0), 90, .inl (fun _ => 0)))] H := hP
  have hD : va_D A [(h0, .inr (13, [.int 3, .ref q41_1, .int 0])), (q41_1, .inl ((k 0), 90, .inl (fun _ => 0)))] := hD
  exact ov_ret hx hb hr hlocks q41_1 (trivial) hK (hP.sub [0, 1] rfl) (hD.sub [0, 1] (by decide) rfl) hS (Nat.le_of_ble_eq_true rfl) (Nat.le_of_ble_eq_true rfl) dX9_init_51
set_option maxHeartbeats 4000000 in
set_option maxRecDepth 100000 in
theorem c_Table_init_2_30 (l : Launch) (e0 : Nat) (D : va_G) (k : Nat → ClassId) (h0 : Nat) : oCv l e0 D (oTy k) yX9_init wsX9_init ({ frames := 1, cells := 1, slots := 60, locals := 20 } : Room) [.ref h0, .int 2, .int 30] [(h0, .inr (13, [.int 0, .null, .int 0]))] (S := Nat) (fun (u : Nat) => True) (fun u => [(h0, .inr (13, [.int 2, .ref u, .int 0])), (u, .inl ((k 0), 60, .inl (fun _ => 0)))]) 1 60 := by
  refine ov_of (cc := cX9_init) (maxL := 3) (ret := none) (by decide +kernel) rfl (Nat.le_of_ble_eq_true rfl) ?_
  intro p e s m below meth c A ls hx hb hml hr hts hown hlocks hin hA hK hP hD hS hE hl
  have hl : lv_has ls 3 [(0, .ref h0), (1, .int 2), (2, .int 30)] := hl
  refine lv_aload_n hx hb dX9_init_0 rfl (lv_at hl 0 rfl) ?_
  refine W.objInit hx hb hown (hts (.methodLink RX9 3 objectInit) (by decide +kernel)) (hts (.instanceMethod objectInit) (by decide +kernel)) (hts (.code objectInit ⟨#[0xb1]⟩ 1 none) (by decide +kernel)) rfl (by rw [hml]; exact hl.1) rfl dX9_init_1 (Nat.le_of_ble_eq_true rfl) (Nat.le_of_ble_eq_true rfl) ?_
  refine W.eq (g2 := F0 m 4 ls []) rfl ?_
  refine lv_aload_n hx hb dX9_init_4 rfl (lv_at hl 0 rfl) ?_
  refine lv_iload_n hx hb dX9_init_5 rfl (lv_at hl 1 rfl) ?_
  refine lv_if_le (tgt := 13) hx hb dX9_init_6 (by decide) (fun c_6 => absurd c_6 (by decide)) (fun c_6 => ?_)
  refine lv_iload_n hx hb dX9_init_9 rfl (lv_at hl 1 rfl) ?_
  refine lv_goto (tgt := 14) hx hb dX9_init_10 (by decide) ?_
  refine va_putF (D := D) (ci := 13) (v := .int 2) (ty := .int) (C := RX9) (T := TX9) (N := 3) hx hb hts iw_X9_init_X9 tyX9 tyX9_ok nmX9 hown hK hP hD hS 0 rfl rfl 0 (by decide) (hts (.fieldLink RX9 9 "ModedMill$Table" "columns" "I") (by decide +kernel)) (fun _ h9 => h9) rfl hin rfl (by decide +kernel) rfl rfl (Nat.le_of_ble_eq_true rfl) dX9_init_14 (fun H locs hP hD hS => ?_)
  have hP : va_P D vwCl [(h0, .inr (13, [.int 2, .null, .int 0]))] H := hP
  have hD : va_D A [(h0, .inr (13, [.int 2, .null, .int 0]))] := hD
  refine lv_aload_n hx hb dX9_init_17 rfl (lv_at hl 0 rfl) ?_
  refine lv_iload_n hx hb dX9_init_18 rfl (lv_at hl 2 rfl) ?_
  refine lv_if_le (tgt := 37) hx hb dX9_init_19 (by decide) (fun c_19 => absurd c_19 (by decide)) (fun c_19 => ?_)
  refine lv_iload_n hx hb dX9_init_22 rfl (lv_at hl 2 rfl) ?_
  refine lv_ldc (v := 1000000) hx hb hown (hts (.constant RX9 15 (1000000)) (by decide +kernel)) dX9_init_23 ?_
  refine lv_icmp_ge (tgt := 37) hx hb dX9_init_25 (by decide) (fun c_25 => absurd c_25 (by decide)) (fun c_25 => ?_)
  refine lv_aload_n hx hb dX9_init_28 rfl (lv_at hl 0 rfl) ?_
  refine va_get (D := D) (ci := 13) (v := .int 2) (C := RX9) (T := TX9) (N := 3) hx hb hts iw_X9_init_X9 hown hK hP 0 rfl rfl 0 (by decide) (hts (.fieldLink RX9 9 "ModedMill$Table" "columns" "I") (by decide +kernel)) (fun _ h9 => h9) rfl dX9_init_29 ?_
  refine lv_iload_n hx hb dX9_init_32 rfl (lv_at hl 2 rfl) ?_
  refine lv_imul hx hb dX9_init_33 ?_
  refine o_top (v := 60) (by decide) ?_
  refine lv_goto (tgt := 41) hx hb dX9_init_34 (by decide) ?_
  refine o_newa (D := D) (atype := .int) (ty := .int) 0 (cA0 := (k 0)) rfl (hts (.arrayClass .int) (by decide +kernel)) rfl hK hP hD hS hA (a0 := (60, .inl (fun _ => 0))) (N' := 60) hx hb (fun _ => rfl) (by decide) (rfl) (Nat.le_of_ble_eq_true rfl) (Nat.le_of_ble_eq_true rfl) (Nat.le_of_ble_eq_true rfl) dX9_init_41 (fun q41_1 H hP hD hS => ?_)
  have hP : va_P D vwCl [(h0, .inr (13, [.int 2, .null, .int 0])), (q41_1, .inl ((k 0), 60, .inl (fun _ => 0)))] H := hP
  have hD : va_D A [(h0, .inr (13, [.int 2, .null, .int 0])), (q41_1, .inl ((k 0), 60, .inl (fun _ => 0)))] := hD
  refine va_put (D := D) (ci := 13) (v := .ref q41_1) (ty := (tyX9 1)) (C := RX9) (T := TX9) (N := 3) hx hb hts iw_X9_init_X9 tyX9 tyX9_ok nmX9 hown hK hP hD hS 0 rfl rfl 1 (by decide) (hts (.fieldLink RX9 16 "ModedMill$Table" "cells" "[I") (by decide +kernel)) (fun _ h9 => h9) rfl (by decide +kernel) rfl rfl (Nat.le_of_ble_eq_true rfl) dX9_init_43 (fun H locs hP hD hS => ?_)
  have hP : va_P D vwCl [(h0, .inr (13, [.int 2, .ref q41_1, .int 0])), (q41_1, .inl ((k 0), 60, .inl (fun _ => 0)))] H := hP
  have hD : va_D A [(h0, .inr (13, [.int 2, .ref q41_1, .int 0])), (q41_1, .inl ((k 0), 60, .inl (fun _ => 0)))] := hD
  refine lv_aload_n hx hb dX9_init_46 rfl (lv_at hl 0 rfl) ?_
  refine lv_iconst (v := 0) hx hb dX9_init_47 (by decide) ?_
  refine va_put (D := D) (ci := 13) (v := .int 0) (ty := .int) (C := RX9) (T := TX9) (N := 3) hx hb hts iw_X9_init_X9 tyX9 tyX9_ok nmX9 hown hK hP hD hS 0 rfl rfl 2 (by decide) (hts (.fieldLink RX9 20 "ModedMill$Table" "lines" "I") (by decide +kernel)) (fun _ h9 => h9) rfl (by decide +kernel) rfl rfl (Nat.le_of_ble_eq_true rfl) dX9_init_48 (fun H locs hP hD hS => ?_)
  have hP : va_P D vwCl [(h0, .inr (13, [.int 2, .ref q41_1, .int 0])), (q41_1, .inl ((k 0), 60, .inl (fun _ => 0)))] H := hP
  have hD : va_D A [(h0, .inr (13, [.int 2, .ref q41_1, .int 0])), (q41_1, .inl ((k 0), 60, .inl (fun _ => 0)))] := hD
  exact ov_ret hx hb hr hlocks q41_1 (trivial) hK (hP.sub [0, 1] rfl) (hD.sub [0, 1] (by decide) rfl) hS (Nat.le_of_ble_eq_true rfl) (Nat.le_of_ble_eq_true rfl) dX9_init_51
set_option maxHeartbeats 4000000 in
set_option maxRecDepth 100000 in
theorem c_Table_init_5_64 (l : Launch) (e0 : Nat) (D : va_G) (k : Nat → ClassId) (h0 : Nat) : oCv l e0 D (oTy k) yX9_init wsX9_init ({ frames := 1, cells := 1, slots := 320, locals := 20 } : Room) [.ref h0, .int 5, .int 64] [(h0, .inr (13, [.int 0, .null, .int 0]))] (S := Nat) (fun (u : Nat) => True) (fun u => [(h0, .inr (13, [.int 5, .ref u, .int 0])), (u, .inl ((k 0), 320, .inl (fun _ => 0)))]) 1 320 := by
  refine ov_of (cc := cX9_init) (maxL := 3) (ret := none) (by decide +kernel) rfl (Nat.le_of_ble_eq_true rfl) ?_
  intro p e s m below meth c A ls hx hb hml hr hts hown hlocks hin hA hK hP hD hS hE hl
  have hl : lv_has ls 3 [(0, .ref h0), (1, .int 5), (2, .int 64)] := hl
  refine lv_aload_n hx hb dX9_init_0 rfl (lv_at hl 0 rfl) ?_
  refine W.objInit hx hb hown (hts (.methodLink RX9 3 objectInit) (by decide +kernel)) (hts (.instanceMethod objectInit) (by decide +kernel)) (hts (.code objectInit ⟨#[0xb1]⟩ 1 none) (by decide +kernel)) rfl (by rw [hml]; exact hl.1) rfl dX9_init_1 (Nat.le_of_ble_eq_true rfl) (Nat.le_of_ble_eq_true rfl) ?_
  refine W.eq (g2 := F0 m 4 ls []) rfl ?_
  refine lv_aload_n hx hb dX9_init_4 rfl (lv_at hl 0 rfl) ?_
  refine lv_iload_n hx hb dX9_init_5 rfl (lv_at hl 1 rfl) ?_
  refine lv_if_le (tgt := 13) hx hb dX9_init_6 (by decide) (fun c_6 => absurd c_6 (by decide)) (fun c_6 => ?_)
  refine lv_iload_n hx hb dX9_init_9 rfl (lv_at hl 1 rfl) ?_
  refine lv_goto (tgt := 14) hx hb dX9_init_10 (by decide) ?_
  refine va_putF (D := D) (ci := 13) (v := .int 5) (ty := .int) (C := RX9) (T := TX9) (N := 3) hx hb hts iw_X9_init_X9 tyX9 tyX9_ok nmX9 hown hK hP hD hS 0 rfl rfl 0 (by decide) (hts (.fieldLink RX9 9 "ModedMill$Table" "columns" "I") (by decide +kernel)) (fun _ h9 => h9) rfl hin rfl (by decide +kernel) rfl rfl (Nat.le_of_ble_eq_true rfl) dX9_init_14 (fun H locs hP hD hS => ?_)
  have hP : va_P D vwCl [(h0, .inr (13, [.int 5, .null, .int 0]))] H := hP
  have hD : va_D A [(h0, .inr (13, [.int 5, .null, .int 0]))] := hD
  refine lv_aload_n hx hb dX9_init_17 rfl (lv_at hl 0 rfl) ?_
  refine lv_iload_n hx hb dX9_init_18 rfl (lv_at hl 2 rfl) ?_
  refine lv_if_le (tgt := 37) hx hb dX9_init_19 (by decide) (fun c_19 => absurd c_19 (by decide)) (fun c_19 => ?_)
  refine lv_iload_n hx hb dX9_init_22 rfl (lv_at hl 2 rfl) ?_
  refine lv_ldc (v := 1000000) hx hb hown (hts (.constant RX9 15 (1000000)) (by decide +kernel)) dX9_init_23 ?_
  refine lv_icmp_ge (tgt := 37) hx hb dX9_init_25 (by decide) (fun c_25 => absurd c_25 (by decide)) (fun c_25 => ?_)
  refine lv_aload_n hx hb dX9_init_28 rfl (lv_at hl 0 rfl) ?_
  refine va_get (D := D) (ci := 13) (v := .int 5) (C := RX9) (T := TX9) (N := 3) hx hb hts iw_X9_init_X9 hown hK hP 0 rfl rfl 0 (by decide) (hts (.fieldLink RX9 9 "ModedMill$Table" "columns" "I") (by decide +kernel)) (fun _ h9 => h9) rfl dX9_init_29 ?_
  refine lv_iload_n hx hb dX9_init_32 rfl (lv_at hl 2 rfl) ?_
  refine lv_imul hx hb dX9_init_33 ?_
  refine o_top (v := 320) (by decide) ?_
  refine lv_goto (tgt := 41) hx hb dX9_init_34 (by decide) ?_
  refine o_newa (D := D) (atype := .int) (ty := .int) 0 (cA0 := (k 0)) rfl (hts (.arrayClass .int) (by decide +kernel)) rfl hK hP hD hS hA (a0 := (320, .inl (fun _ => 0))) (N' := 320) hx hb (fun _ => rfl) (by decide) (rfl) (Nat.le_of_ble_eq_true rfl) (Nat.le_of_ble_eq_true rfl) (Nat.le_of_ble_eq_true rfl) dX9_init_41 (fun q41_1 H hP hD hS => ?_)
  have hP : va_P D vwCl [(h0, .inr (13, [.int 5, .null, .int 0])), (q41_1, .inl ((k 0), 320, .inl (fun _ => 0)))] H := hP
  have hD : va_D A [(h0, .inr (13, [.int 5, .null, .int 0])), (q41_1, .inl ((k 0), 320, .inl (fun _ => 0)))] := hD
  refine va_put (D := D) (ci := 13) (v := .ref q41_1) (ty := (tyX9 1)) (C := RX9) (T := TX9) (N := 3) hx hb hts iw_X9_init_X9 tyX9 tyX9_ok nmX9 hown hK hP hD hS 0 rfl rfl 1 (by decide) (hts (.fieldLink RX9 16 "ModedMill$Table" "cells" "[I") (by decide +kernel)) (fun _ h9 => h9) rfl (by decide +kernel) rfl rfl (Nat.le_of_ble_eq_true rfl) dX9_init_43 (fun H locs hP hD hS => ?_)
  have hP : va_P D vwCl [(h0, .inr (13, [.int 5, .ref q41_1, .int 0])), (q41_1, .inl ((k 0), 320, .inl (fun _ => 0)))] H := hP
  have hD : va_D A [(h0, .inr (13, [.int 5, .ref q41_1, .int 0])), (q41_1, .inl ((k 0), 320, .inl (fun _ => 0)))] := hD
  refine lv_aload_n hx hb dX9_init_46 rfl (lv_at hl 0 rfl) ?_
  refine lv_iconst (v := 0) hx hb dX9_init_47 (by decide) ?_
  refine va_put (D := D) (ci := 13) (v := .int 0) (ty := .int) (C := RX9) (T := TX9) (N := 3) hx hb hts iw_X9_init_X9 tyX9 tyX9_ok nmX9 hown hK hP hD hS 0 rfl rfl 2 (by decide) (hts (.fieldLink RX9 20 "ModedMill$Table" "lines" "I") (by decide +kernel)) (fun _ h9 => h9) rfl (by decide +kernel) rfl rfl (Nat.le_of_ble_eq_true rfl) dX9_init_48 (fun H locs hP hD hS => ?_)
  have hP : va_P D vwCl [(h0, .inr (13, [.int 5, .ref q41_1, .int 0])), (q41_1, .inl ((k 0), 320, .inl (fun _ => 0)))] H := hP
  have hD : va_D A [(h0, .inr (13, [.int 5, .ref q41_1, .int 0])), (q41_1, .inl ((k 0), 320, .inl (fun _ => 0)))] := hD
  exact ov_ret hx hb hr hlocks q41_1 (trivial) hK (hP.sub [0, 1] rfl) (hD.sub [0, 1] (by decide) rfl) hS (Nat.le_of_ble_eq_true rfl) (Nat.le_of_ble_eq_true rfl) dX9_init_51
set_option maxHeartbeats 4000000 in
set_option maxRecDepth 100000 in
theorem c_Table_init_3_64 (l : Launch) (e0 : Nat) (D : va_G) (k : Nat → ClassId) (h0 : Nat) : oCv l e0 D (oTy k) yX9_init wsX9_init ({ frames := 1, cells := 1, slots := 192, locals := 20 } : Room) [.ref h0, .int 3, .int 64] [(h0, .inr (13, [.int 0, .null, .int 0]))] (S := Nat) (fun (u : Nat) => True) (fun u => [(h0, .inr (13, [.int 3, .ref u, .int 0])), (u, .inl ((k 0), 192, .inl (fun _ => 0)))]) 1 192 := by
  refine ov_of (cc := cX9_init) (maxL := 3) (ret := none) (by decide +kernel) rfl (Nat.le_of_ble_eq_true rfl) ?_
  intro p e s m below meth c A ls hx hb hml hr hts hown hlocks hin hA hK hP hD hS hE hl
  have hl : lv_has ls 3 [(0, .ref h0), (1, .int 3), (2, .int 64)] := hl
  refine lv_aload_n hx hb dX9_init_0 rfl (lv_at hl 0 rfl) ?_
  refine W.objInit hx hb hown (hts (.methodLink RX9 3 objectInit) (by decide +kernel)) (hts (.instanceMethod objectInit) (by decide +kernel)) (hts (.code objectInit ⟨#[0xb1]⟩ 1 none) (by decide +kernel)) rfl (by rw [hml]; exact hl.1) rfl dX9_init_1 (Nat.le_of_ble_eq_true rfl) (Nat.le_of_ble_eq_true rfl) ?_
  refine W.eq (g2 := F0 m 4 ls []) rfl ?_
  refine lv_aload_n hx hb dX9_init_4 rfl (lv_at hl 0 rfl) ?_
  refine lv_iload_n hx hb dX9_init_5 rfl (lv_at hl 1 rfl) ?_
  refine lv_if_le (tgt := 13) hx hb dX9_init_6 (by decide) (fun c_6 => absurd c_6 (by decide)) (fun c_6 => ?_)
  refine lv_iload_n hx hb dX9_init_9 rfl (lv_at hl 1 rfl) ?_
  refine lv_goto (tgt := 14) hx hb dX9_init_10 (by decide) ?_
  refine va_putF (D := D) (ci := 13) (v := .int 3) (ty := .int) (C := RX9) (T := TX9) (N := 3) hx hb hts iw_X9_init_X9 tyX9 tyX9_ok nmX9 hown hK hP hD hS 0 rfl rfl 0 (by decide) (hts (.fieldLink RX9 9 "ModedMill$Table" "columns" "I") (by decide +kernel)) (fun _ h9 => h9) rfl hin rfl (by decide +kernel) rfl rfl (Nat.le_of_ble_eq_true rfl) dX9_init_14 (fun H locs hP hD hS => ?_)
  have hP : va_P D vwCl [(h0, .inr (13, [.int 3, .null, .int 0]))] H := hP
  have hD : va_D A [(h0, .inr (13, [.int 3, .null, .int 0]))] := hD
  refine lv_aload_n hx hb dX9_init_17 rfl (lv_at hl 0 rfl) ?_
  refine lv_iload_n hx hb dX9_init_18 rfl (lv_at hl 2 rfl) ?_
  refine lv_if_le (tgt := 37) hx hb dX9_init_19 (by decide) (fun c_19 => absurd c_19 (by decide)) (fun c_19 => ?_)
  refine lv_iload_n hx hb dX9_init_22 rfl (lv_at hl 2 rfl) ?_
  refine lv_ldc (v := 1000000) hx hb hown (hts (.constant RX9 15 (1000000)) (by decide +kernel)) dX9_init_23 ?_
  refine lv_icmp_ge (tgt := 37) hx hb dX9_init_25 (by decide) (fun c_25 => absurd c_25 (by decide)) (fun c_25 => ?_)
  refine lv_aload_n hx hb dX9_init_28 rfl (lv_at hl 0 rfl) ?_
  refine va_get (D := D) (ci := 13) (v := .int 3) (C := RX9) (T := TX9) (N := 3) hx hb hts iw_X9_init_X9 hown hK hP 0 rfl rfl 0 (by decide) (hts (.fieldLink RX9 9 "ModedMill$Table" "columns" "I") (by decide +kernel)) (fun _ h9 => h9) rfl dX9_init_29 ?_
  refine lv_iload_n hx hb dX9_init_32 rfl (lv_at hl 2 rfl) ?_
  refine lv_imul hx hb dX9_init_33 ?_
  refine o_top (v := 192) (by decide) ?_
  refine lv_goto (tgt := 41) hx hb dX9_init_34 (by decide) ?_
  refine o_newa (D := D) (atype := .int) (ty := .int) 0 (cA0 := (k 0)) rfl (hts (.arrayClass .int) (by decide +kernel)) rfl hK hP hD hS hA (a0 := (192, .inl (fun _ => 0))) (N' := 192) hx hb (fun _ => rfl) (by decide) (rfl) (Nat.le_of_ble_eq_true rfl) (Nat.le_of_ble_eq_true rfl) (Nat.le_of_ble_eq_true rfl) dX9_init_41 (fun q41_1 H hP hD hS => ?_)
  have hP : va_P D vwCl [(h0, .inr (13, [.int 3, .null, .int 0])), (q41_1, .inl ((k 0), 192, .inl (fun _ => 0)))] H := hP
  have hD : va_D A [(h0, .inr (13, [.int 3, .null, .int 0])), (q41_1, .inl ((k 0), 192, .inl (fun _ => 0)))] := hD
  refine va_put (D := D) (ci := 13) (v := .ref q41_1) (ty := (tyX9 1)) (C := RX9) (T := TX9) (N := 3) hx hb hts iw_X9_init_X9 tyX9 tyX9_ok nmX9 hown hK hP hD hS 0 rfl rfl 1 (by decide) (hts (.fieldLink RX9 16 "ModedMill$Table" "cells" "[I") (by decide +kernel)) (fun _ h9 => h9) rfl (by decide +kernel) rfl rfl (Nat.le_of_ble_eq_true rfl) dX9_init_43 (fun H locs hP hD hS => ?_)
  have hP : va_P D vwCl [(h0, .inr (13, [.int 3, .ref q41_1, .int 0])), (q41_1, .inl ((k 0), 192, .inl (fun _ => 0)))] H := hP
  have hD : va_D A [(h0, .inr (13, [.int 3, .ref q41_1, .int 0])), (q41_1, .inl ((k 0), 192, .inl (fun _ => 0)))] := hD
  refine lv_aload_n hx hb dX9_init_46 rfl (lv_at hl 0 rfl) ?_
  refine lv_iconst (v := 0) hx hb dX9_init_47 (by decide) ?_
  refine va_put (D := D) (ci := 13) (v := .int 0) (ty := .int) (C := RX9) (T := TX9) (N := 3) hx hb hts iw_X9_init_X9 tyX9 tyX9_ok nmX9 hown hK hP hD hS 0 rfl rfl 2 (by decide) (hts (.fieldLink RX9 20 "ModedMill$Table" "lines" "I") (by decide +kernel)) (fun _ h9 => h9) rfl (by decide +kernel) rfl rfl (Nat.le_of_ble_eq_true rfl) dX9_init_48 (fun H locs hP hD hS => ?_)
  have hP : va_P D vwCl [(h0, .inr (13, [.int 3, .ref q41_1, .int 0])), (q41_1, .inl ((k 0), 192, .inl (fun _ => 0)))] H := hP
  have hD : va_D A [(h0, .inr (13, [.int 3, .ref q41_1, .int 0])), (q41_1, .inl ((k 0), 192, .inl (fun _ => 0)))] := hD
  exact ov_ret hx hb hr hlocks q41_1 (trivial) hK (hP.sub [0, 1] rfl) (hD.sub [0, 1] (by decide) rfl) hS (Nat.le_of_ble_eq_true rfl) (Nat.le_of_ble_eq_true rfl) dX9_init_51
set_option maxHeartbeats 4000000 in
set_option maxRecDepth 100000 in
theorem c_Table_init_4_64 (l : Launch) (e0 : Nat) (D : va_G) (k : Nat → ClassId) (h0 : Nat) : oCv l e0 D (oTy k) yX9_init wsX9_init ({ frames := 1, cells := 1, slots := 256, locals := 20 } : Room) [.ref h0, .int 4, .int 64] [(h0, .inr (13, [.int 0, .null, .int 0]))] (S := Nat) (fun (u : Nat) => True) (fun u => [(h0, .inr (13, [.int 4, .ref u, .int 0])), (u, .inl ((k 0), 256, .inl (fun _ => 0)))]) 1 256 := by
  refine ov_of (cc := cX9_init) (maxL := 3) (ret := none) (by decide +kernel) rfl (Nat.le_of_ble_eq_true rfl) ?_
  intro p e s m below meth c A ls hx hb hml hr hts hown hlocks hin hA hK hP hD hS hE hl
  have hl : lv_has ls 3 [(0, .ref h0), (1, .int 4), (2, .int 64)] := hl
  refine lv_aload_n hx hb dX9_init_0 rfl (lv_at hl 0 rfl) ?_
  refine W.objInit hx hb hown (hts (.methodLink RX9 3 objectInit) (by decide +kernel)) (hts (.instanceMethod objectInit) (by decide +kernel)) (hts (.code objectInit ⟨#[0xb1]⟩ 1 none) (by decide +kernel)) rfl (by rw [hml]; exact hl.1) rfl dX9_init_1 (Nat.le_of_ble_eq_true rfl) (Nat.le_of_ble_eq_true rfl) ?_
  refine W.eq (g2 := F0 m 4 ls []) rfl ?_
  refine lv_aload_n hx hb dX9_init_4 rfl (lv_at hl 0 rfl) ?_
  refine lv_iload_n hx hb dX9_init_5 rfl (lv_at hl 1 rfl) ?_
  refine lv_if_le (tgt := 13) hx hb dX9_init_6 (by decide) (fun c_6 => absurd c_6 (by decide)) (fun c_6 => ?_)
  refine lv_iload_n hx hb dX9_init_9 rfl (lv_at hl 1 rfl) ?_
  refine lv_goto (tgt := 14) hx hb dX9_init_10 (by decide) ?_
  refine va_putF (D := D) (ci := 13) (v := .int 4) (ty := .int) (C := RX9) (T := TX9) (N := 3) hx hb hts iw_X9_init_X9 tyX9 tyX9_ok nmX9 hown hK hP hD hS 0 rfl rfl 0 (by decide) (hts (.fieldLink RX9 9 "ModedMill$Table" "columns" "I") (by decide +kernel)) (fun _ h9 => h9) rfl hin rfl (by decide +kernel) rfl rfl (Nat.le_of_ble_eq_true rfl) dX9_init_14 (fun H locs hP hD hS => ?_)
  have hP : va_P D vwCl [(h0, .inr (13, [.int 4, .null, .int 0]))] H := hP
  have hD : va_D A [(h0, .inr (13, [.int 4, .null, .int 0]))] := hD
  refine lv_aload_n hx hb dX9_init_17 rfl (lv_at hl 0 rfl) ?_
  refine lv_iload_n hx hb dX9_init_18 rfl (lv_at hl 2 rfl) ?_
  refine lv_if_le (tgt := 37) hx hb dX9_init_19 (by decide) (fun c_19 => absurd c_19 (by decide)) (fun c_19 => ?_)
  refine lv_iload_n hx hb dX9_init_22 rfl (lv_at hl 2 rfl) ?_
  refine lv_ldc (v := 1000000) hx hb hown (hts (.constant RX9 15 (1000000)) (by decide +kernel)) dX9_init_23 ?_
  refine lv_icmp_ge (tgt := 37) hx hb dX9_init_25 (by decide) (fun c_25 => absurd c_25 (by decide)) (fun c_25 => ?_)
  refine lv_aload_n hx hb dX9_init_28 rfl (lv_at hl 0 rfl) ?_
  refine va_get (D := D) (ci := 13) (v := .int 4) (C := RX9) (T := TX9) (N := 3) hx hb hts iw_X9_init_X9 hown hK hP 0 rfl rfl 0 (by decide) (hts (.fieldLink RX9 9 "ModedMill$Table" "columns" "I") (by decide +kernel)) (fun _ h9 => h9) rfl dX9_init_29 ?_
  refine lv_iload_n hx hb dX9_init_32 rfl (lv_at hl 2 rfl) ?_
  refine lv_imul hx hb dX9_init_33 ?_
  refine o_top (v := 256) (by decide) ?_
  refine lv_goto (tgt := 41) hx hb dX9_init_34 (by decide) ?_
  refine o_newa (D := D) (atype := .int) (ty := .int) 0 (cA0 := (k 0)) rfl (hts (.arrayClass .int) (by decide +kernel)) rfl hK hP hD hS hA (a0 := (256, .inl (fun _ => 0))) (N' := 256) hx hb (fun _ => rfl) (by decide) (rfl) (Nat.le_of_ble_eq_true rfl) (Nat.le_of_ble_eq_true rfl) (Nat.le_of_ble_eq_true rfl) dX9_init_41 (fun q41_1 H hP hD hS => ?_)
  have hP : va_P D vwCl [(h0, .inr (13, [.int 4, .null, .int 0])), (q41_1, .inl ((k 0), 256, .inl (fun _ => 0)))] H := hP
  have hD : va_D A [(h0, .inr (13, [.int 4, .null, .int 0])), (q41_1, .inl ((k 0), 256, .inl (fun _ => 0)))] := hD
  refine va_put (D := D) (ci := 13) (v := .ref q41_1) (ty := (tyX9 1)) (C := RX9) (T := TX9) (N := 3) hx hb hts iw_X9_init_X9 tyX9 tyX9_ok nmX9 hown hK hP hD hS 0 rfl rfl 1 (by decide) (hts (.fieldLink RX9 16 "ModedMill$Table" "cells" "[I") (by decide +kernel)) (fun _ h9 => h9) rfl (by decide +kernel) rfl rfl (Nat.le_of_ble_eq_true rfl) dX9_init_43 (fun H locs hP hD hS => ?_)
  have hP : va_P D vwCl [(h0, .inr (13, [.int 4, .ref q41_1, .int 0])), (q41_1, .inl ((k 0), 256, .inl (fun _ => 0)))] H := hP
  have hD : va_D A [(h0, .inr (13, [.int 4, .ref q41_1, .int 0])), (q41_1, .inl ((k 0), 256, .inl (fun _ => 0)))] := hD
  refine lv_aload_n hx hb dX9_init_46 rfl (lv_at hl 0 rfl) ?_
  refine lv_iconst (v := 0) hx hb dX9_init_47 (by decide) ?_
  refine va_put (D := D) (ci := 13) (v := .int 0) (ty := .int) (C := RX9) (T := TX9) (N := 3) hx hb hts iw_X9_init_X9 tyX9 tyX9_ok nmX9 hown hK hP hD hS 0 rfl rfl 2 (by decide) (hts (.fieldLink RX9 20 "ModedMill$Table" "lines" "I") (by decide +kernel)) (fun _ h9 => h9) rfl (by decide +kernel) rfl rfl (Nat.le_of_ble_eq_true rfl) dX9_init_48 (fun H locs hP hD hS => ?_)
  have hP : va_P D vwCl [(h0, .inr (13, [.int 4, .ref q41_1, .int 0])), (q41_1, .inl ((k 0), 256, .inl (fun _ => 0)))] H := hP
  have hD : va_D A [(h0, .inr (13, [.int 4, .ref q41_1, .int 0])), (q41_1, .inl ((k 0), 256, .inl (fun _ => 0)))] := hD
  exact ov_ret hx hb hr hlocks q41_1 (trivial) hK (hP.sub [0, 1] rfl) (hD.sub [0, 1] (by decide) rfl) hS (Nat.le_of_ble_eq_true rfl) (Nat.le_of_ble_eq_true rfl) dX9_init_51
set_option maxHeartbeats 4000000 in
set_option maxRecDepth 100000 in
theorem c_Table_init_6_64 (l : Launch) (e0 : Nat) (D : va_G) (k : Nat → ClassId) (h0 : Nat) : oCv l e0 D (oTy k) yX9_init wsX9_init ({ frames := 1, cells := 1, slots := 384, locals := 20 } : Room) [.ref h0, .int 6, .int 64] [(h0, .inr (13, [.int 0, .null, .int 0]))] (S := Nat) (fun (u : Nat) => True) (fun u => [(h0, .inr (13, [.int 6, .ref u, .int 0])), (u, .inl ((k 0), 384, .inl (fun _ => 0)))]) 1 384 := by
  refine ov_of (cc := cX9_init) (maxL := 3) (ret := none) (by decide +kernel) rfl (Nat.le_of_ble_eq_true rfl) ?_
  intro p e s m below meth c A ls hx hb hml hr hts hown hlocks hin hA hK hP hD hS hE hl
  have hl : lv_has ls 3 [(0, .ref h0), (1, .int 6), (2, .int 64)] := hl
  refine lv_aload_n hx hb dX9_init_0 rfl (lv_at hl 0 rfl) ?_
  refine W.objInit hx hb hown (hts (.methodLink RX9 3 objectInit) (by decide +kernel)) (hts (.instanceMethod objectInit) (by decide +kernel)) (hts (.code objectInit ⟨#[0xb1]⟩ 1 none) (by decide +kernel)) rfl (by rw [hml]; exact hl.1) rfl dX9_init_1 (Nat.le_of_ble_eq_true rfl) (Nat.le_of_ble_eq_true rfl) ?_
  refine W.eq (g2 := F0 m 4 ls []) rfl ?_
  refine lv_aload_n hx hb dX9_init_4 rfl (lv_at hl 0 rfl) ?_
  refine lv_iload_n hx hb dX9_init_5 rfl (lv_at hl 1 rfl) ?_
  refine lv_if_le (tgt := 13) hx hb dX9_init_6 (by decide) (fun c_6 => absurd c_6 (by decide)) (fun c_6 => ?_)
  refine lv_iload_n hx hb dX9_init_9 rfl (lv_at hl 1 rfl) ?_
  refine lv_goto (tgt := 14) hx hb dX9_init_10 (by decide) ?_
  refine va_putF (D := D) (ci := 13) (v := .int 6) (ty := .int) (C := RX9) (T := TX9) (N := 3) hx hb hts iw_X9_init_X9 tyX9 tyX9_ok nmX9 hown hK hP hD hS 0 rfl rfl 0 (by decide) (hts (.fieldLink RX9 9 "ModedMill$Table" "columns" "I") (by decide +kernel)) (fun _ h9 => h9) rfl hin rfl (by decide +kernel) rfl rfl (Nat.le_of_ble_eq_true rfl) dX9_init_14 (fun H locs hP hD hS => ?_)
  have hP : va_P D vwCl [(h0, .inr (13, [.int 6, .null, .int 0]))] H := hP
  have hD : va_D A [(h0, .inr (13, [.int 6, .null, .int 0]))] := hD
  refine lv_aload_n hx hb dX9_init_17 rfl (lv_at hl 0 rfl) ?_
  refine lv_iload_n hx hb dX9_init_18 rfl (lv_at hl 2 rfl) ?_
  refine lv_if_le (tgt := 37) hx hb dX9_init_19 (by decide) (fun c_19 => absurd c_19 (by decide)) (fun c_19 => ?_)
  refine lv_iload_n hx hb dX9_init_22 rfl (lv_at hl 2 rfl) ?_
  refine lv_ldc (v := 1000000) hx hb hown (hts (.constant RX9 15 (1000000)) (by decide +kernel)) dX9_init_23 ?_
  refine lv_icmp_ge (tgt := 37) hx hb dX9_init_25 (by decide) (fun c_25 => absurd c_25 (by decide)) (fun c_25 => ?_)
  refine lv_aload_n hx hb dX9_init_28 rfl (lv_at hl 0 rfl) ?_
  refine va_get (D := D) (ci := 13) (v := .int 6) (C := RX9) (T := TX9) (N := 3) hx hb hts iw_X9_init_X9 hown hK hP 0 rfl rfl 0 (by decide) (hts (.fieldLink RX9 9 "ModedMill$Table" "columns" "I") (by decide +kernel)) (fun _ h9 => h9) rfl dX9_init_29 ?_
  refine lv_iload_n hx hb dX9_init_32 rfl (lv_at hl 2 rfl) ?_
  refine lv_imul hx hb dX9_init_33 ?_
  refine o_top (v := 384) (by decide) ?_
  refine lv_goto (tgt := 41) hx hb dX9_init_34 (by decide) ?_
  refine o_newa (D := D) (atype := .int) (ty := .int) 0 (cA0 := (k 0)) rfl (hts (.arrayClass .int) (by decide +kernel)) rfl hK hP hD hS hA (a0 := (384, .inl (fun _ => 0))) (N' := 384) hx hb (fun _ => rfl) (by decide) (rfl) (Nat.le_of_ble_eq_true rfl) (Nat.le_of_ble_eq_true rfl) (Nat.le_of_ble_eq_true rfl) dX9_init_41 (fun q41_1 H hP hD hS => ?_)
  have hP : va_P D vwCl [(h0, .inr (13, [.int 6, .null, .int 0])), (q41_1, .inl ((k 0), 384, .inl (fun _ => 0)))] H := hP
  have hD : va_D A [(h0, .inr (13, [.int 6, .null, .int 0])), (q41_1, .inl ((k 0), 384, .inl (fun _ => 0)))] := hD
  refine va_put (D := D) (ci := 13) (v := .ref q41_1) (ty := (tyX9 1)) (C := RX9) (T := TX9) (N := 3) hx hb hts iw_X9_init_X9 tyX9 tyX9_ok nmX9 hown hK hP hD hS 0 rfl rfl 1 (by decide) (hts (.fieldLink RX9 16 "ModedMill$Table" "cells" "[I") (by decide +kernel)) (fun _ h9 => h9) rfl (by decide +kernel) rfl rfl (Nat.le_of_ble_eq_true rfl) dX9_init_43 (fun H locs hP hD hS => ?_)
  have hP : va_P D vwCl [(h0, .inr (13, [.int 6, .ref q41_1, .int 0])), (q41_1, .inl ((k 0), 384, .inl (fun _ => 0)))] H := hP
  have hD : va_D A [(h0, .inr (13, [.int 6, .ref q41_1, .int 0])), (q41_1, .inl ((k 0), 384, .inl (fun _ => 0)))] := hD
  refine lv_aload_n hx hb dX9_init_46 rfl (lv_at hl 0 rfl) ?_
  refine lv_iconst (v := 0) hx hb dX9_init_47 (by decide) ?_
  refine va_put (D := D) (ci := 13) (v := .int 0) (ty := .int) (C := RX9) (T := TX9) (N := 3) hx hb hts iw_X9_init_X9 tyX9 tyX9_ok nmX9 hown hK hP hD hS 0 rfl rfl 2 (by decide) (hts (.fieldLink RX9 20 "ModedMill$Table" "lines" "I") (by decide +kernel)) (fun _ h9 => h9) rfl (by decide +kernel) rfl rfl (Nat.le_of_ble_eq_true rfl) dX9_init_48 (fun H locs hP hD hS => ?_)
  have hP : va_P D vwCl [(h0, .inr (13, [.int 6, .ref q41_1, .int 0])), (q41_1, .inl ((k 0), 384, .inl (fun _ => 0)))] H := hP
  have hD : va_D A [(h0, .inr (13, [.int 6, .ref q41_1, .int 0])), (q41_1, .inl ((k 0), 384, .inl (fun _ => 0)))] := hD
  exact ov_ret hx hb hr hlocks q41_1 (trivial) hK (hP.sub [0, 1] rfl) (hD.sub [0, 1] (by decide) rfl) hS (Nat.le_of_ble_eq_true rfl) (Nat.le_of_ble_eq_true rfl) dX9_init_51
set_option maxHeartbeats 4000000 in
set_option maxRecDepth 100000 in
theorem c_Table_init_2_64 (l : Launch) (e0 : Nat) (D : va_G) (k : Nat → ClassId) (h0 : Nat) : oCv l e0 D (oTy k) yX9_init wsX9_init ({ frames := 1, cells := 1, slots := 128, locals := 20 } : Room) [.ref h0, .int 2, .int 64] [(h0, .inr (13, [.int 0, .null, .int 0]))] (S := Nat) (fun (u : Nat) => True) (fun u => [(h0, .inr (13, [.int 2, .ref u, .int 0])), (u, .inl ((k 0), 128, .inl (fun _ => 0)))]) 1 128 := by
  refine ov_of (cc := cX9_init) (maxL := 3) (ret := none) (by decide +kernel) rfl (Nat.le_of_ble_eq_true rfl) ?_
  intro p e s m below meth c A ls hx hb hml hr hts hown hlocks hin hA hK hP hD hS hE hl
  have hl : lv_has ls 3 [(0, .ref h0), (1, .int 2), (2, .int 64)] := hl
  refine lv_aload_n hx hb dX9_init_0 rfl (lv_at hl 0 rfl) ?_
  refine W.objInit hx hb hown (hts (.methodLink RX9 3 objectInit) (by decide +kernel)) (hts (.instanceMethod objectInit) (by decide +kernel)) (hts (.code objectInit ⟨#[0xb1]⟩ 1 none) (by decide +kernel)) rfl (by rw [hml]; exact hl.1) rfl dX9_init_1 (Nat.le_of_ble_eq_true rfl) (Nat.le_of_ble_eq_true rfl) ?_
  refine W.eq (g2 := F0 m 4 ls []) rfl ?_
  refine lv_aload_n hx hb dX9_init_4 rfl (lv_at hl 0 rfl) ?_
  refine lv_iload_n hx hb dX9_init_5 rfl (lv_at hl 1 rfl) ?_
  refine lv_if_le (tgt := 13) hx hb dX9_init_6 (by decide) (fun c_6 => absurd c_6 (by decide)) (fun c_6 => ?_)
  refine lv_iload_n hx hb dX9_init_9 rfl (lv_at hl 1 rfl) ?_
  refine lv_goto (tgt := 14) hx hb dX9_init_10 (by decide) ?_
  refine va_putF (D := D) (ci := 13) (v := .int 2) (ty := .int) (C := RX9) (T := TX9) (N := 3) hx hb hts iw_X9_init_X9 tyX9 tyX9_ok nmX9 hown hK hP hD hS 0 rfl rfl 0 (by decide) (hts (.fieldLink RX9 9 "ModedMill$Table" "columns" "I") (by decide +kernel)) (fun _ h9 => h9) rfl hin rfl (by decide +kernel) rfl rfl (Nat.le_of_ble_eq_true rfl) dX9_init_14 (fun H locs hP hD hS => ?_)
  have hP : va_P D vwCl [(h0, .inr (13, [.int 2, .null, .int 0]))] H := hP
  have hD : va_D A [(h0, .inr (13, [.int 2, .null, .int 0]))] := hD
  refine lv_aload_n hx hb dX9_init_17 rfl (lv_at hl 0 rfl) ?_
  refine lv_iload_n hx hb dX9_init_18 rfl (lv_at hl 2 rfl) ?_
  refine lv_if_le (tgt := 37) hx hb dX9_init_19 (by decide) (fun c_19 => absurd c_19 (by decide)) (fun c_19 => ?_)
  refine lv_iload_n hx hb dX9_init_22 rfl (lv_at hl 2 rfl) ?_
  refine lv_ldc (v := 1000000) hx hb hown (hts (.constant RX9 15 (1000000)) (by decide +kernel)) dX9_init_23 ?_
  refine lv_icmp_ge (tgt := 37) hx hb dX9_init_25 (by decide) (fun c_25 => absurd c_25 (by decide)) (fun c_25 => ?_)
  refine lv_aload_n hx hb dX9_init_28 rfl (lv_at hl 0 rfl) ?_
  refine va_get (D := D) (ci := 13) (v := .int 2) (C := RX9) (T := TX9) (N := 3) hx hb hts iw_X9_init_X9 hown hK hP 0 rfl rfl 0 (by decide) (hts (.fieldLink RX9 9 "ModedMill$Table" "columns" "I") (by decide +kernel)) (fun _ h9 => h9) rfl dX9_init_29 ?_
  refine lv_iload_n hx hb dX9_init_32 rfl (lv_at hl 2 rfl) ?_
  refine lv_imul hx hb dX9_init_33 ?_
  refine o_top (v := 128) (by decide) ?_
  refine lv_goto (tgt := 41) hx hb dX9_init_34 (by decide) ?_
  refine o_newa (D := D) (atype := .int) (ty := .int) 0 (cA0 := (k 0)) rfl (hts (.arrayClass .int) (by decide +kernel)) rfl hK hP hD hS hA (a0 := (128, .inl (fun _ => 0))) (N' := 128) hx hb (fun _ => rfl) (by decide) (rfl) (Nat.le_of_ble_eq_true rfl) (Nat.le_of_ble_eq_true rfl) (Nat.le_of_ble_eq_true rfl) dX9_init_41 (fun q41_1 H hP hD hS => ?_)
  have hP : va_P D vwCl [(h0, .inr (13, [.int 2, .null, .int 0])), (q41_1, .inl ((k 0), 128, .inl (fun _ => 0)))] H := hP
  have hD : va_D A [(h0, .inr (13, [.int 2, .null, .int 0])), (q41_1, .inl ((k 0), 128, .inl (fun _ => 0)))] := hD
  refine va_put (D := D) (ci := 13) (v := .ref q41_1) (ty := (tyX9 1)) (C := RX9) (T := TX9) (N := 3) hx hb hts iw_X9_init_X9 tyX9 tyX9_ok nmX9 hown hK hP hD hS 0 rfl rfl 1 (by decide) (hts (.fieldLink RX9 16 "ModedMill$Table" "cells" "[I") (by decide +kernel)) (fun _ h9 => h9) rfl (by decide +kernel) rfl rfl (Nat.le_of_ble_eq_true rfl) dX9_init_43 (fun H locs hP hD hS => ?_)
  have hP : va_P D vwCl [(h0, .inr (13, [.int 2, .ref q41_1, .int 0])), (q41_1, .inl ((k 0), 128, .inl (fun _ => 0)))] H := hP
  have hD : va_D A [(h0, .inr (13, [.int 2, .ref q41_1, .int 0])), (q41_1, .inl ((k 0), 128, .inl (fun _ => 0)))] := hD
  refine lv_aload_n hx hb dX9_init_46 rfl (lv_at hl 0 rfl) ?_
  refine lv_iconst (v := 0) hx hb dX9_init_47 (by decide) ?_
  refine va_put (D := D) (ci := 13) (v := .int 0) (ty := .int) (C := RX9) (T := TX9) (N := 3) hx hb hts iw_X9_init_X9 tyX9 tyX9_ok nmX9 hown hK hP hD hS 0 rfl rfl 2 (by decide) (hts (.fieldLink RX9 20 "ModedMill$Table" "lines" "I") (by decide +kernel)) (fun _ h9 => h9) rfl (by decide +kernel) rfl rfl (Nat.le_of_ble_eq_true rfl) dX9_init_48 (fun H locs hP hD hS => ?_)
  have hP : va_P D vwCl [(h0, .inr (13, [.int 2, .ref q41_1, .int 0])), (q41_1, .inl ((k 0), 128, .inl (fun _ => 0)))] H := hP
  have hD : va_D A [(h0, .inr (13, [.int 2, .ref q41_1, .int 0])), (q41_1, .inl ((k 0), 128, .inl (fun _ => 0)))] := hD
  exact ov_ret hx hb hr hlocks q41_1 (trivial) hK (hP.sub [0, 1] rfl) (hD.sub [0, 1] (by decide) rfl) hS (Nat.le_of_ble_eq_true rfl) (Nat.le_of_ble_eq_true rfl) dX9_init_51
set_option maxHeartbeats 4000000 in
set_option maxRecDepth 100000 in
theorem c_Table_init_4_8 (l : Launch) (e0 : Nat) (D : va_G) (k : Nat → ClassId) (h0 : Nat) : oCv l e0 D (oTy k) yX9_init wsX9_init ({ frames := 1, cells := 1, slots := 32, locals := 20 } : Room) [.ref h0, .int 4, .int 8] [(h0, .inr (13, [.int 0, .null, .int 0]))] (S := Nat) (fun (u : Nat) => True) (fun u => [(h0, .inr (13, [.int 4, .ref u, .int 0])), (u, .inl ((k 0), 32, .inl (fun _ => 0)))]) 1 32 := by
  refine ov_of (cc := cX9_init) (maxL := 3) (ret := none) (by decide +kernel) rfl (Nat.le_of_ble_eq_true rfl) ?_
  intro p e s m below meth c A ls hx hb hml hr hts hown hlocks hin hA hK hP hD hS hE hl
  have hl : lv_has ls 3 [(0, .ref h0), (1, .int 4), (2, .int 8)] := hl
  refine lv_aload_n hx hb dX9_init_0 rfl (lv_at hl 0 rfl) ?_
  refine W.objInit hx hb hown (hts (.methodLink RX9 3 objectInit) (by decide +kernel)) (hts (.instanceMethod objectInit) (by decide +kernel)) (hts (.code objectInit ⟨#[0xb1]⟩ 1 none) (by decide +kernel)) rfl (by rw [hml]; exact hl.1) rfl dX9_init_1 (Nat.le_of_ble_eq_true rfl) (Nat.le_of_ble_eq_true rfl) ?_
  refine W.eq (g2 := F0 m 4 ls []) rfl ?_
  refine lv_aload_n hx hb dX9_init_4 rfl (lv_at hl 0 rfl) ?_
  refine lv_iload_n hx hb dX9_init_5 rfl (lv_at hl 1 rfl) ?_
  refine lv_if_le (tgt := 13) hx hb dX9_init_6 (by decide) (fun c_6 => absurd c_6 (by decide)) (fun c_6 => ?_)
  refine lv_iload_n hx hb dX9_init_9 rfl (lv_at hl 1 rfl) ?_
  refine lv_goto (tgt := 14) hx hb dX9_init_10 (by decide) ?_
  refine va_putF (D := D) (ci := 13) (v := .int 4) (ty := .int) (C := RX9) (T := TX9) (N := 3) hx hb hts iw_X9_init_X9 tyX9 tyX9_ok nmX9 hown hK hP hD hS 0 rfl rfl 0 (by decide) (hts (.fieldLink RX9 9 "ModedMill$Table" "columns" "I") (by decide +kernel)) (fun _ h9 => h9) rfl hin rfl (by decide +kernel) rfl rfl (Nat.le_of_ble_eq_true rfl) dX9_init_14 (fun H locs hP hD hS => ?_)
  have hP : va_P D vwCl [(h0, .inr (13, [.int 4, .null, .int 0]))] H := hP
  have hD : va_D A [(h0, .inr (13, [.int 4, .null, .int 0]))] := hD
  refine lv_aload_n hx hb dX9_init_17 rfl (lv_at hl 0 rfl) ?_
  refine lv_iload_n hx hb dX9_init_18 rfl (lv_at hl 2 rfl) ?_
  refine lv_if_le (tgt := 37) hx hb dX9_init_19 (by decide) (fun c_19 => absurd c_19 (by decide)) (fun c_19 => ?_)
  refine lv_iload_n hx hb dX9_init_22 rfl (lv_at hl 2 rfl) ?_
  refine lv_ldc (v := 1000000) hx hb hown (hts (.constant RX9 15 (1000000)) (by decide +kernel)) dX9_init_23 ?_
  refine lv_icmp_ge (tgt := 37) hx hb dX9_init_25 (by decide) (fun c_25 => absurd c_25 (by decide)) (fun c_25 => ?_)
  refine lv_aload_n hx hb dX9_init_28 rfl (lv_at hl 0 rfl) ?_
  refine va_get (D := D) (ci := 13) (v := .int 4) (C := RX9) (T := TX9) (N := 3) hx hb hts iw_X9_init_X9 hown hK hP 0 rfl rfl 0 (by decide) (hts (.fieldLink RX9 9 "ModedMill$Table" "columns" "I") (by decide +kernel)) (fun _ h9 => h9) rfl dX9_init_29 ?_
  refine lv_iload_n hx hb dX9_init_32 rfl (lv_at hl 2 rfl) ?_
  refine lv_imul hx hb dX9_init_33 ?_
  refine o_top (v := 32) (by decide) ?_
  refine lv_goto (tgt := 41) hx hb dX9_init_34 (by decide) ?_
  refine o_newa (D := D) (atype := .int) (ty := .int) 0 (cA0 := (k 0)) rfl (hts (.arrayClass .int) (by decide +kernel)) rfl hK hP hD hS hA (a0 := (32, .inl (fun _ => 0))) (N' := 32) hx hb (fun _ => rfl) (by decide) (rfl) (Nat.le_of_ble_eq_true rfl) (Nat.le_of_ble_eq_true rfl) (Nat.le_of_ble_eq_true rfl) dX9_init_41 (fun q41_1 H hP hD hS => ?_)
  have hP : va_P D vwCl [(h0, .inr (13, [.int 4, .null, .int 0])), (q41_1, .inl ((k 0), 32, .inl (fun _ => 0)))] H := hP
  have hD : va_D A [(h0, .inr (13, [.int 4, .null, .int 0])), (q41_1, .inl ((k 0), 32, .inl (fun _ => 0)))] := hD
  refine va_put (D := D) (ci := 13) (v := .ref q41_1) (ty := (tyX9 1)) (C := RX9) (T := TX9) (N := 3) hx hb hts iw_X9_init_X9 tyX9 tyX9_ok nmX9 hown hK hP hD hS 0 rfl rfl 1 (by decide) (hts (.fieldLink RX9 16 "ModedMill$Table" "cells" "[I") (by decide +kernel)) (fun _ h9 => h9) rfl (by decide +kernel) rfl rfl (Nat.le_of_ble_eq_true rfl) dX9_init_43 (fun H locs hP hD hS => ?_)
  have hP : va_P D vwCl [(h0, .inr (13, [.int 4, .ref q41_1, .int 0])), (q41_1, .inl ((k 0), 32, .inl (fun _ => 0)))] H := hP
  have hD : va_D A [(h0, .inr (13, [.int 4, .ref q41_1, .int 0])), (q41_1, .inl ((k 0), 32, .inl (fun _ => 0)))] := hD
  refine lv_aload_n hx hb dX9_init_46 rfl (lv_at hl 0 rfl) ?_
  refine lv_iconst (v := 0) hx hb dX9_init_47 (by decide) ?_
  refine va_put (D := D) (ci := 13) (v := .int 0) (ty := .int) (C := RX9) (T := TX9) (N := 3) hx hb hts iw_X9_init_X9 tyX9 tyX9_ok nmX9 hown hK hP hD hS 0 rfl rfl 2 (by decide) (hts (.fieldLink RX9 20 "ModedMill$Table" "lines" "I") (by decide +kernel)) (fun _ h9 => h9) rfl (by decide +kernel) rfl rfl (Nat.le_of_ble_eq_true rfl) dX9_init_48 (fun H locs hP hD hS => ?_)
  have hP : va_P D vwCl [(h0, .inr (13, [.int 4, .ref q41_1, .int 0])), (q41_1, .inl ((k 0), 32, .inl (fun _ => 0)))] H := hP
  have hD : va_D A [(h0, .inr (13, [.int 4, .ref q41_1, .int 0])), (q41_1, .inl ((k 0), 32, .inl (fun _ => 0)))] := hD
  exact ov_ret hx hb hr hlocks q41_1 (trivial) hK (hP.sub [0, 1] rfl) (hD.sub [0, 1] (by decide) rfl) hS (Nat.le_of_ble_eq_true rfl) (Nat.le_of_ble_eq_true rfl) dX9_init_51
theorem iw_X9_count_X9 : ∀ w ∈ wsX90, w ∈ wsX9_count := by decide +kernel
set_option maxHeartbeats 4000000 in
set_option maxRecDepth 100000 in
/-- Table.count -/
theorem c_Table_count (l : Launch) (e0 : Nat) (D : va_G) (k : Nat → ClassId) (h0 : Nat) (q1 : Nat) (cv : Int32) (L : Int32) : oCi l e0 D (oTy k) yX9_count wsX9_count ({ frames := 0, cells := 0, slots := 0, locals := 0 } : Room) [.ref h0] [(h0, .inr (13, [.int cv, .ref q1, .int L]))] (S := Unit) (fun (r : Int32) (u : Unit) => r = L) (fun u => [(h0, .inr (13, [.int cv, .ref q1, .int L]))]) 0 0 := by
  refine oi_of (cc := cX9_count) (maxL := 1) (ret := (some .int)) (by decide +kernel) rfl (Nat.le_of_ble_eq_true rfl) ?_
  intro p e s m below meth c A ls hx hb hml hr hts hown hlocks hin hA hK hP hD hS hE hl
  have hl : lv_has ls 1 [(0, .ref h0)] := hl
  refine lv_aload_n hx hb dX9_count_0 rfl (lv_at hl 0 rfl) ?_
  refine va_get (D := D) (ci := 13) (v := .int L) (C := RX9) (T := TX9) (N := 3) hx hb hts iw_X9_count_X9 hown hK hP 0 rfl rfl 2 (by decide) (hts (.fieldLink RX9 20 "ModedMill$Table" "lines" "I") (by decide +kernel)) (fun _ h9 => h9) rfl dX9_count_1 ?_
  exact oi_ret hx hb hr hlocks rfl () (rfl) hK (hP.sub [0] rfl) (hD.sub [0] (by decide) rfl) hS (Nat.le_of_ble_eq_true rfl) (Nat.le_of_ble_eq_true rfl) dX9_count_4
set_option maxHeartbeats 4000000 in
set_option maxRecDepth 100000 in
theorem c_rangeCheck (l : Launch) (e0 : Nat) (D : va_G) (k : Nat → ClassId) (n : Nat) (i : Nat) (j : Nat) (hij : i ≤ j) (hjn : j ≤ n) (hn : n < 2147483648) : oCv l e0 D (oTy k) yJ7_rangeCheck_23922 wsJ7_rangeCheck_23922 ({ frames := 0, cells := 0, slots := 0, locals := 0 } : Room) [.int (nI n), .int (nI i), .int (nI j)] [] (S := Unit) (fun (u : Unit) => True) (fun u => []) 0 0 := by
  refine ov_of (cc := cJ7_rangeCheck_23922) (maxL := 3) (ret := none) (by decide +kernel) rfl (Nat.le_of_ble_eq_true rfl) ?_
  intro p e s m below meth c A ls hx hb hml hr hts hown hlocks hin hA hK hP hD hS hE hl
  have hl : lv_has ls 3 [(0, .int (nI n)), (1, .int (nI i)), (2, .int (nI j))] := hl
  refine lv_iload_n hx hb dJ7_rangeCheck_23922_0 rfl (lv_at hl 1 rfl) ?_
  refine lv_iload_n hx hb dJ7_rangeCheck_23922_1 rfl (lv_at hl 2 rfl) ?_
  refine lv_icmp_le (tgt := 46) hx hb dJ7_rangeCheck_23922_2 (by decide) (fun c_2 => ?_) (fun c_2 => absurd (o_le (by omega) (by omega)) c_2)
  refine lv_iload_n hx hb dJ7_rangeCheck_23922_46 rfl (lv_at hl 1 rfl) ?_
  refine lv_if_ge (tgt := 59) hx hb dJ7_rangeCheck_23922_47 (by decide) (fun c_47 => ?_) (fun c_47 => absurd (o_le (a := 0) (by omega) (by omega)) c_47)
  refine lv_iload_n hx hb dJ7_rangeCheck_23922_59 rfl (lv_at hl 2 rfl) ?_
  refine lv_iload_n hx hb dJ7_rangeCheck_23922_60 rfl (lv_at hl 0 rfl) ?_
  refine lv_icmp_le (tgt := 73) hx hb dJ7_rangeCheck_23922_61 (by decide) (fun c_61 => ?_) (fun c_61 => absurd (o_le (by omega) (by omega)) c_61)
  exact ov_ret hx hb hr hlocks () (trivial) hK (hP.sub [] rfl) (hD.sub [] (by decide) rfl) hS (Nat.le_of_ble_eq_true rfl) (Nat.le_of_ble_eq_true rfl) dJ7_rangeCheck_23922_73
set_option maxHeartbeats 4000000 in
set_option maxRecDepth 100000 in
/-- Arrays.fill: what the places hold is left open -/
theorem c_fill (l : Launch) (e0 : Nat) (D : va_G) (k : Nat → ClassId) (a0 : Nat) (n : Nat) (i : Nat) (j : Nat) (v : Int32) (f : Nat → Int32) (hij : i ≤ j) (hjn : j ≤ n) (hn : n < 2147483648) : oCv l e0 D (oTy k) yJ7_fill_fda19 wsJ7_fill_fda19 ({ frames := 1, cells := 0, slots := 0, locals := 22 } : Room) [.ref a0, .int (nI i), .int (nI j), .int v] [(a0, .inl ((k 0), n, .inl f))] (S := (Nat → Int32)) (fun (u : (Nat → Int32)) => True) (fun u => [(a0, .inl ((k 0), n, .inl u))]) 0 0 := by
  refine ov_of (cc := cJ7_fill_fda19) (maxL := 5) (ret := none) (by decide +kernel) rfl (Nat.le_of_ble_eq_true rfl) ?_
  intro p e s m below meth c A ls hx hb hml hr hts hown hlocks hin hA hK hP hD hS hE hl
  have hl : lv_has ls 5 [(0, .ref a0), (1, .int (nI i)), (2, .int (nI j)), (3, .int v)] := hl
  refine lv_aload_n hx hb dJ7_fill_fda19_0 rfl (lv_at hl 0 rfl) ?_
  refine va_alen hx hb hK hP 0 0 rfl rfl (v := (nI n)) rfl dJ7_fill_fda19_1 ?_
  refine lv_iload_n hx hb dJ7_fill_fda19_2 rfl (lv_at hl 1 rfl) ?_
  refine lv_iload_n hx hb dJ7_fill_fda19_3 rfl (lv_at hl 2 rfl) ?_
  refine ov_callS hx hb hml hown hts (c_rangeCheck l e0 D k n i j (by omega) (by omega) (by omega)) (cwS 3 hts gJ7_fill_fda19_J7_rangeCheck_23922 rfl rfl rfl (by decide +kernel) ⟨Nat.le_of_ble_eq_true rfl, Nat.le_of_ble_eq_true rfl⟩) hK hP hD hS hA hE [] [0] rfl rfl (by decide) (by decide) (by decide) (wr := [(a0, .inl ((k 0), n, .inl f))]) (w2 := fun u => [(a0, .inl ((k 0), n, .inl f))]) (fun _ => rfl) hl.1 rfl (Nat.le_of_ble_eq_true rfl) rfl ⟨Nat.le_of_ble_eq_true rfl, Nat.le_of_ble_eq_true rfl⟩ dJ7_fill_fda19_4 (fun u H locs hq hP hD hS => ?_)
  have hP : va_P D vwCl [(a0, .inl ((k 0), n, .inl f))] H := hP
  have hD : va_D A [(a0, .inl ((k 0), n, .inl f))] := hD
  refine lv_iload_n hx hb dJ7_fill_fda19_7 rfl (lv_at hl 1 rfl) ?_
  refine lv_istore (lv' := [(4, .int (nI i)), (0, .ref a0), (1, .int (nI i)), (2, .int (nI j)), (3, .int v)]) hx hb dJ7_fill_fda19_8 hl (by decide) rfl (fun ls hl => ?_)
  have key : ∀ (n9 : Nat) (i9 : Nat) (f9 : Nat → Int32) (H : Heap) (locs : List Loc) (ls : Array Slot), i9 + n9 = j → va_P D vwCl [(a0, .inl ((k 0), n, .inl f9))] H → va_D A [(a0, .inl ((k 0), n, .inl f9))] → va_S A s.heap H locs → lv_has ls 5 [(4, .int (nI i9)), (0, .ref a0), (1, .int (nI i)), (2, .int (nI j)), (3, .int v)] → W p l e ({ frames := 1, cells := 0, slots := 0, locals := 22 } : Room) s m ([.ref a0, .int (nI i), .int (nI j), .int v] : List Value).toArray below meth c H locs 0 0 (MQ below (va_Qv (S := (Nat → Int32)) (fun (u : (Nat → Int32)) => True) (oB D (oTy k) A (fun u => [(a0, .inl ((k 0), n, .inl u))])) A) ([.ref a0, .int (nI i), .int (nI j), .int v] : List Value).toArray s 0 0 A) (F0 m 10 ls []) := by
    intro n9
    induction n9 with
    | zero =>
      intro i9 f9 H locs ls hi9 hP hD hS hl
      refine lv_iload hx hb dJ7_fill_fda19_10 (lv_at hl 0 rfl) ?_
      refine lv_iload_n hx hb dJ7_fill_fda19_12 rfl (lv_at hl 3 rfl) ?_
      refine lv_icmp_ge (tgt := 27) hx hb dJ7_fill_fda19_13 (by decide) (fun c_13 => ?_) (fun c_13 => absurd (o_le (by omega) (by omega)) c_13)
      exact ov_ret hx hb hr hlocks f9 (trivial) hK (hP.sub [0] rfl) (hD.sub [0] (by decide) rfl) hS (Nat.le_of_ble_eq_true rfl) (Nat.le_of_ble_eq_true rfl) dJ7_fill_fda19_27
    | succ n9 ih =>
      intro i9 f9 H locs ls hi9 hP hD hS hl
      refine lv_iload hx hb dJ7_fill_fda19_10 (lv_at hl 0 rfl) ?_
      refine lv_iload_n hx hb dJ7_fill_fda19_12 rfl (lv_at hl 3 rfl) ?_
      refine lv_icmp_ge (tgt := 27) hx hb dJ7_fill_fda19_13 (by decide) (fun c_13 => absurd c_13 (o_nle (by omega) (by omega))) (fun c_13 => ?_)
      refine lv_aload_n hx hb dJ7_fill_fda19_16 rfl (lv_at hl 1 rfl) ?_
      refine lv_iload hx hb dJ7_fill_fda19_17 (lv_at hl 0 rfl) ?_
      refine lv_iload_n hx hb dJ7_fill_fda19_19 rfl (lv_at hl 4 rfl) ?_
      refine va_iast hx hb hK hP hD hS 0 0 rfl rfl (vp_in_nI (by omega) (by omega)) dJ7_fill_fda19_20 (fun H locs hP hD hS => ?_)
      have hP : va_P D vwCl [(a0, .inl ((k 0), n, .inl (upd f9 (nI i9).toNatClampNeg v)))] H := hP
      have hD : va_D A [(a0, .inl ((k 0), n, .inl (upd f9 (nI i9).toNatClampNeg v)))] := hD
      refine lv_iinc (v := (nI (i9 + 1))) (lv' := [(4, .int (nI (i9 + 1))), (0, .ref a0), (1, .int (nI i)), (2, .int (nI j)), (3, .int v)]) hx hb dJ7_fill_fda19_21 hl (k := 0) rfl (nI_1 (i9)) (by decide) rfl (fun ls hl => ?_)
      refine lv_goto (tgt := 10) hx hb dJ7_fill_fda19_24 (by decide) ?_
      exact ih (i9 + 1) (upd f9 (nI i9).toNatClampNeg v) _ _ _ (by omega) hP hD hS hl
  exact key (j - i) i f _ _ _ (by omega) hP hD hS hl
theorem iw_X9_set_X9 : ∀ w ∈ wsX90, w ∈ wsX9_set := by decide +kernel
set_option maxHeartbeats 4000000 in
set_option maxRecDepth 100000 in
/-- Table.set: what the row holds is left open -/
theorem c_Table_set (l : Launch) (e0 : Nat) (D : va_G) (k : Nat → ClassId) (h0 : Nat) (q1 : Nat) (n : Nat) (cv : Int32) (L : Int32) (i : Int32) (j : Int32) (v : Int32) (f : Nat → Int32) (hn : n < 2147483648) : oCv l e0 D (oTy k) yX9_set wsX9_set ({ frames := 0, cells := 0, slots := 0, locals := 0 } : Room) [.ref h0, .int i, .int j, .int v] [(h0, .inr (13, [.int cv, .ref q1, .int L])), (q1, .inl ((k 0), n, .inl f))] (S := (Nat → Int32)) (fun (u : (Nat → Int32)) => True) (fun u => [(h0, .inr (13, [.int cv, .ref q1, .int L])), (q1, .inl ((k 0), n, .inl u))]) 0 0 := by
  refine ov_of (cc := cX9_set) (maxL := 6) (ret := none) (by decide +kernel) rfl (Nat.le_of_ble_eq_true rfl) ?_
  intro p e s m below meth c A ls hx hb hml hr hts hown hlocks hin hA hK hP hD hS hE hl
  have hl : lv_has ls 6 [(0, .ref h0), (1, .int i), (2, .int j), (3, .int v)] := hl
  refine lv_iload_n hx hb dX9_set_0 rfl (lv_at hl 1 rfl) ?_
  refine lv_aload_n hx hb dX9_set_1 rfl (lv_at hl 0 rfl) ?_
  refine va_get (D := D) (ci := 13) (v := .int cv) (C := RX9) (T := TX9) (N := 3) hx hb hts iw_X9_set_X9 hown hK hP 0 rfl rfl 0 (by decide) (hts (.fieldLink RX9 9 "ModedMill$Table" "columns" "I") (by decide +kernel)) (fun _ h9 => h9) rfl dX9_set_2 ?_
  refine lv_imul hx hb dX9_set_5 ?_
  refine lv_iload_n hx hb dX9_set_6 rfl (lv_at hl 2 rfl) ?_
  refine lv_iadd hx hb dX9_set_7 ?_
  refine lv_istore (lv' := [(4, .int ((i * cv) + j)), (0, .ref h0), (1, .int i), (2, .int j), (3, .int v)]) hx hb dX9_set_8 hl (by decide) rfl (fun ls hl => ?_)
  refine lv_iload_n hx hb dX9_set_10 rfl (lv_at hl 2 rfl) ?_
  refine lv_if_lt (tgt := 38) hx hb dX9_set_11 (by decide) (fun c_11 => ?_) (fun c_11 => ?_)
  · skip
    refine lv_iconst (v := 0) hx hb dX9_set_38 (by decide) ?_
    refine lv_istore (lv' := [(5, .int 0), (4, .int ((i * cv) + j)), (0, .ref h0), (1, .int i), (2, .int j), (3, .int v)]) hx hb dX9_set_39 hl (by decide) rfl (fun ls hl => ?_)
    refine lv_iload hx hb dX9_set_41 (lv_at hl 0 rfl) ?_
    refine lv_if_eq (tgt := 69) hx hb dX9_set_43 (by decide) (fun c_43 => ?_) (fun c_43 => absurd c_43 (by decide))
    exact ov_ret hx hb hr hlocks f (trivial) hK (hP.sub [0, 1] rfl) (hD.sub [0, 1] (by decide) rfl) hS (Nat.le_of_ble_eq_true rfl) (Nat.le_of_ble_eq_true rfl) dX9_set_69
  · skip
    refine lv_iload_n hx hb dX9_set_14 rfl (lv_at hl 2 rfl) ?_
    refine lv_aload_n hx hb dX9_set_15 rfl (lv_at hl 1 rfl) ?_
    refine va_get (D := D) (ci := 13) (v := .int L) (C := RX9) (T := TX9) (N := 3) hx hb hts iw_X9_set_X9 hown hK hP 0 rfl rfl 2 (by decide) (hts (.fieldLink RX9 20 "ModedMill$Table" "lines" "I") (by decide +kernel)) (fun _ h9 => h9) rfl dX9_set_16 ?_
    refine lv_icmp_ge (tgt := 38) hx hb dX9_set_19 (by decide) (fun c_19 => ?_) (fun c_19 => ?_)
    · skip
      refine lv_iconst (v := 0) hx hb dX9_set_38 (by decide) ?_
      refine lv_istore (lv' := [(5, .int 0), (4, .int ((i * cv) + j)), (0, .ref h0), (1, .int i), (2, .int j), (3, .int v)]) hx hb dX9_set_39 hl (by decide) rfl (fun ls hl => ?_)
      refine lv_iload hx hb dX9_set_41 (lv_at hl 0 rfl) ?_
      refine lv_if_eq (tgt := 69) hx hb dX9_set_43 (by decide) (fun c_43 => ?_) (fun c_43 => absurd c_43 (by decide))
      exact ov_ret hx hb hr hlocks f (trivial) hK (hP.sub [0, 1] rfl) (hD.sub [0, 1] (by decide) rfl) hS (Nat.le_of_ble_eq_true rfl) (Nat.le_of_ble_eq_true rfl) dX9_set_69
    · skip
      refine lv_iload_n hx hb dX9_set_22 rfl (lv_at hl 3 rfl) ?_
      refine lv_if_lt (tgt := 38) hx hb dX9_set_23 (by decide) (fun c_23 => ?_) (fun c_23 => ?_)
      · skip
        refine lv_iconst (v := 0) hx hb dX9_set_38 (by decide) ?_
        refine lv_istore (lv' := [(5, .int 0), (4, .int ((i * cv) + j)), (0, .ref h0), (1, .int i), (2, .int j), (3, .int v)]) hx hb dX9_set_39 hl (by decide) rfl (fun ls hl => ?_)
        refine lv_iload hx hb dX9_set_41 (lv_at hl 0 rfl) ?_
        refine lv_if_eq (tgt := 69) hx hb dX9_set_43 (by decide) (fun c_43 => ?_) (fun c_43 => absurd c_43 (by decide))
        exact ov_ret hx hb hr hlocks f (trivial) hK (hP.sub [0, 1] rfl) (hD.sub [0, 1] (by decide) rfl) hS (Nat.le_of_ble_eq_true rfl) (Nat.le_of_ble_eq_true rfl) dX9_set_69
      · skip
        refine lv_iload_n hx hb dX9_set_26 rfl (lv_at hl 3 rfl) ?_
        refine lv_aload_n hx hb dX9_set_27 rfl (lv_at hl 1 rfl) ?_
        refine va_get (D := D) (ci := 13) (v := .int cv) (C := RX9) (T := TX9) (N := 3) hx hb hts iw_X9_set_X9 hown hK hP 0 rfl rfl 0 (by decide) (hts (.fieldLink RX9 9 "ModedMill$Table" "columns" "I") (by decide +kernel)) (fun _ h9 => h9) rfl dX9_set_28 ?_
        refine lv_icmp_ge (tgt := 38) hx hb dX9_set_31 (by decide) (fun c_31 => ?_) (fun c_31 => ?_)
        · skip
          refine lv_iconst (v := 0) hx hb dX9_set_38 (by decide) ?_
          refine lv_istore (lv' := [(5, .int 0), (4, .int ((i * cv) + j)), (0, .ref h0), (1, .int i), (2, .int j), (3, .int v)]) hx hb dX9_set_39 hl (by decide) rfl (fun ls hl => ?_)
          refine lv_iload hx hb dX9_set_41 (lv_at hl 0 rfl) ?_
          refine lv_if_eq (tgt := 69) hx hb dX9_set_43 (by decide) (fun c_43 => ?_) (fun c_43 => absurd c_43 (by decide))
          exact ov_ret hx hb hr hlocks f (trivial) hK (hP.sub [0, 1] rfl) (hD.sub [0, 1] (by decide) rfl) hS (Nat.le_of_ble_eq_true rfl) (Nat.le_of_ble_eq_true rfl) dX9_set_69
        · skip
          refine lv_iconst (v := 1) hx hb dX9_set_34 (by decide) ?_
          refine lv_goto (tgt := 39) hx hb dX9_set_35 (by decide) ?_
          refine lv_istore (lv' := [(5, .int 1), (4, .int ((i * cv) + j)), (0, .ref h0), (1, .int i), (2, .int j), (3, .int v)]) hx hb dX9_set_39 hl (by decide) rfl (fun ls hl => ?_)
          refine lv_iload hx hb dX9_set_41 (lv_at hl 0 rfl) ?_
          refine lv_if_eq (tgt := 69) hx hb dX9_set_43 (by decide) (fun c_43 => absurd c_43 (by decide)) (fun c_43 => ?_)
          refine lv_iload hx hb dX9_set_46 (lv_at hl 1 rfl) ?_
          refine lv_if_lt (tgt := 69) hx hb dX9_set_48 (by decide) (fun c_48 => ?_) (fun c_48 => ?_)
          · skip
            exact ov_ret hx hb hr hlocks f (trivial) hK (hP.sub [0, 1] rfl) (hD.sub [0, 1] (by decide) rfl) hS (Nat.le_of_ble_eq_true rfl) (Nat.le_of_ble_eq_true rfl) dX9_set_69
          · skip
            refine lv_iload hx hb dX9_set_51 (lv_at hl 1 rfl) ?_
            refine lv_aload_n hx hb dX9_set_53 rfl (lv_at hl 2 rfl) ?_
            refine va_get (D := D) (ci := 13) (v := .ref q1) (C := RX9) (T := TX9) (N := 3) hx hb hts iw_X9_set_X9 hown hK hP 0 rfl rfl 1 (by decide) (hts (.fieldLink RX9 16 "ModedMill$Table" "cells" "[I") (by decide +kernel)) (fun _ h9 => h9) rfl dX9_set_54 ?_
            refine va_alen hx hb hK hP 1 0 rfl rfl (v := (nI n)) rfl dX9_set_57 ?_
            refine lv_icmp_ge (tgt := 69) hx hb dX9_set_58 (by decide) (fun c_58 => ?_) (fun c_58 => ?_)
            · skip
              exact ov_ret hx hb hr hlocks f (trivial) hK (hP.sub [0, 1] rfl) (hD.sub [0, 1] (by decide) rfl) hS (Nat.le_of_ble_eq_true rfl) (Nat.le_of_ble_eq_true rfl) dX9_set_69
            · skip
              refine lv_aload_n hx hb dX9_set_61 rfl (lv_at hl 2 rfl) ?_
              refine va_get (D := D) (ci := 13) (v := .ref q1) (C := RX9) (T := TX9) (N := 3) hx hb hts iw_X9_set_X9 hown hK hP 0 rfl rfl 1 (by decide) (hts (.fieldLink RX9 16 "ModedMill$Table" "cells" "[I") (by decide +kernel)) (fun _ h9 => h9) rfl dX9_set_62 ?_
              refine lv_iload hx hb dX9_set_65 (lv_at hl 1 rfl) ?_
              refine lv_iload_n hx hb dX9_set_67 rfl (lv_at hl 5 rfl) ?_
              refine va_iast hx hb hK hP hD hS 1 0 rfl rfl (o_in hn c_48 c_58) dX9_set_68 (fun H locs hP hD hS => ?_)
              have hP : va_P D vwCl [(h0, .inr (13, [.int cv, .ref q1, .int L])), (q1, .inl ((k 0), n, .inl (upd f ((i * cv) + j).toNatClampNeg v)))] H := hP
              have hD : va_D A [(h0, .inr (13, [.int cv, .ref q1, .int L])), (q1, .inl ((k 0), n, .inl (upd f ((i * cv) + j).toNatClampNeg v)))] := hD
              exact ov_ret hx hb hr hlocks ((upd f ((i * cv) + j).toNatClampNeg v)) (trivial) hK (hP.sub [0, 1] rfl) (hD.sub [0, 1] (by decide) rfl) hS (Nat.le_of_ble_eq_true rfl) (Nat.le_of_ble_eq_true rfl) dX9_set_69
theorem iw_X9_add_X9 : ∀ w ∈ wsX90, w ∈ wsX9_add := by decide +kernel
set_option maxHeartbeats 4000000 in
set_option maxRecDepth 100000 in
/-- Table.add where the room suffices -/
theorem c_Table_add (l : Launch) (e0 : Nat) (D : va_G) (k : Nat → ClassId) (h0 : Nat) (q1 : Nat) (n : Nat) (cc : Nat) (L : Nat) (x : Int32) (y : Int32) (z : Int32) (f : Nat → Int32) (hn : n < 1000000) (hL : L * cc + cc ≤ n) (hL2 : L < 1000000) : oCi l e0 D (oTy k) yX9_add wsX9_add ({ frames := 2, cells := 0, slots := 0, locals := 46 } : Room) [.ref h0, .int x, .int y, .int z] [(h0, .inr (13, [.int (nI cc), .ref q1, .int (nI L)])), (q1, .inl ((k 0), n, .inl f))] (S := (Nat → Int32)) (fun (r : Int32) (u : (Nat → Int32)) => r = (nI L)) (fun u => [(h0, .inr (13, [.int (nI cc), .ref q1, .int (nI (L + 1))])), (q1, .inl ((k 0), n, .inl u))]) 0 0 := by
  refine oi_of (cc := cX9_add) (maxL := 6) (ret := (some .int)) (by decide +kernel) rfl (Nat.le_of_ble_eq_true rfl) ?_
  intro p e s m below meth c A ls hx hb hml hr hts hown hlocks hin hA hK hP hD hS hE hl
  have hl : lv_has ls 6 [(0, .ref h0), (1, .int x), (2, .int y), (3, .int z)] := hl
  refine lv_aload_n hx hb dX9_add_0 rfl (lv_at hl 0 rfl) ?_
  refine va_get (D := D) (ci := 13) (v := .int (nI L)) (C := RX9) (T := TX9) (N := 3) hx hb hts iw_X9_add_X9 hown hK hP 0 rfl rfl 2 (by decide) (hts (.fieldLink RX9 20 "ModedMill$Table" "lines" "I") (by decide +kernel)) (fun _ h9 => h9) rfl dX9_add_1 ?_
  refine lv_aload_n hx hb dX9_add_4 rfl (lv_at hl 0 rfl) ?_
  refine va_get (D := D) (ci := 13) (v := .int (nI cc)) (C := RX9) (T := TX9) (N := 3) hx hb hts iw_X9_add_X9 hown hK hP 0 rfl rfl 0 (by decide) (hts (.fieldLink RX9 9 "ModedMill$Table" "columns" "I") (by decide +kernel)) (fun _ h9 => h9) rfl dX9_add_5 ?_
  refine lv_imul hx hb dX9_add_8 ?_
  refine o_top (v := (nI (L * cc))) (pk_mul L cc) ?_
  refine lv_istore (lv' := [(4, .int (nI (L * cc))), (0, .ref h0), (1, .int x), (2, .int y), (3, .int z)]) hx hb dX9_add_9 hl (by decide) rfl (fun ls hl => ?_)
  refine lv_iload hx hb dX9_add_11 (lv_at hl 0 rfl) ?_
  refine lv_aload_n hx hb dX9_add_13 rfl (lv_at hl 1 rfl) ?_
  refine va_get (D := D) (ci := 13) (v := .int (nI cc)) (C := RX9) (T := TX9) (N := 3) hx hb hts iw_X9_add_X9 hown hK hP 0 rfl rfl 0 (by decide) (hts (.fieldLink RX9 9 "ModedMill$Table" "columns" "I") (by decide +kernel)) (fun _ h9 => h9) rfl dX9_add_14 ?_
  refine lv_iadd hx hb dX9_add_17 ?_
  refine o_top (v := (nI (L * cc + cc))) (nI_add (L * cc) cc) ?_
  refine lv_istore (lv' := [(5, .int (nI (L * cc + cc))), (4, .int (nI (L * cc))), (0, .ref h0), (1, .int x), (2, .int y), (3, .int z)]) hx hb dX9_add_18 hl (by decide) rfl (fun ls hl => ?_)
  refine lv_iload hx hb dX9_add_20 (lv_at hl 0 rfl) ?_
  refine lv_aload_n hx hb dX9_add_22 rfl (lv_at hl 2 rfl) ?_
  refine va_get (D := D) (ci := 13) (v := .ref q1) (C := RX9) (T := TX9) (N := 3) hx hb hts iw_X9_add_X9 hown hK hP 0 rfl rfl 1 (by decide) (hts (.fieldLink RX9 16 "ModedMill$Table" "cells" "[I") (by decide +kernel)) (fun _ h9 => h9) rfl dX9_add_23 ?_
  refine va_alen hx hb hK hP 1 0 rfl rfl (v := (nI n)) rfl dX9_add_26 ?_
  refine lv_icmp_le (tgt := 52) hx hb dX9_add_27 (by decide) (fun c_27 => ?_) (fun c_27 => absurd (o_le (by omega) (by omega)) c_27)
  refine lv_iload hx hb dX9_add_52 (lv_at hl 1 rfl) ?_
  refine lv_if_lt (tgt := 67) hx hb dX9_add_54 (by decide) (fun c_54 => absurd c_54 (nI_pos (by omega))) (fun c_54 => ?_)
  refine lv_iload hx hb dX9_add_57 (lv_at hl 0 rfl) ?_
  refine lv_aload_n hx hb dX9_add_59 rfl (lv_at hl 2 rfl) ?_
  refine va_get (D := D) (ci := 13) (v := .ref q1) (C := RX9) (T := TX9) (N := 3) hx hb hts iw_X9_add_X9 hown hK hP 0 rfl rfl 1 (by decide) (hts (.fieldLink RX9 16 "ModedMill$Table" "cells" "[I") (by decide +kernel)) (fun _ h9 => h9) rfl dX9_add_60 ?_
  refine va_alen hx hb hK hP 1 0 rfl rfl (v := (nI n)) rfl dX9_add_63 ?_
  refine lv_icmp_le (tgt := 69) hx hb dX9_add_64 (by decide) (fun c_64 => ?_) (fun c_64 => absurd (o_le (by omega) (by omega)) c_64)
  refine lv_aload_n hx hb dX9_add_69 rfl (lv_at hl 2 rfl) ?_
  refine va_get (D := D) (ci := 13) (v := .ref q1) (C := RX9) (T := TX9) (N := 3) hx hb hts iw_X9_add_X9 hown hK hP 0 rfl rfl 1 (by decide) (hts (.fieldLink RX9 16 "ModedMill$Table" "cells" "[I") (by decide +kernel)) (fun _ h9 => h9) rfl dX9_add_70 ?_
  refine lv_iload hx hb dX9_add_73 (lv_at hl 1 rfl) ?_
  refine lv_iload hx hb dX9_add_75 (lv_at hl 0 rfl) ?_
  refine lv_iconst (v := (-1)) hx hb dX9_add_77 (by decide) ?_
  refine ov_callS hx hb hml hown hts (c_fill l e0 D k q1 n ((L * cc)) ((L * cc + cc)) ((-1)) f (by omega) (by omega) (by omega)) (va_cwS 4 hts gX9_add_J7_fill_fda19 rfl rfl rfl (by decide +kernel) ⟨Nat.le_of_ble_eq_true rfl, Nat.le_of_ble_eq_true rfl⟩) hK hP hD hS hA hE [1] [0] rfl rfl (by decide) (by decide) (by decide) (wr := [(h0, .inr (13, [.int (nI cc), .ref q1, .int (nI L)]))]) (w2 := fun u => [(h0, .inr (13, [.int (nI cc), .ref q1, .int (nI L)])), (q1, .inl ((k 0), n, .inl u))]) (fun _ => rfl) hl.1 rfl (Nat.le_of_ble_eq_true rfl) rfl ⟨Nat.le_of_ble_eq_true rfl, Nat.le_of_ble_eq_true rfl⟩ dX9_add_78 (fun u H locs hq hP hD hS => ?_)
  obtain ⟨f1_78, hu9⟩ : ∃ z, z = u := ⟨_, rfl⟩; subst hu9
  have hP : va_P D vwCl [(h0, .inr (13, [.int (nI cc), .ref q1, .int (nI L)])), (q1, .inl ((k 0), n, .inl f1_78))] H := hP
  have hD : va_D A [(h0, .inr (13, [.int (nI cc), .ref q1, .int (nI L)])), (q1, .inl ((k 0), n, .inl f1_78))] := hD
  refine lv_aload_n hx hb dX9_add_81 rfl (lv_at hl 2 rfl) ?_
  refine lv_dup hx hb dX9_add_82 rfl ?_
  refine va_get (D := D) (ci := 13) (v := .int (nI L)) (C := RX9) (T := TX9) (N := 3) hx hb hts iw_X9_add_X9 hown hK hP 0 rfl rfl 2 (by decide) (hts (.fieldLink RX9 20 "ModedMill$Table" "lines" "I") (by decide +kernel)) (fun _ h9 => h9) rfl dX9_add_83 ?_
  refine lv_iconst (v := 1) hx hb dX9_add_86 (by decide) ?_
  refine lv_iadd hx hb dX9_add_87 ?_
  refine o_top (v := (nI (L + 1))) (nI_1 L) ?_
  refine va_put (D := D) (ci := 13) (v := .int (nI (L + 1))) (ty := .int) (C := RX9) (T := TX9) (N := 3) hx hb hts iw_X9_add_X9 tyX9 tyX9_ok nmX9 hown hK hP hD hS 0 rfl rfl 2 (by decide) (hts (.fieldLink RX9 20 "ModedMill$Table" "lines" "I") (by decide +kernel)) (fun _ h9 => h9) rfl (by decide +kernel) rfl rfl (Nat.le_of_ble_eq_true rfl) dX9_add_88 (fun H locs hP hD hS => ?_)
  have hP : va_P D vwCl [(h0, .inr (13, [.int (nI cc), .ref q1, .int (nI (L + 1))])), (q1, .inl ((k 0), n, .inl f1_78))] H := hP
  have hD : va_D A [(h0, .inr (13, [.int (nI cc), .ref q1, .int (nI (L + 1))])), (q1, .inl ((k 0), n, .inl f1_78))] := hD
  refine lv_aload_n hx hb dX9_add_91 rfl (lv_at hl 2 rfl) ?_
  refine lv_aload_n hx hb dX9_add_92 rfl (lv_at hl 2 rfl) ?_
  refine va_get (D := D) (ci := 13) (v := .int (nI (L + 1))) (C := RX9) (T := TX9) (N := 3) hx hb hts iw_X9_add_X9 hown hK hP 0 rfl rfl 2 (by decide) (hts (.fieldLink RX9 20 "ModedMill$Table" "lines" "I") (by decide +kernel)) (fun _ h9 => h9) rfl dX9_add_93 ?_
  refine lv_iconst (v := 1) hx hb dX9_add_96 (by decide) ?_
  refine lv_isub hx hb dX9_add_97 ?_
  refine o_top (v := (nI L)) (nI_pred L) ?_
  refine lv_iconst (v := 0) hx hb dX9_add_98 (by decide) ?_
  refine lv_iload_n hx hb dX9_add_99 rfl (lv_at hl 3 rfl) ?_
  refine ov_callV hx hb hml hown hts (c_Table_set l e0 D k h0 q1 n ((nI cc)) ((nI (L + 1))) ((nI L)) 0 x f1_78 (by omega)) (cwV 3 hts gX9_add_X9_set rfl rfl rfl (by decide +kernel) ⟨Nat.le_of_ble_eq_true rfl, Nat.le_of_ble_eq_true rfl⟩) hK hP hD hS hA hE [0, 1] [] rfl rfl (by decide) (by decide) (by decide) (wr := []) (w2 := fun u => [(h0, .inr (13, [.int (nI cc), .ref q1, .int (nI (L + 1))])), (q1, .inl ((k 0), n, .inl u))]) (fun _ => rfl) 0 13 rfl rfl rfl hl.1 rfl (Nat.le_of_ble_eq_true rfl) rfl ⟨Nat.le_of_ble_eq_true rfl, Nat.le_of_ble_eq_true rfl⟩ dX9_add_100 (fun u H locs hq hP hD hS => ?_)
  obtain ⟨f1_100, hu9⟩ : ∃ z, z = u := ⟨_, rfl⟩; subst hu9
  have hP : va_P D vwCl [(h0, .inr (13, [.int (nI cc), .ref q1, .int (nI (L + 1))])), (q1, .inl ((k 0), n, .inl f1_100))] H := hP
  have hD : va_D A [(h0, .inr (13, [.int (nI cc), .ref q1, .int (nI (L + 1))])), (q1, .inl ((k 0), n, .inl f1_100))] := hD
  refine lv_aload_n hx hb dX9_add_103 rfl (lv_at hl 2 rfl) ?_
  refine lv_aload_n hx hb dX9_add_104 rfl (lv_at hl 2 rfl) ?_
  refine va_get (D := D) (ci := 13) (v := .int (nI (L + 1))) (C := RX9) (T := TX9) (N := 3) hx hb hts iw_X9_add_X9 hown hK hP 0 rfl rfl 2 (by decide) (hts (.fieldLink RX9 20 "ModedMill$Table" "lines" "I") (by decide +kernel)) (fun _ h9 => h9) rfl dX9_add_105 ?_
  refine lv_iconst (v := 1) hx hb dX9_add_108 (by decide) ?_
  refine lv_isub hx hb dX9_add_109 ?_
  refine o_top (v := (nI L)) (nI_pred L) ?_
  refine lv_iconst (v := 1) hx hb dX9_add_110 (by decide) ?_
  refine lv_iload_n hx hb dX9_add_111 rfl (lv_at hl 4 rfl) ?_
  refine ov_callV hx hb hml hown hts (c_Table_set l e0 D k h0 q1 n ((nI cc)) ((nI (L + 1))) ((nI L)) 1 y f1_100 (by omega)) (cwV 3 hts gX9_add_X9_set rfl rfl rfl (by decide +kernel) ⟨Nat.le_of_ble_eq_true rfl, Nat.le_of_ble_eq_true rfl⟩) hK hP hD hS hA hE [0, 1] [] rfl rfl (by decide) (by decide) (by decide) (wr := []) (w2 := fun u => [(h0, .inr (13, [.int (nI cc), .ref q1, .int (nI (L + 1))])), (q1, .inl ((k 0), n, .inl u))]) (fun _ => rfl) 0 13 rfl rfl rfl hl.1 rfl (Nat.le_of_ble_eq_true rfl) rfl ⟨Nat.le_of_ble_eq_true rfl, Nat.le_of_ble_eq_true rfl⟩ dX9_add_112 (fun u H locs hq hP hD hS => ?_)
  obtain ⟨f1_112, hu9⟩ : ∃ z, z = u := ⟨_, rfl⟩; subst hu9
  have hP : va_P D vwCl [(h0, .inr (13, [.int (nI cc), .ref q1, .int (nI (L + 1))])), (q1, .inl ((k 0), n, .inl f1_112))] H := hP
  have hD : va_D A [(h0, .inr (13, [.int (nI cc), .ref q1, .int (nI (L + 1))])), (q1, .inl ((k 0), n, .inl f1_112))] := hD
  refine lv_aload_n hx hb dX9_add_115 rfl (lv_at hl 2 rfl) ?_
  refine lv_aload_n hx hb dX9_add_116 rfl (lv_at hl 2 rfl) ?_
  refine va_get (D := D) (ci := 13) (v := .int (nI (L + 1))) (C := RX9) (T := TX9) (N := 3) hx hb hts iw_X9_add_X9 hown hK hP 0 rfl rfl 2 (by decide) (hts (.fieldLink RX9 20 "ModedMill$Table" "lines" "I") (by decide +kernel)) (fun _ h9 => h9) rfl dX9_add_117 ?_
  refine lv_iconst (v := 1) hx hb dX9_add_120 (by decide) ?_
  refine lv_isub hx hb dX9_add_121 ?_
  refine o_top (v := (nI L)) (nI_pred L) ?_
  refine lv_iconst (v := 2) hx hb dX9_add_122 (by decide) ?_
  refine lv_iload_n hx hb dX9_add_123 rfl (lv_at hl 5 rfl) ?_
  refine ov_callV hx hb hml hown hts (c_Table_set l e0 D k h0 q1 n ((nI cc)) ((nI (L + 1))) ((nI L)) 2 z f1_112 (by omega)) (cwV 3 hts gX9_add_X9_set rfl rfl rfl (by decide +kernel) ⟨Nat.le_of_ble_eq_true rfl, Nat.le_of_ble_eq_true rfl⟩) hK hP hD hS hA hE [0, 1] [] rfl rfl (by decide) (by decide) (by decide) (wr := []) (w2 := fun u => [(h0, .inr (13, [.int (nI cc), .ref q1, .int (nI (L + 1))])), (q1, .inl ((k 0), n, .inl u))]) (fun _ => rfl) 0 13 rfl rfl rfl hl.1 rfl (Nat.le_of_ble_eq_true rfl) rfl ⟨Nat.le_of_ble_eq_true rfl, Nat.le_of_ble_eq_true rfl⟩ dX9_add_124 (fun u H locs hq hP hD hS => ?_)
  obtain ⟨f1_124, hu9⟩ : ∃ z, z = u := ⟨_, rfl⟩; subst hu9
  have hP : va_P D vwCl [(h0, .inr (13, [.int (nI cc), .ref q1, .int (nI (L + 1))])), (q1, .inl ((k 0), n, .inl f1_124))] H := hP
  have hD : va_D A [(h0, .inr (13, [.int (nI cc), .ref q1, .int (nI (L + 1))])), (q1, .inl ((k 0), n, .inl f1_124))] := hD
  refine lv_aload_n hx hb dX9_add_127 rfl (lv_at hl 2 rfl) ?_
  refine va_get (D := D) (ci := 13) (v := .int (nI (L + 1))) (C := RX9) (T := TX9) (N := 3) hx hb hts iw_X9_add_X9 hown hK hP 0 rfl rfl 2 (by decide) (hts (.fieldLink RX9 20 "ModedMill$Table" "lines" "I") (by decide +kernel)) (fun _ h9 => h9) rfl dX9_add_128 ?_
  refine lv_iconst (v := 1) hx hb dX9_add_131 (by decide) ?_
  refine lv_isub hx hb dX9_add_132 ?_
  refine o_top (v := (nI L)) (nI_pred L) ?_
  exact oi_ret hx hb hr hlocks rfl f1_124 (rfl) hK (hP.sub [0, 1] rfl) (hD.sub [0, 1] (by decide) rfl) hS (Nat.le_of_ble_eq_true rfl) (Nat.le_of_ble_eq_true rfl) dX9_add_133
end
section
set_option maxHeartbeats 4000000 in
set_option maxRecDepth 100000 in
theorem c_ACol_init (l : Launch) (e0 : Nat) (D : va_G) (k : Nat → ClassId) (h0 : Nat) : oCv l e0 D (oTy k) yJxa1e45_init_da8c8 wsJxa1e45_init_da8c8 ({ frames := 1, cells := 0, slots := 0, locals := 20 } : Room) [.ref h0] [(h0, .inr (3, [.int 0, .null, .int 0]))] (S := Unit) (fun (u : Unit) => True) (fun u => [(h0, .inr (3, [.int 0, .null, .int 0]))]) 0 0 := by
  refine ov_of (cc := cJxa1e45_init_da8c8) (maxL := 1) (ret := none) (by decide +kernel) rfl (Nat.le_of_ble_eq_true rfl) ?_
  intro p e s m below meth c A ls hx hb hml hr hts hown hlocks hin hA hK hP hD hS hE hl
  have hl : lv_has ls 1 [(0, .ref h0)] := hl
  refine lv_aload_n hx hb dJxa1e45_init_da8c8_0 rfl (lv_at hl 0 rfl) ?_
  refine W.objInit hx hb hown (hts (.methodLink RJxa1e45 1 objectInit) (by decide +kernel)) (hts (.instanceMethod objectInit) (by decide +kernel)) (hts (.code objectInit ⟨#[0xb1]⟩ 1 none) (by decide +kernel)) rfl (by rw [hml]; exact hl.1) rfl dJxa1e45_init_da8c8_1 (Nat.le_of_ble_eq_true rfl) (Nat.le_of_ble_eq_true rfl) ?_
  refine W.eq (g2 := F0 m 4 ls []) rfl ?_
  exact ov_ret hx hb hr hlocks () (trivial) hK (hP.sub [0] rfl) (hD.sub [0] (by decide) rfl) hS (Nat.le_of_ble_eq_true rfl) (Nat.le_of_ble_eq_true rfl) dJxa1e45_init_da8c8_4
theorem iw_Jxc12de_init_da8c8_Jx4a65c : ∀ w ∈ wsJx4a65c0, w ∈ wsJxc12de_init_da8c8 := by decide +kernel
set_option maxHeartbeats 4000000 in
set_option maxRecDepth 100000 in
theorem c_AList_init (l : Launch) (e0 : Nat) (D : va_G) (k : Nat → ClassId) (h0 : Nat) : oCv l e0 D (oTy k) yJxc12de_init_da8c8 wsJxc12de_init_da8c8 ({ frames := 2, cells := 0, slots := 0, locals := 40 } : Room) [.ref h0] [(h0, .inr (3, [.int 0, .null, .int 0]))] (S := Unit) (fun (u : Unit) => True) (fun u => [(h0, .inr (3, [.int 0, .null, .int 0]))]) 0 0 := by
  refine ov_of (cc := cJxc12de_init_da8c8) (maxL := 1) (ret := none) (by decide +kernel) rfl (Nat.le_of_ble_eq_true rfl) ?_
  intro p e s m below meth c A ls hx hb hml hr hts hown hlocks hin hA hK hP hD hS hE hl
  have hl : lv_has ls 1 [(0, .ref h0)] := hl
  refine lv_aload_n hx hb dJxc12de_init_da8c8_0 rfl (lv_at hl 0 rfl) ?_
  refine ov_callI hx hb hml hown hts (c_ACol_init l e0 D k h0) (cwI 0 hts gJxc12de_init_da8c8_Jxa1e45_init_da8c8 rfl rfl rfl (hts (.initialized RJxa1e45) (by decide +kernel)) (hts (.methodLink RJxc12de 1 yJxa1e45_init_da8c8) (by decide +kernel)) (hts (.instanceMethod yJxa1e45_init_da8c8) (by decide +kernel)) rfl (by decide +kernel) ⟨Nat.le_of_ble_eq_true rfl, Nat.le_of_ble_eq_true rfl⟩) hK hP hD hS hA hE [0] [] rfl rfl (by decide) (by decide) (by decide) (wr := []) (w2 := fun u => [(h0, .inr (3, [.int 0, .null, .int 0]))]) (fun _ => rfl) hl.1 rfl (Nat.le_of_ble_eq_true rfl) rfl ⟨Nat.le_of_ble_eq_true rfl, Nat.le_of_ble_eq_true rfl⟩ dJxc12de_init_da8c8_1 (fun u H locs hq hP hD hS => ?_)
  have hP : va_P D vwCl [(h0, .inr (3, [.int 0, .null, .int 0]))] H := hP
  have hD : va_D A [(h0, .inr (3, [.int 0, .null, .int 0]))] := hD
  refine lv_aload_n hx hb dJxc12de_init_da8c8_4 rfl (lv_at hl 0 rfl) ?_
  refine lv_iconst (v := 0) hx hb dJxc12de_init_da8c8_5 (by decide) ?_
  refine va_put (D := D) (ci := 3) (v := .int 0) (ty := .int) (C := RJx4a65c) (T := TJx4a65c) (N := 3) hx hb hts iw_Jxc12de_init_da8c8_Jx4a65c tyJx4a65c tyJx4a65c_ok nmJx4a65c hown hK hP hD hS 0 rfl rfl 0 (by decide) (hts (.fieldLink RJxc12de 7 "java/util/AbstractList" "modCount" "I") (by decide +kernel)) (fun _ h9 => h9) rfl (by decide +kernel) rfl rfl (Nat.le_of_ble_eq_true rfl) dJxc12de_init_da8c8_6 (fun H locs hP hD hS => ?_)
  have hP : va_P D vwCl [(h0, .inr (3, [.int 0, .null, .int 0]))] H := hP
  have hD : va_D A [(h0, .inr (3, [.int 0, .null, .int 0]))] := hD
  exact ov_ret hx hb hr hlocks () (trivial) hK (hP.sub [0] rfl) (hD.sub [0] (by decide) rfl) hS (Nat.le_of_ble_eq_true rfl) (Nat.le_of_ble_eq_true rfl) dJxc12de_init_da8c8_9
theorem iw_Jx4a65c_init_da8c8_Jx4a65c : ∀ w ∈ wsJx4a65c0, w ∈ wsJx4a65c_init_da8c8 := by decide +kernel
set_option maxHeartbeats 4000000 in
set_option maxRecDepth 100000 in
/-- ArrayList() -/
theorem c_List_init (l : Launch) (e0 : Nat) (D : va_G) (k : Nat → ClassId) (h0 : Nat) : oCv l e0 D (oTy k) yJx4a65c_init_da8c8 wsJx4a65c_init_da8c8 ({ frames := 3, cells := 0, slots := 0, locals := 60 } : Room) [.ref h0] [(h0, .inr (3, [.int 0, .null, .int 0]))] (S := Unit) (fun (u : Unit) => True) (fun u => [(h0, .inr (3, [.int 0, .ref e0, .int 0]))]) 0 0 := by
  refine ov_of (cc := cJx4a65c_init_da8c8) (maxL := 1) (ret := none) (by decide +kernel) rfl (Nat.le_of_ble_eq_true rfl) ?_
  intro p e s m below meth c A ls hx hb hml hr hts hown hlocks hin hA hK hP hD hS hE hl
  have hl : lv_has ls 1 [(0, .ref h0)] := hl
  refine lv_aload_n hx hb dJx4a65c_init_da8c8_0 rfl (lv_at hl 0 rfl) ?_
  refine ov_callI hx hb hml hown hts (c_AList_init l e0 D k h0) (cwI 0 hts gJx4a65c_init_da8c8_Jxc12de_init_da8c8 rfl rfl rfl (hts (.initialized RJxc12de) (by decide +kernel)) (hts (.methodLink RJx4a65c 1 yJxc12de_init_da8c8) (by decide +kernel)) (hts (.instanceMethod yJxc12de_init_da8c8) (by decide +kernel)) rfl (by decide +kernel) ⟨Nat.le_of_ble_eq_true rfl, Nat.le_of_ble_eq_true rfl⟩) hK hP hD hS hA hE [0] [] rfl rfl (by decide) (by decide) (by decide) (wr := []) (w2 := fun u => [(h0, .inr (3, [.int 0, .null, .int 0]))]) (fun _ => rfl) hl.1 rfl (Nat.le_of_ble_eq_true rfl) rfl ⟨Nat.le_of_ble_eq_true rfl, Nat.le_of_ble_eq_true rfl⟩ dJx4a65c_init_da8c8_1 (fun u H locs hq hP hD hS => ?_)
  have hP : va_P D vwCl [(h0, .inr (3, [.int 0, .null, .int 0]))] H := hP
  have hD : va_D A [(h0, .inr (3, [.int 0, .null, .int 0]))] := hD
  refine lv_aload_n hx hb dJx4a65c_init_da8c8_4 rfl (lv_at hl 0 rfl) ?_
  refine va_gets hx hb hE.2.2.1 hS hown (hts (.fieldLink RJx4a65c 39 "java/util/ArrayList" "DEFAULTCAPACITY_EMPTY_ELEMENTDATA" "[Ljava/lang/Object;") (by decide +kernel)) (fun _ h9 => h9) dJx4a65c_init_da8c8_5 ?_
  refine va_put (D := D) (ci := 3) (v := .ref e0) (ty := (tyJx4a65c 1)) (C := RJx4a65c) (T := TJx4a65c) (N := 3) hx hb hts iw_Jx4a65c_init_da8c8_Jx4a65c tyJx4a65c tyJx4a65c_ok nmJx4a65c hown hK hP hD hS 0 rfl rfl 1 (by decide) (hts (.fieldLink RJx4a65c 9 "java/util/ArrayList" "elementData" "[Ljava/lang/Object;") (by decide +kernel)) (fun _ h9 => h9) rfl (by decide +kernel) rfl rfl (Nat.le_of_ble_eq_true rfl) dJx4a65c_init_da8c8_8 (fun H locs hP hD hS => ?_)
  have hP : va_P D vwCl [(h0, .inr (3, [.int 0, .ref e0, .int 0]))] H := hP
  have hD : va_D A [(h0, .inr (3, [.int 0, .ref e0, .int 0]))] := hD
  exact ov_ret hx hb hr hlocks () (trivial) hK (hP.sub [0] rfl) (hD.sub [0] (by decide) rfl) hS (Nat.le_of_ble_eq_true rfl) (Nat.le_of_ble_eq_true rfl) dJx4a65c_init_da8c8_11
theorem iw_X10_init_X10 : ∀ w ∈ wsX100, w ∈ wsX10_init := by decide +kernel
theorem iw_X10_init_X9 : ∀ w ∈ wsX90, w ∈ wsX10_init := by decide +kernel
set_option maxHeartbeats 4000000 in
set_option maxRecDepth 100000 in
/-- Terms() -/
theorem c_Terms_init (l : Launch) (e0 : Nat) (D : va_G) (k : Nat → ClassId) (h0 : Nat) : oCv l e0 D (oTy k) yX10_init wsX10_init ({ frames := 3, cells := 7, slots := 1103, locals := 71 } : Room) [.ref h0] [(h0, .inr (14, [.int 0, .null, .null, .null, .null]))] (S := Nat × Nat × Nat × Nat × Nat × Nat × Nat × (Nat → Int32)) (fun (u : Nat × Nat × Nat × Nat × Nat × Nat × Nat × (Nat → Int32)) => True) (fun u => [(h0, .inr (14, [.int 0, .ref u.1, .ref u.2.2.1, .ref u.2.2.2.2.1, .ref u.2.2.2.2.2.2.1])), (u.1, .inr (13, [.int 3, .ref u.2.1, .int 0])), (u.2.1, .inl ((k 0), 30, .inl (fun _ => 0))), (u.2.2.1, .inr (13, [.int 4, .ref u.2.2.2.1, .int 0])), (u.2.2.2.1, .inl ((k 0), 800, .inl (fun _ => 0))), (u.2.2.2.2.1, .inr (13, [.int 1, .ref u.2.2.2.2.2.1, .int 64])), (u.2.2.2.2.2.1, .inl ((k 0), 64, .inl u.2.2.2.2.2.2.2)), (u.2.2.2.2.2.2.1, .inl ((k 1), 200, .inr (.inl (fun _ => 0))))]) 7 1103 := by
  refine ov_of (cc := cX10_init) (maxL := 2) (ret := none) (by decide +kernel) rfl (Nat.le_of_ble_eq_true rfl) ?_
  intro p e s m below meth c A ls hx hb hml hr hts hown hlocks hin hA hK hP hD hS hE hl
  have hl : lv_has ls 2 [(0, .ref h0)] := hl
  refine lv_aload_n hx hb dX10_init_0 rfl (lv_at hl 0 rfl) ?_
  refine W.objInit hx hb hown (hts (.methodLink RX10 3 objectInit) (by decide +kernel)) (hts (.instanceMethod objectInit) (by decide +kernel)) (hts (.code objectInit ⟨#[0xb1]⟩ 1 none) (by decide +kernel)) rfl (by rw [hml]; exact hl.1) rfl dX10_init_1 (Nat.le_of_ble_eq_true rfl) (Nat.le_of_ble_eq_true rfl) ?_
  refine W.eq (g2 := F0 m 4 ls []) rfl ?_
  refine lv_aload_n hx hb dX10_init_4 rfl (lv_at hl 0 rfl) ?_
  refine lv_iconst (v := 0) hx hb dX10_init_5 (by decide) ?_
  refine va_put (D := D) (ci := 14) (v := .int 0) (ty := .int) (C := RX10) (T := TX10) (N := 5) hx hb hts iw_X10_init_X10 tyX10 tyX10_ok nmX10 hown hK hP hD hS 0 rfl rfl 0 (by decide) (hts (.fieldLink RX10 9 "ModedMill$Terms" "types" "I") (by decide +kernel)) (fun _ h9 => h9) rfl (by decide +kernel) rfl rfl (Nat.le_of_ble_eq_true rfl) dX10_init_6 (fun H locs hP hD hS => ?_)
  have hP : va_P D vwCl [(h0, .inr (14, [.int 0, .null, .null, .null, .null]))] H := hP
  have hD : va_D A [(h0, .inr (14, [.int 0, .null, .null, .null, .null]))] := hD
  refine lv_aload_n hx hb dX10_init_9 rfl (lv_at hl 0 rfl) ?_
  refine va_new (D := D) (ci := 13) (fs := [.int 0, .null, .int 0]) (C := RX9) (T := TX9) (N := 3) hx hb hts iw_X10_init_X9 tyX9 tyX9_ok hown (hts (.classLink RX10 15 RX9) (by decide +kernel)) (hts (.instantiable RX9 3) (by decide +kernel)) (hts (.initialized RX9) (by decide +kernel)) hK hP hD hS hA rfl (fun j hj => by rcases (show j = 0 ∨ j = 1 ∨ j = 2 by omega) with rfl | rfl | rfl <;> rfl) (Nat.le_of_ble_eq_true rfl) (Nat.le_of_ble_eq_true rfl) dX10_init_10 (fun q10_1 H hP hD hS => ?_)
  have hP : va_P D vwCl [(h0, .inr (14, [.int 0, .null, .null, .null, .null])), (q10_1, .inr (13, [.int 0, .null, .int 0]))] H := hP
  have hD : va_D A [(h0, .inr (14, [.int 0, .null, .null, .null, .null])), (q10_1, .inr (13, [.int 0, .null, .int 0]))] := hD
  refine lv_dup hx hb dX10_init_13 rfl ?_
  refine lv_iconst (v := 3) hx hb dX10_init_14 (by decide) ?_
  refine lv_bipush (v := 10) hx hb dX10_init_15 (by decide) ?_
  refine ov_callI hx hb hml hown hts (c_Table_init_3_10 l e0 D k q10_1) (cwI 2 hts gX10_init_X9_init rfl rfl rfl (hts (.initialized RX9) (by decide +kernel)) (hts (.methodLink RX10 17 yX9_init) (by decide +kernel)) (hts (.instanceMethod yX9_init) (by decide +kernel)) rfl (by decide +kernel) ⟨Nat.le_of_ble_eq_true rfl, Nat.le_of_ble_eq_true rfl⟩) hK hP hD hS hA hE [1] [0] rfl rfl (by decide) (by decide) (by decide) (wr := [(h0, .inr (14, [.int 0, .null, .null, .null, .null]))]) (w2 := fun u => [(h0, .inr (14, [.int 0, .null, .null, .null, .null])), (q10_1, .inr (13, [.int 3, .ref u, .int 0])), (u, .inl ((k 0), 30, .inl (fun _ => 0)))]) (fun _ => rfl) hl.1 rfl (Nat.le_of_ble_eq_true rfl) rfl ⟨Nat.le_of_ble_eq_true rfl, Nat.le_of_ble_eq_true rfl⟩ dX10_init_17 (fun u H locs hq hP hD hS => ?_)
  obtain ⟨q1_17, hu9⟩ : ∃ z, z = u := ⟨_, rfl⟩; subst hu9
  have hP : va_P D vwCl [(h0, .inr (14, [.int 0, .null, .null, .null, .null])), (q10_1, .inr (13, [.int 3, .ref q1_17, .int 0])), (q1_17, .inl ((k 0), 30, .inl (fun _ => 0)))] H := hP
  have hD : va_D A [(h0, .inr (14, [.int 0, .null, .null, .null, .null])), (q10_1, .inr (13, [.int 3, .ref q1_17, .int 0])), (q1_17, .inl ((k 0), 30, .inl (fun _ => 0)))] := hD
  refine va_putF (D := D) (ci := 14) (v := .ref q10_1) (ty := (tyX10 1)) (C := RX10) (T := TX10) (N := 5) hx hb hts iw_X10_init_X10 tyX10 tyX10_ok nmX10 hown hK hP hD hS 0 rfl rfl 1 (by decide) (hts (.fieldLink RX10 20 "ModedMill$Terms" "constructors" "LModedMill$Table;") (by decide +kernel)) (fun _ h9 => h9) rfl hin rfl (by decide +kernel) rfl rfl (Nat.le_of_ble_eq_true rfl) dX10_init_20 (fun H locs hP hD hS => ?_)
  have hP : va_P D vwCl [(h0, .inr (14, [.int 0, .ref q10_1, .null, .null, .null])), (q10_1, .inr (13, [.int 3, .ref q1_17, .int 0])), (q1_17, .inl ((k 0), 30, .inl (fun _ => 0)))] H := hP
  have hD : va_D A [(h0, .inr (14, [.int 0, .ref q10_1, .null, .null, .null])), (q10_1, .inr (13, [.int 3, .ref q1_17, .int 0])), (q1_17, .inl ((k 0), 30, .inl (fun _ => 0)))] := hD
  refine lv_aload_n hx hb dX10_init_23 rfl (lv_at hl 0 rfl) ?_
  refine va_new (D := D) (ci := 13) (fs := [.int 0, .null, .int 0]) (C := RX9) (T := TX9) (N := 3) hx hb hts iw_X10_init_X9 tyX9 tyX9_ok hown (hts (.classLink RX10 15 RX9) (by decide +kernel)) (hts (.instantiable RX9 3) (by decide +kernel)) (hts (.initialized RX9) (by decide +kernel)) hK hP hD hS hA rfl (fun j hj => by rcases (show j = 0 ∨ j = 1 ∨ j = 2 by omega) with rfl | rfl | rfl <;> rfl) (Nat.le_of_ble_eq_true rfl) (Nat.le_of_ble_eq_true rfl) dX10_init_24 (fun q24_2 H hP hD hS => ?_)
  have hP : va_P D vwCl [(h0, .inr (14, [.int 0, .ref q10_1, .null, .null, .null])), (q10_1, .inr (13, [.int 3, .ref q1_17, .int 0])), (q1_17, .inl ((k 0), 30, .inl (fun _ => 0))), (q24_2, .inr (13, [.int 0, .null, .int 0]))] H := hP
  have hD : va_D A [(h0, .inr (14, [.int 0, .ref q10_1, .null, .null, .null])), (q10_1, .inr (13, [.int 3, .ref q1_17, .int 0])), (q1_17, .inl ((k 0), 30, .inl (fun _ => 0))), (q24_2, .inr (13, [.int 0, .null, .int 0]))] := hD
  refine lv_dup hx hb dX10_init_27 rfl ?_
  refine lv_iconst (v := 4) hx hb dX10_init_28 (by decide) ?_
  refine lv_sipush (v := 200) hx hb dX10_init_29 (by decide) ?_
  refine ov_callI hx hb hml hown hts (c_Table_init_4_200 l e0 D k q24_2) (cwI 2 hts gX10_init_X9_init rfl rfl rfl (hts (.initialized RX9) (by decide +kernel)) (hts (.methodLink RX10 17 yX9_init) (by decide +kernel)) (hts (.instanceMethod yX9_init) (by decide +kernel)) rfl (by decide +kernel) ⟨Nat.le_of_ble_eq_true rfl, Nat.le_of_ble_eq_true rfl⟩) hK hP hD hS hA hE [3] [0, 1, 2] rfl rfl (by decide) (by decide) (by decide) (wr := [(h0, .inr (14, [.int 0, .ref q10_1, .null, .null, .null])), (q10_1, .inr (13, [.int 3, .ref q1_17, .int 0])), (q1_17, .inl ((k 0), 30, .inl (fun _ => 0)))]) (w2 := fun u => [(h0, .inr (14, [.int 0, .ref q10_1, .null, .null, .null])), (q10_1, .inr (13, [.int 3, .ref q1_17, .int 0])), (q1_17, .inl ((k 0), 30, .inl (fun _ => 0))), (q24_2, .inr (13, [.int 4, .ref u, .int 0])), (u, .inl ((k 0), 800, .inl (fun _ => 0)))]) (fun _ => rfl) hl.1 rfl (Nat.le_of_ble_eq_true rfl) rfl ⟨Nat.le_of_ble_eq_true rfl, Nat.le_of_ble_eq_true rfl⟩ dX10_init_32 (fun u H locs hq hP hD hS => ?_)
  obtain ⟨q1_32, hu9⟩ : ∃ z, z = u := ⟨_, rfl⟩; subst hu9
  have hP : va_P D vwCl [(h0, .inr (14, [.int 0, .ref q10_1, .null, .null, .null])), (q10_1, .inr (13, [.int 3, .ref q1_17, .int 0])), (q1_17, .inl ((k 0), 30, .inl (fun _ => 0))), (q24_2, .inr (13, [.int 4, .ref q1_32, .int 0])), (q1_32, .inl ((k 0), 800, .inl (fun _ => 0)))] H := hP
  have hD : va_D A [(h0, .inr (14, [.int 0, .ref q10_1, .null, .null, .null])), (q10_1, .inr (13, [.int 3, .ref q1_17, .int 0])), (q1_17, .inl ((k 0), 30, .inl (fun _ => 0))), (q24_2, .inr (13, [.int 4, .ref q1_32, .int 0])), (q1_32, .inl ((k 0), 800, .inl (fun _ => 0)))] := hD
  refine va_putF (D := D) (ci := 14) (v := .ref q24_2) (ty := (tyX10 2)) (C := RX10) (T := TX10) (N := 5) hx hb hts iw_X10_init_X10 tyX10 tyX10_ok nmX10 hown hK hP hD hS 0 rfl rfl 2 (by decide) (hts (.fieldLink RX10 24 "ModedMill$Terms" "numbered" "LModedMill$Table;") (by decide +kernel)) (fun _ h9 => h9) rfl hin rfl (by decide +kernel) rfl rfl (Nat.le_of_ble_eq_true rfl) dX10_init_35 (fun H locs hP hD hS => ?_)
  have hP : va_P D vwCl [(h0, .inr (14, [.int 0, .ref q10_1, .ref q24_2, .null, .null])), (q10_1, .inr (13, [.int 3, .ref q1_17, .int 0])), (q1_17, .inl ((k 0), 30, .inl (fun _ => 0))), (q24_2, .inr (13, [.int 4, .ref q1_32, .int 0])), (q1_32, .inl ((k 0), 800, .inl (fun _ => 0)))] H := hP
  have hD : va_D A [(h0, .inr (14, [.int 0, .ref q10_1, .ref q24_2, .null, .null])), (q10_1, .inr (13, [.int 3, .ref q1_17, .int 0])), (q1_17, .inl ((k 0), 30, .inl (fun _ => 0))), (q24_2, .inr (13, [.int 4, .ref q1_32, .int 0])), (q1_32, .inl ((k 0), 800, .inl (fun _ => 0)))] := hD
  refine lv_aload_n hx hb dX10_init_38 rfl (lv_at hl 0 rfl) ?_
  refine va_new (D := D) (ci := 13) (fs := [.int 0, .null, .int 0]) (C := RX9) (T := TX9) (N := 3) hx hb hts iw_X10_init_X9 tyX9 tyX9_ok hown (hts (.classLink RX10 15 RX9) (by decide +kernel)) (hts (.instantiable RX9 3) (by decide +kernel)) (hts (.initialized RX9) (by decide +kernel)) hK hP hD hS hA rfl (fun j hj => by rcases (show j = 0 ∨ j = 1 ∨ j = 2 by omega) with rfl | rfl | rfl <;> rfl) (Nat.le_of_ble_eq_true rfl) (Nat.le_of_ble_eq_true rfl) dX10_init_39 (fun q39_3 H hP hD hS => ?_)
  have hP : va_P D vwCl [(h0, .inr (14, [.int 0, .ref q10_1, .ref q24_2, .null, .null])), (q10_1, .inr (13, [.int 3, .ref q1_17, .int 0])), (q1_17, .inl ((k 0), 30, .inl (fun _ => 0))), (q24_2, .inr (13, [.int 4, .ref q1_32, .int 0])), (q1_32, .inl ((k 0), 800, .inl (fun _ => 0))), (q39_3, .inr (13, [.int 0, .null, .int 0]))] H := hP
  have hD : va_D A [(h0, .inr (14, [.int 0, .ref q10_1, .ref q24_2, .null, .null])), (q10_1, .inr (13, [.int 3, .ref q1_17, .int 0])), (q1_17, .inl ((k 0), 30, .inl (fun _ => 0))), (q24_2, .inr (13, [.int 4, .ref q1_32, .int 0])), (q1_32, .inl ((k 0), 800, .inl (fun _ => 0))), (q39_3, .inr (13, [.int 0, .null, .int 0]))] := hD
  refine lv_dup hx hb dX10_init_42 rfl ?_
  refine lv_iconst (v := 1) hx hb dX10_init_43 (by decide) ?_
  refine lv_bipush (v := 64) hx hb dX10_init_44 (by decide) ?_
  refine ov_callI hx hb hml hown hts (c_Table_init_1_64 l e0 D k q39_3) (cwI 2 hts gX10_init_X9_init rfl rfl rfl (hts (.initialized RX9) (by decide +kernel)) (hts (.methodLink RX10 17 yX9_init) (by decide +kernel)) (hts (.instanceMethod yX9_init) (by decide +kernel)) rfl (by decide +kernel) ⟨Nat.le_of_ble_eq_true rfl, Nat.le_of_ble_eq_true rfl⟩) hK hP hD hS hA hE [5] [0, 1, 2, 3, 4] rfl rfl (by decide) (by decide) (by decide) (wr := [(h0, .inr (14, [.int 0, .ref q10_1, .ref q24_2, .null, .null])), (q10_1, .inr (13, [.int 3, .ref q1_17, .int 0])), (q1_17, .inl ((k 0), 30, .inl (fun _ => 0))), (q24_2, .inr (13, [.int 4, .ref q1_32, .int 0])), (q1_32, .inl ((k 0), 800, .inl (fun _ => 0)))]) (w2 := fun u => [(h0, .inr (14, [.int 0, .ref q10_1, .ref q24_2, .null, .null])), (q10_1, .inr (13, [.int 3, .ref q1_17, .int 0])), (q1_17, .inl ((k 0), 30, .inl (fun _ => 0))), (q24_2, .inr (13, [.int 4, .ref q1_32, .int 0])), (q1_32, .inl ((k 0), 800, .inl (fun _ => 0))), (q39_3, .inr (13, [.int 1, .ref u, .int 0])), (u, .inl ((k 0), 64, .inl (fun _ => 0)))]) (fun _ => rfl) hl.1 rfl (Nat.le_of_ble_eq_true rfl) rfl ⟨Nat.le_of_ble_eq_true rfl, Nat.le_of_ble_eq_true rfl⟩ dX10_init_46 (fun u H locs hq hP hD hS => ?_)
  obtain ⟨q1_46, hu9⟩ : ∃ z, z = u := ⟨_, rfl⟩; subst hu9
  have hP : va_P D vwCl [(h0, .inr (14, [.int 0, .ref q10_1, .ref q24_2, .null, .null])), (q10_1, .inr (13, [.int 3, .ref q1_17, .int 0])), (q1_17, .inl ((k 0), 30, .inl (fun _ => 0))), (q24_2, .inr (13, [.int 4, .ref q1_32, .int 0])), (q1_32, .inl ((k 0), 800, .inl (fun _ => 0))), (q39_3, .inr (13, [.int 1, .ref q1_46, .int 0])), (q1_46, .inl ((k 0), 64, .inl (fun _ => 0)))] H := hP
  have hD : va_D A [(h0, .inr (14, [.int 0, .ref q10_1, .ref q24_2, .null, .null])), (q10_1, .inr (13, [.int 3, .ref q1_17, .int 0])), (q1_17, .inl ((k 0), 30, .inl (fun _ => 0))), (q24_2, .inr (13, [.int 4, .ref q1_32, .int 0])), (q1_32, .inl ((k 0), 800, .inl (fun _ => 0))), (q39_3, .inr (13, [.int 1, .ref q1_46, .int 0])), (q1_46, .inl ((k 0), 64, .inl (fun _ => 0)))] := hD
  refine va_putF (D := D) (ci := 14) (v := .ref q39_3) (ty := (tyX10 3)) (C := RX10) (T := TX10) (N := 5) hx hb hts iw_X10_init_X10 tyX10 tyX10_ok nmX10 hown hK hP hD hS 0 rfl rfl 3 (by decide) (hts (.fieldLink RX10 27 "ModedMill$Terms" "chains" "LModedMill$Table;") (by decide +kernel)) (fun _ h9 => h9) rfl hin rfl (by decide +kernel) rfl rfl (Nat.le_of_ble_eq_true rfl) dX10_init_49 (fun H locs hP hD hS => ?_)
  have hP : va_P D vwCl [(h0, .inr (14, [.int 0, .ref q10_1, .ref q24_2, .ref q39_3, .null])), (q10_1, .inr (13, [.int 3, .ref q1_17, .int 0])), (q1_17, .inl ((k 0), 30, .inl (fun _ => 0))), (q24_2, .inr (13, [.int 4, .ref q1_32, .int 0])), (q1_32, .inl ((k 0), 800, .inl (fun _ => 0))), (q39_3, .inr (13, [.int 1, .ref q1_46, .int 0])), (q1_46, .inl ((k 0), 64, .inl (fun _ => 0)))] H := hP
  have hD : va_D A [(h0, .inr (14, [.int 0, .ref q10_1, .ref q24_2, .ref q39_3, .null])), (q10_1, .inr (13, [.int 3, .ref q1_17, .int 0])), (q1_17, .inl ((k 0), 30, .inl (fun _ => 0))), (q24_2, .inr (13, [.int 4, .ref q1_32, .int 0])), (q1_32, .inl ((k 0), 800, .inl (fun _ => 0))), (q39_3, .inr (13, [.int 1, .ref q1_46, .int 0])), (q1_46, .inl ((k 0), 64, .inl (fun _ => 0)))] := hD
  refine lv_iconst (v := 0) hx hb dX10_init_52 (by decide) ?_
  refine lv_istore_n (lv' := [(1, .int 0), (0, .ref h0)]) hx hb dX10_init_53 rfl hl (by decide) rfl (fun ls hl => ?_)
  have key : ∀ (n9 : Nat) (i9 : Nat) (f9 : Nat → Int32) (H : Heap) (locs : List Loc) (ls : Array Slot), i9 + n9 = 64 → va_P D vwCl [(h0, .inr (14, [.int 0, .ref q10_1, .ref q24_2, .ref q39_3, .null])), (q10_1, .inr (13, [.int 3, .ref q1_17, .int 0])), (q1_17, .inl ((k 0), 30, .inl (fun _ => 0))), (q24_2, .inr (13, [.int 4, .ref q1_32, .int 0])), (q1_32, .inl ((k 0), 800, .inl (fun _ => 0))), (q39_3, .inr (13, [.int 1, .ref q1_46, .int (nI i9)])), (q1_46, .inl ((k 0), 64, .inl f9))] H → va_D A [(h0, .inr (14, [.int 0, .ref q10_1, .ref q24_2, .ref q39_3, .null])), (q10_1, .inr (13, [.int 3, .ref q1_17, .int 0])), (q1_17, .inl ((k 0), 30, .inl (fun _ => 0))), (q24_2, .inr (13, [.int 4, .ref q1_32, .int 0])), (q1_32, .inl ((k 0), 800, .inl (fun _ => 0))), (q39_3, .inr (13, [.int 1, .ref q1_46, .int (nI i9)])), (q1_46, .inl ((k 0), 64, .inl f9))] → va_S A s.heap H locs → lv_has ls 2 [(1, .int (nI i9)), (0, .ref h0)] → W p l e ({ frames := 3, cells := 7, slots := 1103, locals := 71 } : Room) s m ([.ref h0] : List Value).toArray below meth c H locs 6 903 (MQ below (va_Qv (S := Nat × Nat × Nat × Nat × Nat × Nat × Nat × (Nat → Int32)) (fun (u : Nat × Nat × Nat × Nat × Nat × Nat × Nat × (Nat → Int32)) => True) (oB D (oTy k) A (fun u => [(h0, .inr (14, [.int 0, .ref u.1, .ref u.2.2.1, .ref u.2.2.2.2.1, .ref u.2.2.2.2.2.2.1])), (u.1, .inr (13, [.int 3, .ref u.2.1, .int 0])), (u.2.1, .inl ((k 0), 30, .inl (fun _ => 0))), (u.2.2.1, .inr (13, [.int 4, .ref u.2.2.2.1, .int 0])), (u.2.2.2.1, .inl ((k 0), 800, .inl (fun _ => 0))), (u.2.2.2.2.1, .inr (13, [.int 1, .ref u.2.2.2.2.2.1, .int 64])), (u.2.2.2.2.2.1, .inl ((k 0), 64, .inl u.2.2.2.2.2.2.2)), (u.2.2.2.2.2.2.1, .inl ((k 1), 200, .inr (.inl (fun _ => 0))))])) A) ([.ref h0] : List Value).toArray s 7 1103 A) (F0 m 54 ls []) := by
    intro n9
    induction n9 with
    | zero =>
      intro i9 f9 H locs ls hi9 hP hD hS hl
      refine lv_iload_n hx hb dX10_init_54 rfl (lv_at hl 0 rfl) ?_
      refine lv_bipush (v := 64) hx hb dX10_init_55 (by decide) ?_
      refine lv_icmp_ge (tgt := 77) hx hb dX10_init_57 (by decide) (fun c_57 => ?_) (fun c_57 => absurd (o_le (a := 64) (by omega) (by omega)) c_57)
      obtain rfl : i9 = 64 := by omega
      have hP : va_P D vwCl [(h0, .inr (14, [.int 0, .ref q10_1, .ref q24_2, .ref q39_3, .null])), (q10_1, .inr (13, [.int 3, .ref q1_17, .int 0])), (q1_17, .inl ((k 0), 30, .inl (fun _ => 0))), (q24_2, .inr (13, [.int 4, .ref q1_32, .int 0])), (q1_32, .inl ((k 0), 800, .inl (fun _ => 0))), (q39_3, .inr (13, [.int 1, .ref q1_46, .int (nI 64)])), (q1_46, .inl ((k 0), 64, .inl f9))] H := hP
      have hD : va_D A [(h0, .inr (14, [.int 0, .ref q10_1, .ref q24_2, .ref q39_3, .null])), (q10_1, .inr (13, [.int 3, .ref q1_17, .int 0])), (q1_17, .inl ((k 0), 30, .inl (fun _ => 0))), (q24_2, .inr (13, [.int 4, .ref q1_32, .int 0])), (q1_32, .inl ((k 0), 800, .inl (fun _ => 0))), (q39_3, .inr (13, [.int 1, .ref q1_46, .int (nI 64)])), (q1_46, .inl ((k 0), 64, .inl f9))] := hD
      refine lv_aload_n hx hb dX10_init_77 rfl (lv_at hl 1 rfl) ?_
      refine lv_sipush (v := 200) hx hb dX10_init_78 (by decide) ?_
      refine o_newa (D := D) (atype := .long) (ty := .long) 1 (cA0 := (k 1)) rfl (hts (.arrayClass .long) (by decide +kernel)) rfl hK hP hD hS hA (a0 := (200, .inr (.inl (fun _ => 0)))) (N' := 200) hx hb (fun _ => rfl) (by decide) (rfl) (Nat.le_of_ble_eq_true rfl) (Nat.le_of_ble_eq_true rfl) (Nat.le_of_ble_eq_true rfl) dX10_init_81 (fun q81_4 H hP hD hS => ?_)
      have hP : va_P D vwCl [(h0, .inr (14, [.int 0, .ref q10_1, .ref q24_2, .ref q39_3, .null])), (q10_1, .inr (13, [.int 3, .ref q1_17, .int 0])), (q1_17, .inl ((k 0), 30, .inl (fun _ => 0))), (q24_2, .inr (13, [.int 4, .ref q1_32, .int 0])), (q1_32, .inl ((k 0), 800, .inl (fun _ => 0))), (q39_3, .inr (13, [.int 1, .ref q1_46, .int (nI 64)])), (q1_46, .inl ((k 0), 64, .inl f9)), (q81_4, .inl ((k 1), 200, .inr (.inl (fun _ => 0))))] H := hP
      have hD : va_D A [(h0, .inr (14, [.int 0, .ref q10_1, .ref q24_2, .ref q39_3, .null])), (q10_1, .inr (13, [.int 3, .ref q1_17, .int 0])), (q1_17, .inl ((k 0), 30, .inl (fun _ => 0))), (q24_2, .inr (13, [.int 4, .ref q1_32, .int 0])), (q1_32, .inl ((k 0), 800, .inl (fun _ => 0))), (q39_3, .inr (13, [.int 1, .ref q1_46, .int (nI 64)])), (q1_46, .inl ((k 0), 64, .inl f9)), (q81_4, .inl ((k 1), 200, .inr (.inl (fun _ => 0))))] := hD
      refine va_putF (D := D) (ci := 14) (v := .ref q81_4) (ty := (tyX10 4)) (C := RX10) (T := TX10) (N := 5) hx hb hts iw_X10_init_X10 tyX10 tyX10_ok nmX10 hown hK hP hD hS 0 rfl rfl 4 (by decide) (hts (.fieldLink RX10 34 "ModedMill$Terms" "sizes" "[J") (by decide +kernel)) (fun _ h9 => h9) rfl hin rfl (by decide +kernel) rfl rfl (Nat.le_of_ble_eq_true rfl) dX10_init_83 (fun H locs hP hD hS => ?_)
      have hP : va_P D vwCl [(h0, .inr (14, [.int 0, .ref q10_1, .ref q24_2, .ref q39_3, .ref q81_4])), (q10_1, .inr (13, [.int 3, .ref q1_17, .int 0])), (q1_17, .inl ((k 0), 30, .inl (fun _ => 0))), (q24_2, .inr (13, [.int 4, .ref q1_32, .int 0])), (q1_32, .inl ((k 0), 800, .inl (fun _ => 0))), (q39_3, .inr (13, [.int 1, .ref q1_46, .int (nI 64)])), (q1_46, .inl ((k 0), 64, .inl f9)), (q81_4, .inl ((k 1), 200, .inr (.inl (fun _ => 0))))] H := hP
      have hD : va_D A [(h0, .inr (14, [.int 0, .ref q10_1, .ref q24_2, .ref q39_3, .ref q81_4])), (q10_1, .inr (13, [.int 3, .ref q1_17, .int 0])), (q1_17, .inl ((k 0), 30, .inl (fun _ => 0))), (q24_2, .inr (13, [.int 4, .ref q1_32, .int 0])), (q1_32, .inl ((k 0), 800, .inl (fun _ => 0))), (q39_3, .inr (13, [.int 1, .ref q1_46, .int (nI 64)])), (q1_46, .inl ((k 0), 64, .inl f9)), (q81_4, .inl ((k 1), 200, .inr (.inl (fun _ => 0))))] := hD
      exact ov_ret hx hb hr hlocks (q10_1, q1_17, q24_2, q1_32, q39_3, q1_46, q81_4, f9) (trivial) hK (hP.sub [0, 1, 2, 3, 4, 5, 6, 7] rfl) (hD.sub [0, 1, 2, 3, 4, 5, 6, 7] (by decide) rfl) hS (Nat.le_of_ble_eq_true rfl) (Nat.le_of_ble_eq_true rfl) dX10_init_86
    | succ n9 ih =>
      intro i9 f9 H locs ls hi9 hP hD hS hl
      refine lv_iload_n hx hb dX10_init_54 rfl (lv_at hl 0 rfl) ?_
      refine lv_bipush (v := 64) hx hb dX10_init_55 (by decide) ?_
      refine lv_icmp_ge (tgt := 77) hx hb dX10_init_57 (by decide) (fun c_57 => absurd c_57 (o_nle (a := 64) (by omega) (by omega))) (fun c_57 => ?_)
      refine lv_aload_n hx hb dX10_init_60 rfl (lv_at hl 1 rfl) ?_
      refine va_get (D := D) (ci := 14) (v := .ref q39_3) (C := RX10) (T := TX10) (N := 5) hx hb hts iw_X10_init_X10 hown hK hP 0 rfl rfl 3 (by decide) (hts (.fieldLink RX10 27 "ModedMill$Terms" "chains" "LModedMill$Table;") (by decide +kernel)) (fun _ h9 => h9) rfl dX10_init_61 ?_
      refine lv_iconst (v := (-1)) hx hb dX10_init_64 (by decide) ?_
      refine lv_iconst (v := (-1)) hx hb dX10_init_65 (by decide) ?_
      refine lv_iconst (v := (-1)) hx hb dX10_init_66 (by decide) ?_
      refine oi_callV hx hb hml hown hts (c_Table_add l e0 D k q39_3 q1_46 64 1 i9 ((-1)) ((-1)) ((-1)) f9 (by omega) (by omega) (by omega)) (cwV 3 hts gX10_init_X9_add rfl rfl rfl (by decide +kernel) ⟨Nat.le_of_ble_eq_true rfl, Nat.le_of_ble_eq_true rfl⟩) hK hP hD hS hA hE [5, 6] [0, 1, 2, 3, 4] rfl rfl (by decide) (by decide) (by decide) (wr := [(h0, .inr (14, [.int 0, .ref q10_1, .ref q24_2, .ref q39_3, .null])), (q10_1, .inr (13, [.int 3, .ref q1_17, .int 0])), (q1_17, .inl ((k 0), 30, .inl (fun _ => 0))), (q24_2, .inr (13, [.int 4, .ref q1_32, .int 0])), (q1_32, .inl ((k 0), 800, .inl (fun _ => 0)))]) (w2 := fun u => [(h0, .inr (14, [.int 0, .ref q10_1, .ref q24_2, .ref q39_3, .null])), (q10_1, .inr (13, [.int 3, .ref q1_17, .int 0])), (q1_17, .inl ((k 0), 30, .inl (fun _ => 0))), (q24_2, .inr (13, [.int 4, .ref q1_32, .int 0])), (q1_32, .inl ((k 0), 800, .inl (fun _ => 0))), (q39_3, .inr (13, [.int (nI 1), .ref q1_46, .int (nI (i9 + 1))])), (q1_46, .inl ((k 0), 64, .inl u))]) (fun _ => rfl) 0 13 rfl rfl rfl hl.1 rfl (Nat.le_of_ble_eq_true rfl) rfl ⟨Nat.le_of_ble_eq_true rfl, Nat.le_of_ble_eq_true rfl⟩ dX10_init_67 (fun r u H locs hq hP hD hS => ?_)
      obtain ⟨f1_67, hu9⟩ : ∃ z, z = u := ⟨_, rfl⟩; subst hu9
      have er : r = (nI i9) := hq
      subst er
      have hP : va_P D vwCl [(h0, .inr (14, [.int 0, .ref q10_1, .ref q24_2, .ref q39_3, .null])), (q10_1, .inr (13, [.int 3, .ref q1_17, .int 0])), (q1_17, .inl ((k 0), 30, .inl (fun _ => 0))), (q24_2, .inr (13, [.int 4, .ref q1_32, .int 0])), (q1_32, .inl ((k 0), 800, .inl (fun _ => 0))), (q39_3, .inr (13, [.int (nI 1), .ref q1_46, .int (nI (i9 + 1))])), (q1_46, .inl ((k 0), 64, .inl f1_67))] H := hP
      have hD : va_D A [(h0, .inr (14, [.int 0, .ref q10_1, .ref q24_2, .ref q39_3, .null])), (q10_1, .inr (13, [.int 3, .ref q1_17, .int 0])), (q1_17, .inl ((k 0), 30, .inl (fun _ => 0))), (q24_2, .inr (13, [.int 4, .ref q1_32, .int 0])), (q1_32, .inl ((k 0), 800, .inl (fun _ => 0))), (q39_3, .inr (13, [.int (nI 1), .ref q1_46, .int (nI (i9 + 1))])), (q1_46, .inl ((k 0), 64, .inl f1_67))] := hD
      refine lv_pop hx hb dX10_init_70 rfl ?_
      refine lv_iinc (v := (nI (i9 + 1))) (lv' := [(1, .int (nI (i9 + 1))), (0, .ref h0)]) hx hb dX10_init_71 hl (k := 0) rfl (nI_1 (i9)) (by decide) rfl (fun ls hl => ?_)
      refine lv_goto (tgt := 54) hx hb dX10_init_74 (by decide) ?_
      exact ih (i9 + 1) f1_67 _ _ _ (by omega) hP hD hS hl
  exact key 64 0 (fun _ => 0) _ _ _ (by omega) hP hD hS hl
theorem iw_X7_init_Jx4a65c : ∀ w ∈ wsJx4a65c0, w ∈ wsX7_init := by decide +kernel
theorem iw_X7_init_X7 : ∀ w ∈ wsX70, w ∈ wsX7_init := by decide +kernel
set_option maxHeartbeats 4000000 in
set_option maxRecDepth 100000 in
/-- Program() -/
theorem c_Program_init (l : Launch) (e0 : Nat) (D : va_G) (k : Nat → ClassId) (h0 : Nat) : oCv l e0 D (oTy k) yX7_init wsX7_init ({ frames := 4, cells := 3, slots := 9, locals := 80 } : Room) [.ref h0] [(h0, .inr (11, [.null, .null, .null]))] (S := Nat × Nat × Nat) (fun (u : Nat × Nat × Nat) => True) (fun u => [(h0, .inr (11, [.ref u.1, .ref u.2.1, .ref u.2.2])), (u.1, .inr (3, [.int 0, .ref e0, .int 0])), (u.2.1, .inr (3, [.int 0, .ref e0, .int 0])), (u.2.2, .inr (3, [.int 0, .ref e0, .int 0]))]) 3 9 := by
  refine ov_of (cc := cX7_init) (maxL := 1) (ret := none) (by decide +kernel) rfl (Nat.le_of_ble_eq_true rfl) ?_
  intro p e s m below meth c A ls hx hb hml hr hts hown hlocks hin hA hK hP hD hS hE hl
  have hl : lv_has ls 1 [(0, .ref h0)] := hl
  refine lv_aload_n hx hb dX7_init_0 rfl (lv_at hl 0 rfl) ?_
  refine W.objInit hx hb hown (hts (.methodLink RX7 3 objectInit) (by decide +kernel)) (hts (.instanceMethod objectInit) (by decide +kernel)) (hts (.code objectInit ⟨#[0xb1]⟩ 1 none) (by decide +kernel)) rfl (by rw [hml]; exact hl.1) rfl dX7_init_1 (Nat.le_of_ble_eq_true rfl) (Nat.le_of_ble_eq_true rfl) ?_
  refine W.eq (g2 := F0 m 4 ls []) rfl ?_
  refine lv_aload_n hx hb dX7_init_4 rfl (lv_at hl 0 rfl) ?_
  refine va_new (D := D) (ci := 3) (fs := [.int 0, .null, .int 0]) (C := RJx4a65c) (T := TJx4a65c) (N := 3) hx hb hts iw_X7_init_Jx4a65c tyJx4a65c tyJx4a65c_ok hown (hts (.classLink RX7 9 RJx4a65c) (by decide +kernel)) (hts (.instantiable RJx4a65c 3) (by decide +kernel)) (hts (.initialized RJx4a65c) (by decide +kernel)) hK hP hD hS hA rfl (fun j hj => by rcases (show j = 0 ∨ j = 1 ∨ j = 2 by omega) with rfl | rfl | rfl <;> rfl) (Nat.le_of_ble_eq_true rfl) (Nat.le_of_ble_eq_true rfl) dX7_init_5 (fun q5_1 H hP hD hS => ?_)
  have hP : va_P D vwCl [(h0, .inr (11, [.null, .null, .null])), (q5_1, .inr (3, [.int 0, .null, .int 0]))] H := hP
  have hD : va_D A [(h0, .inr (11, [.null, .null, .null])), (q5_1, .inr (3, [.int 0, .null, .int 0]))] := hD
  refine lv_dup hx hb dX7_init_8 rfl ?_
  refine ov_callI hx hb hml hown hts (c_List_init l e0 D k q5_1) (cwI 0 hts gX7_init_Jx4a65c_init_da8c8 rfl rfl rfl (hts (.initialized RJx4a65c) (by decide +kernel)) (hts (.methodLink RX7 11 yJx4a65c_init_da8c8) (by decide +kernel)) (hts (.instanceMethod yJx4a65c_init_da8c8) (by decide +kernel)) rfl (by decide +kernel) ⟨Nat.le_of_ble_eq_true rfl, Nat.le_of_ble_eq_true rfl⟩) hK hP hD hS hA hE [1] [0] rfl rfl (by decide) (by decide) (by decide) (wr := [(h0, .inr (11, [.null, .null, .null]))]) (w2 := fun u => [(h0, .inr (11, [.null, .null, .null])), (q5_1, .inr (3, [.int 0, .ref e0, .int 0]))]) (fun _ => rfl) hl.1 rfl (Nat.le_of_ble_eq_true rfl) rfl ⟨Nat.le_of_ble_eq_true rfl, Nat.le_of_ble_eq_true rfl⟩ dX7_init_9 (fun u H locs hq hP hD hS => ?_)
  have hP : va_P D vwCl [(h0, .inr (11, [.null, .null, .null])), (q5_1, .inr (3, [.int 0, .ref e0, .int 0]))] H := hP
  have hD : va_D A [(h0, .inr (11, [.null, .null, .null])), (q5_1, .inr (3, [.int 0, .ref e0, .int 0]))] := hD
  refine va_putF (D := D) (ci := 11) (v := .ref q5_1) (ty := (tyX7 0)) (C := RX7) (T := TX7) (N := 3) hx hb hts iw_X7_init_X7 tyX7 tyX7_ok nmX7 hown hK hP hD hS 0 rfl rfl 0 (by decide) (hts (.fieldLink RX7 12 "ModedMill$Program" "predicates" "Ljava/util/ArrayList;") (by decide +kernel)) (fun _ h9 => h9) rfl hin rfl (by decide +kernel) rfl rfl (Nat.le_of_ble_eq_true rfl) dX7_init_12 (fun H locs hP hD hS => ?_)
  have hP : va_P D vwCl [(h0, .inr (11, [.ref q5_1, .null, .null])), (q5_1, .inr (3, [.int 0, .ref e0, .int 0]))] H := hP
  have hD : va_D A [(h0, .inr (11, [.ref q5_1, .null, .null])), (q5_1, .inr (3, [.int 0, .ref e0, .int 0]))] := hD
  refine lv_aload_n hx hb dX7_init_15 rfl (lv_at hl 0 rfl) ?_
  refine va_new (D := D) (ci := 3) (fs := [.int 0, .null, .int 0]) (C := RJx4a65c) (T := TJx4a65c) (N := 3) hx hb hts iw_X7_init_Jx4a65c tyJx4a65c tyJx4a65c_ok hown (hts (.classLink RX7 9 RJx4a65c) (by decide +kernel)) (hts (.instantiable RJx4a65c 3) (by decide +kernel)) (hts (.initialized RJx4a65c) (by decide +kernel)) hK hP hD hS hA rfl (fun j hj => by rcases (show j = 0 ∨ j = 1 ∨ j = 2 by omega) with rfl | rfl | rfl <;> rfl) (Nat.le_of_ble_eq_true rfl) (Nat.le_of_ble_eq_true rfl) dX7_init_16 (fun q16_2 H hP hD hS => ?_)
  have hP : va_P D vwCl [(h0, .inr (11, [.ref q5_1, .null, .null])), (q5_1, .inr (3, [.int 0, .ref e0, .int 0])), (q16_2, .inr (3, [.int 0, .null, .int 0]))] H := hP
  have hD : va_D A [(h0, .inr (11, [.ref q5_1, .null, .null])), (q5_1, .inr (3, [.int 0, .ref e0, .int 0])), (q16_2, .inr (3, [.int 0, .null, .int 0]))] := hD
  refine lv_dup hx hb dX7_init_19 rfl ?_
  refine ov_callI hx hb hml hown hts (c_List_init l e0 D k q16_2) (cwI 0 hts gX7_init_Jx4a65c_init_da8c8 rfl rfl rfl (hts (.initialized RJx4a65c) (by decide +kernel)) (hts (.methodLink RX7 11 yJx4a65c_init_da8c8) (by decide +kernel)) (hts (.instanceMethod yJx4a65c_init_da8c8) (by decide +kernel)) rfl (by decide +kernel) ⟨Nat.le_of_ble_eq_true rfl, Nat.le_of_ble_eq_true rfl⟩) hK hP hD hS hA hE [2] [0, 1] rfl rfl (by decide) (by decide) (by decide) (wr := [(h0, .inr (11, [.ref q5_1, .null, .null])), (q5_1, .inr (3, [.int 0, .ref e0, .int 0]))]) (w2 := fun u => [(h0, .inr (11, [.ref q5_1, .null, .null])), (q5_1, .inr (3, [.int 0, .ref e0, .int 0])), (q16_2, .inr (3, [.int 0, .ref e0, .int 0]))]) (fun _ => rfl) hl.1 rfl (Nat.le_of_ble_eq_true rfl) rfl ⟨Nat.le_of_ble_eq_true rfl, Nat.le_of_ble_eq_true rfl⟩ dX7_init_20 (fun u H locs hq hP hD hS => ?_)
  have hP : va_P D vwCl [(h0, .inr (11, [.ref q5_1, .null, .null])), (q5_1, .inr (3, [.int 0, .ref e0, .int 0])), (q16_2, .inr (3, [.int 0, .ref e0, .int 0]))] H := hP
  have hD : va_D A [(h0, .inr (11, [.ref q5_1, .null, .null])), (q5_1, .inr (3, [.int 0, .ref e0, .int 0])), (q16_2, .inr (3, [.int 0, .ref e0, .int 0]))] := hD
  refine va_putF (D := D) (ci := 11) (v := .ref q16_2) (ty := (tyX7 1)) (C := RX7) (T := TX7) (N := 3) hx hb hts iw_X7_init_X7 tyX7 tyX7_ok nmX7 hown hK hP hD hS 0 rfl rfl 1 (by decide) (hts (.fieldLink RX7 18 "ModedMill$Program" "modes" "Ljava/util/ArrayList;") (by decide +kernel)) (fun _ h9 => h9) rfl hin rfl (by decide +kernel) rfl rfl (Nat.le_of_ble_eq_true rfl) dX7_init_23 (fun H locs hP hD hS => ?_)
  have hP : va_P D vwCl [(h0, .inr (11, [.ref q5_1, .ref q16_2, .null])), (q5_1, .inr (3, [.int 0, .ref e0, .int 0])), (q16_2, .inr (3, [.int 0, .ref e0, .int 0]))] H := hP
  have hD : va_D A [(h0, .inr (11, [.ref q5_1, .ref q16_2, .null])), (q5_1, .inr (3, [.int 0, .ref e0, .int 0])), (q16_2, .inr (3, [.int 0, .ref e0, .int 0]))] := hD
  refine lv_aload_n hx hb dX7_init_26 rfl (lv_at hl 0 rfl) ?_
  refine va_new (D := D) (ci := 3) (fs := [.int 0, .null, .int 0]) (C := RJx4a65c) (T := TJx4a65c) (N := 3) hx hb hts iw_X7_init_Jx4a65c tyJx4a65c tyJx4a65c_ok hown (hts (.classLink RX7 9 RJx4a65c) (by decide +kernel)) (hts (.instantiable RJx4a65c 3) (by decide +kernel)) (hts (.initialized RJx4a65c) (by decide +kernel)) hK hP hD hS hA rfl (fun j hj => by rcases (show j = 0 ∨ j = 1 ∨ j = 2 by omega) with rfl | rfl | rfl <;> rfl) (Nat.le_of_ble_eq_true rfl) (Nat.le_of_ble_eq_true rfl) dX7_init_27 (fun q27_3 H hP hD hS => ?_)
  have hP : va_P D vwCl [(h0, .inr (11, [.ref q5_1, .ref q16_2, .null])), (q5_1, .inr (3, [.int 0, .ref e0, .int 0])), (q16_2, .inr (3, [.int 0, .ref e0, .int 0])), (q27_3, .inr (3, [.int 0, .null, .int 0]))] H := hP
  have hD : va_D A [(h0, .inr (11, [.ref q5_1, .ref q16_2, .null])), (q5_1, .inr (3, [.int 0, .ref e0, .int 0])), (q16_2, .inr (3, [.int 0, .ref e0, .int 0])), (q27_3, .inr (3, [.int 0, .null, .int 0]))] := hD
  refine lv_dup hx hb dX7_init_30 rfl ?_
  refine ov_callI hx hb hml hown hts (c_List_init l e0 D k q27_3) (cwI 0 hts gX7_init_Jx4a65c_init_da8c8 rfl rfl rfl (hts (.initialized RJx4a65c) (by decide +kernel)) (hts (.methodLink RX7 11 yJx4a65c_init_da8c8) (by decide +kernel)) (hts (.instanceMethod yJx4a65c_init_da8c8) (by decide +kernel)) rfl (by decide +kernel) ⟨Nat.le_of_ble_eq_true rfl, Nat.le_of_ble_eq_true rfl⟩) hK hP hD hS hA hE [3] [0, 1, 2] rfl rfl (by decide) (by decide) (by decide) (wr := [(h0, .inr (11, [.ref q5_1, .ref q16_2, .null])), (q5_1, .inr (3, [.int 0, .ref e0, .int 0])), (q16_2, .inr (3, [.int 0, .ref e0, .int 0]))]) (w2 := fun u => [(h0, .inr (11, [.ref q5_1, .ref q16_2, .null])), (q5_1, .inr (3, [.int 0, .ref e0, .int 0])), (q16_2, .inr (3, [.int 0, .ref e0, .int 0])), (q27_3, .inr (3, [.int 0, .ref e0, .int 0]))]) (fun _ => rfl) hl.1 rfl (Nat.le_of_ble_eq_true rfl) rfl ⟨Nat.le_of_ble_eq_true rfl, Nat.le_of_ble_eq_true rfl⟩ dX7_init_31 (fun u H locs hq hP hD hS => ?_)
  have hP : va_P D vwCl [(h0, .inr (11, [.ref q5_1, .ref q16_2, .null])), (q5_1, .inr (3, [.int 0, .ref e0, .int 0])), (q16_2, .inr (3, [.int 0, .ref e0, .int 0])), (q27_3, .inr (3, [.int 0, .ref e0, .int 0]))] H := hP
  have hD : va_D A [(h0, .inr (11, [.ref q5_1, .ref q16_2, .null])), (q5_1, .inr (3, [.int 0, .ref e0, .int 0])), (q16_2, .inr (3, [.int 0, .ref e0, .int 0])), (q27_3, .inr (3, [.int 0, .ref e0, .int 0]))] := hD
  refine va_putF (D := D) (ci := 11) (v := .ref q27_3) (ty := (tyX7 2)) (C := RX7) (T := TX7) (N := 3) hx hb hts iw_X7_init_X7 tyX7 tyX7_ok nmX7 hown hK hP hD hS 0 rfl rfl 2 (by decide) (hts (.fieldLink RX7 21 "ModedMill$Program" "clauses" "Ljava/util/ArrayList;") (by decide +kernel)) (fun _ h9 => h9) rfl hin rfl (by decide +kernel) rfl rfl (Nat.le_of_ble_eq_true rfl) dX7_init_34 (fun H locs hP hD hS => ?_)
  have hP : va_P D vwCl [(h0, .inr (11, [.ref q5_1, .ref q16_2, .ref q27_3])), (q5_1, .inr (3, [.int 0, .ref e0, .int 0])), (q16_2, .inr (3, [.int 0, .ref e0, .int 0])), (q27_3, .inr (3, [.int 0, .ref e0, .int 0]))] H := hP
  have hD : va_D A [(h0, .inr (11, [.ref q5_1, .ref q16_2, .ref q27_3])), (q5_1, .inr (3, [.int 0, .ref e0, .int 0])), (q16_2, .inr (3, [.int 0, .ref e0, .int 0])), (q27_3, .inr (3, [.int 0, .ref e0, .int 0]))] := hD
  exact ov_ret hx hb hr hlocks (q5_1, q16_2, q27_3) (trivial) hK (hP.sub [0, 1, 2, 3] rfl) (hD.sub [0, 1, 2, 3] (by decide) rfl) hS (Nat.le_of_ble_eq_true rfl) (Nat.le_of_ble_eq_true rfl) dX7_init_37
theorem iw_X8_init_X8 : ∀ w ∈ wsX80, w ∈ wsX8_init := by decide +kernel
theorem iw_X8_init_X9 : ∀ w ∈ wsX90, w ∈ wsX8_init := by decide +kernel
set_option maxHeartbeats 4000000 in
set_option maxRecDepth 100000 in
/-- Report() -/
theorem c_Report_init (l : Launch) (e0 : Nat) (D : va_G) (k : Nat → ClassId) (h0 : Nat) : oCv l e0 D (oTy k) yX8_init wsX8_init ({ frames := 2, cells := 6, slots := 322, locals := 42 } : Room) [.ref h0] [(h0, .inr (12, [.null, .null, .null, .null, .int 0, .int 0, .int 0, .int 0, .int 0, .int 0]))] (S := Nat × Nat × Nat × Nat × Nat × Nat) (fun (u : Nat × Nat × Nat × Nat × Nat × Nat) => True) (fun u => [(h0, .inr (12, [.null, .ref u.1, .ref u.2.2.1, .ref u.2.2.2.2.1, .int 0, .int 0, .int 0, .int 101, .int 0, .int 0])), (u.1, .inr (13, [.int 1, .ref u.2.1, .int 0])), (u.2.1, .inl ((k 0), 3, .inl (fun _ => 0))), (u.2.2.1, .inr (13, [.int 3, .ref u.2.2.2.1, .int 0])), (u.2.2.2.1, .inl ((k 0), 150, .inl (fun _ => 0))), (u.2.2.2.2.1, .inr (13, [.int 2, .ref u.2.2.2.2.2, .int 0])), (u.2.2.2.2.2, .inl ((k 0), 160, .inl (fun _ => 0)))]) 6 322 := by
  refine ov_of (cc := cX8_init) (maxL := 1) (ret := none) (by decide +kernel) rfl (Nat.le_of_ble_eq_true rfl) ?_
  intro p e s m below meth c A ls hx hb hml hr hts hown hlocks hin hA hK hP hD hS hE hl
  have hl : lv_has ls 1 [(0, .ref h0)] := hl
  refine lv_aload_n hx hb dX8_init_0 rfl (lv_at hl 0 rfl) ?_
  refine W.objInit hx hb hown (hts (.methodLink RX8 3 objectInit) (by decide +kernel)) (hts (.instanceMethod objectInit) (by decide +kernel)) (hts (.code objectInit ⟨#[0xb1]⟩ 1 none) (by decide +kernel)) rfl (by rw [hml]; exact hl.1) rfl dX8_init_1 (Nat.le_of_ble_eq_true rfl) (Nat.le_of_ble_eq_true rfl) ?_
  refine W.eq (g2 := F0 m 4 ls []) rfl ?_
  refine lv_aload_n hx hb dX8_init_4 rfl (lv_at hl 0 rfl) ?_
  refine lv_null hx hb dX8_init_5 ?_
  refine va_put (D := D) (ci := 12) (v := .null) (ty := (tyX8 0)) (C := RX8) (T := TX8) (N := 10) hx hb hts iw_X8_init_X8 tyX8 tyX8_ok nmX8 hown hK hP hD hS 0 rfl rfl 0 (by decide) (hts (.fieldLink RX8 9 "ModedMill$Report" "mode" "LModedMill$Mode;") (by decide +kernel)) (fun _ h9 => h9) rfl (by decide +kernel) rfl rfl (Nat.le_of_ble_eq_true rfl) dX8_init_6 (fun H locs hP hD hS => ?_)
  have hP : va_P D vwCl [(h0, .inr (12, [.null, .null, .null, .null, .int 0, .int 0, .int 0, .int 0, .int 0, .int 0]))] H := hP
  have hD : va_D A [(h0, .inr (12, [.null, .null, .null, .null, .int 0, .int 0, .int 0, .int 0, .int 0, .int 0]))] := hD
  refine lv_aload_n hx hb dX8_init_9 rfl (lv_at hl 0 rfl) ?_
  refine va_new (D := D) (ci := 13) (fs := [.int 0, .null, .int 0]) (C := RX9) (T := TX9) (N := 3) hx hb hts iw_X8_init_X9 tyX9 tyX9_ok hown (hts (.classLink RX8 15 RX9) (by decide +kernel)) (hts (.instantiable RX9 3) (by decide +kernel)) (hts (.initialized RX9) (by decide +kernel)) hK hP hD hS hA rfl (fun j hj => by rcases (show j = 0 ∨ j = 1 ∨ j = 2 by omega) with rfl | rfl | rfl <;> rfl) (Nat.le_of_ble_eq_true rfl) (Nat.le_of_ble_eq_true rfl) dX8_init_10 (fun q10_1 H hP hD hS => ?_)
  have hP : va_P D vwCl [(h0, .inr (12, [.null, .null, .null, .null, .int 0, .int 0, .int 0, .int 0, .int 0, .int 0])), (q10_1, .inr (13, [.int 0, .null, .int 0]))] H := hP
  have hD : va_D A [(h0, .inr (12, [.null, .null, .null, .null, .int 0, .int 0, .int 0, .int 0, .int 0, .int 0])), (q10_1, .inr (13, [.int 0, .null, .int 0]))] := hD
  refine lv_dup hx hb dX8_init_13 rfl ?_
  refine lv_iconst (v := 1) hx hb dX8_init_14 (by decide) ?_
  refine lv_iconst (v := 3) hx hb dX8_init_15 (by decide) ?_
  refine ov_callI hx hb hml hown hts (c_Table_init_1_3 l e0 D k q10_1) (cwI 2 hts gX8_init_X9_init rfl rfl rfl (hts (.initialized RX9) (by decide +kernel)) (hts (.methodLink RX8 17 yX9_init) (by decide +kernel)) (hts (.instanceMethod yX9_init) (by decide +kernel)) rfl (by decide +kernel) ⟨Nat.le_of_ble_eq_true rfl, Nat.le_of_ble_eq_true rfl⟩) hK hP hD hS hA hE [1] [0] rfl rfl (by decide) (by decide) (by decide) (wr := [(h0, .inr (12, [.null, .null, .null, .null, .int 0, .int 0, .int 0, .int 0, .int 0, .int 0]))]) (w2 := fun u => [(h0, .inr (12, [.null, .null, .null, .null, .int 0, .int 0, .int 0, .int 0, .int 0, .int 0])), (q10_1, .inr (13, [.int 1, .ref u, .int 0])), (u, .inl ((k 0), 3, .inl (fun _ => 0)))]) (fun _ => rfl) hl.1 rfl (Nat.le_of_ble_eq_true rfl) rfl ⟨Nat.le_of_ble_eq_true rfl, Nat.le_of_ble_eq_true rfl⟩ dX8_init_16 (fun u H locs hq hP hD hS => ?_)
  obtain ⟨q1_16, hu9⟩ : ∃ z, z = u := ⟨_, rfl⟩; subst hu9
  have hP : va_P D vwCl [(h0, .inr (12, [.null, .null, .null, .null, .int 0, .int 0, .int 0, .int 0, .int 0, .int 0])), (q10_1, .inr (13, [.int 1, .ref q1_16, .int 0])), (q1_16, .inl ((k 0), 3, .inl (fun _ => 0)))] H := hP
  have hD : va_D A [(h0, .inr (12, [.null, .null, .null, .null, .int 0, .int 0, .int 0, .int 0, .int 0, .int 0])), (q10_1, .inr (13, [.int 1, .ref q1_16, .int 0])), (q1_16, .inl ((k 0), 3, .inl (fun _ => 0)))] := hD
  refine va_putF (D := D) (ci := 12) (v := .ref q10_1) (ty := (tyX8 1)) (C := RX8) (T := TX8) (N := 10) hx hb hts iw_X8_init_X8 tyX8 tyX8_ok nmX8 hown hK hP hD hS 0 rfl rfl 1 (by decide) (hts (.fieldLink RX8 20 "ModedMill$Report" "inputs" "LModedMill$Table;") (by decide +kernel)) (fun _ h9 => h9) rfl hin rfl (by decide +kernel) rfl rfl (Nat.le_of_ble_eq_true rfl) dX8_init_19 (fun H locs hP hD hS => ?_)
  have hP : va_P D vwCl [(h0, .inr (12, [.null, .ref q10_1, .null, .null, .int 0, .int 0, .int 0, .int 0, .int 0, .int 0])), (q10_1, .inr (13, [.int 1, .ref q1_16, .int 0])), (q1_16, .inl ((k 0), 3, .inl (fun _ => 0)))] H := hP
  have hD : va_D A [(h0, .inr (12, [.null, .ref q10_1, .null, .null, .int 0, .int 0, .int 0, .int 0, .int 0, .int 0])), (q10_1, .inr (13, [.int 1, .ref q1_16, .int 0])), (q1_16, .inl ((k 0), 3, .inl (fun _ => 0)))] := hD
  refine lv_aload_n hx hb dX8_init_22 rfl (lv_at hl 0 rfl) ?_
  refine va_new (D := D) (ci := 13) (fs := [.int 0, .null, .int 0]) (C := RX9) (T := TX9) (N := 3) hx hb hts iw_X8_init_X9 tyX9 tyX9_ok hown (hts (.classLink RX8 15 RX9) (by decide +kernel)) (hts (.instantiable RX9 3) (by decide +kernel)) (hts (.initialized RX9) (by decide +kernel)) hK hP hD hS hA rfl (fun j hj => by rcases (show j = 0 ∨ j = 1 ∨ j = 2 by omega) with rfl | rfl | rfl <;> rfl) (Nat.le_of_ble_eq_true rfl) (Nat.le_of_ble_eq_true rfl) dX8_init_23 (fun q23_2 H hP hD hS => ?_)
  have hP : va_P D vwCl [(h0, .inr (12, [.null, .ref q10_1, .null, .null, .int 0, .int 0, .int 0, .int 0, .int 0, .int 0])), (q10_1, .inr (13, [.int 1, .ref q1_16, .int 0])), (q1_16, .inl ((k 0), 3, .inl (fun _ => 0))), (q23_2, .inr (13, [.int 0, .null, .int 0]))] H := hP
  have hD : va_D A [(h0, .inr (12, [.null, .ref q10_1, .null, .null, .int 0, .int 0, .int 0, .int 0, .int 0, .int 0])), (q10_1, .inr (13, [.int 1, .ref q1_16, .int 0])), (q1_16, .inl ((k 0), 3, .inl (fun _ => 0))), (q23_2, .inr (13, [.int 0, .null, .int 0]))] := hD
  refine lv_dup hx hb dX8_init_26 rfl ?_
  refine lv_iconst (v := 3) hx hb dX8_init_27 (by decide) ?_
  refine lv_bipush (v := 50) hx hb dX8_init_28 (by decide) ?_
  refine ov_callI hx hb hml hown hts (c_Table_init_3_50 l e0 D k q23_2) (cwI 2 hts gX8_init_X9_init rfl rfl rfl (hts (.initialized RX9) (by decide +kernel)) (hts (.methodLink RX8 17 yX9_init) (by decide +kernel)) (hts (.instanceMethod yX9_init) (by decide +kernel)) rfl (by decide +kernel) ⟨Nat.le_of_ble_eq_true rfl, Nat.le_of_ble_eq_true rfl⟩) hK hP hD hS hA hE [3] [0, 1, 2] rfl rfl (by decide) (by decide) (by decide) (wr := [(h0, .inr (12, [.null, .ref q10_1, .null, .null, .int 0, .int 0, .int 0, .int 0, .int 0, .int 0])), (q10_1, .inr (13, [.int 1, .ref q1_16, .int 0])), (q1_16, .inl ((k 0), 3, .inl (fun _ => 0)))]) (w2 := fun u => [(h0, .inr (12, [.null, .ref q10_1, .null, .null, .int 0, .int 0, .int 0, .int 0, .int 0, .int 0])), (q10_1, .inr (13, [.int 1, .ref q1_16, .int 0])), (q1_16, .inl ((k 0), 3, .inl (fun _ => 0))), (q23_2, .inr (13, [.int 3, .ref u, .int 0])), (u, .inl ((k 0), 150, .inl (fun _ => 0)))]) (fun _ => rfl) hl.1 rfl (Nat.le_of_ble_eq_true rfl) rfl ⟨Nat.le_of_ble_eq_true rfl, Nat.le_of_ble_eq_true rfl⟩ dX8_init_30 (fun u H locs hq hP hD hS => ?_)
  obtain ⟨q1_30, hu9⟩ : ∃ z, z = u := ⟨_, rfl⟩; subst hu9
  have hP : va_P D vwCl [(h0, .inr (12, [.null, .ref q10_1, .null, .null, .int 0, .int 0, .int 0, .int 0, .int 0, .int 0])), (q10_1, .inr (13, [.int 1, .ref q1_16, .int 0])), (q1_16, .inl ((k 0), 3, .inl (fun _ => 0))), (q23_2, .inr (13, [.int 3, .ref q1_30, .int 0])), (q1_30, .inl ((k 0), 150, .inl (fun _ => 0)))] H := hP
  have hD : va_D A [(h0, .inr (12, [.null, .ref q10_1, .null, .null, .int 0, .int 0, .int 0, .int 0, .int 0, .int 0])), (q10_1, .inr (13, [.int 1, .ref q1_16, .int 0])), (q1_16, .inl ((k 0), 3, .inl (fun _ => 0))), (q23_2, .inr (13, [.int 3, .ref q1_30, .int 0])), (q1_30, .inl ((k 0), 150, .inl (fun _ => 0)))] := hD
  refine va_putF (D := D) (ci := 12) (v := .ref q23_2) (ty := (tyX8 2)) (C := RX8) (T := TX8) (N := 10) hx hb hts iw_X8_init_X8 tyX8 tyX8_ok nmX8 hown hK hP hD hS 0 rfl rfl 2 (by decide) (hts (.fieldLink RX8 24 "ModedMill$Report" "answers" "LModedMill$Table;") (by decide +kernel)) (fun _ h9 => h9) rfl hin rfl (by decide +kernel) rfl rfl (Nat.le_of_ble_eq_true rfl) dX8_init_33 (fun H locs hP hD hS => ?_)
  have hP : va_P D vwCl [(h0, .inr (12, [.null, .ref q10_1, .ref q23_2, .null, .int 0, .int 0, .int 0, .int 0, .int 0, .int 0])), (q10_1, .inr (13, [.int 1, .ref q1_16, .int 0])), (q1_16, .inl ((k 0), 3, .inl (fun _ => 0))), (q23_2, .inr (13, [.int 3, .ref q1_30, .int 0])), (q1_30, .inl ((k 0), 150, .inl (fun _ => 0)))] H := hP
  have hD : va_D A [(h0, .inr (12, [.null, .ref q10_1, .ref q23_2, .null, .int 0, .int 0, .int 0, .int 0, .int 0, .int 0])), (q10_1, .inr (13, [.int 1, .ref q1_16, .int 0])), (q1_16, .inl ((k 0), 3, .inl (fun _ => 0))), (q23_2, .inr (13, [.int 3, .ref q1_30, .int 0])), (q1_30, .inl ((k 0), 150, .inl (fun _ => 0)))] := hD
  refine lv_aload_n hx hb dX8_init_36 rfl (lv_at hl 0 rfl) ?_
  refine va_new (D := D) (ci := 13) (fs := [.int 0, .null, .int 0]) (C := RX9) (T := TX9) (N := 3) hx hb hts iw_X8_init_X9 tyX9 tyX9_ok hown (hts (.classLink RX8 15 RX9) (by decide +kernel)) (hts (.instantiable RX9 3) (by decide +kernel)) (hts (.initialized RX9) (by decide +kernel)) hK hP hD hS hA rfl (fun j hj => by rcases (show j = 0 ∨ j = 1 ∨ j = 2 by omega) with rfl | rfl | rfl <;> rfl) (Nat.le_of_ble_eq_true rfl) (Nat.le_of_ble_eq_true rfl) dX8_init_37 (fun q37_3 H hP hD hS => ?_)
  have hP : va_P D vwCl [(h0, .inr (12, [.null, .ref q10_1, .ref q23_2, .null, .int 0, .int 0, .int 0, .int 0, .int 0, .int 0])), (q10_1, .inr (13, [.int 1, .ref q1_16, .int 0])), (q1_16, .inl ((k 0), 3, .inl (fun _ => 0))), (q23_2, .inr (13, [.int 3, .ref q1_30, .int 0])), (q1_30, .inl ((k 0), 150, .inl (fun _ => 0))), (q37_3, .inr (13, [.int 0, .null, .int 0]))] H := hP
  have hD : va_D A [(h0, .inr (12, [.null, .ref q10_1, .ref q23_2, .null, .int 0, .int 0, .int 0, .int 0, .int 0, .int 0])), (q10_1, .inr (13, [.int 1, .ref q1_16, .int 0])), (q1_16, .inl ((k 0), 3, .inl (fun _ => 0))), (q23_2, .inr (13, [.int 3, .ref q1_30, .int 0])), (q1_30, .inl ((k 0), 150, .inl (fun _ => 0))), (q37_3, .inr (13, [.int 0, .null, .int 0]))] := hD
  refine lv_dup hx hb dX8_init_40 rfl ?_
  refine lv_iconst (v := 2) hx hb dX8_init_41 (by decide) ?_
  refine lv_bipush (v := 80) hx hb dX8_init_42 (by decide) ?_
  refine ov_callI hx hb hml hown hts (c_Table_init_2_80 l e0 D k q37_3) (cwI 2 hts gX8_init_X9_init rfl rfl rfl (hts (.initialized RX9) (by decide +kernel)) (hts (.methodLink RX8 17 yX9_init) (by decide +kernel)) (hts (.instanceMethod yX9_init) (by decide +kernel)) rfl (by decide +kernel) ⟨Nat.le_of_ble_eq_true rfl, Nat.le_of_ble_eq_true rfl⟩) hK hP hD hS hA hE [5] [0, 1, 2, 3, 4] rfl rfl (by decide) (by decide) (by decide) (wr := [(h0, .inr (12, [.null, .ref q10_1, .ref q23_2, .null, .int 0, .int 0, .int 0, .int 0, .int 0, .int 0])), (q10_1, .inr (13, [.int 1, .ref q1_16, .int 0])), (q1_16, .inl ((k 0), 3, .inl (fun _ => 0))), (q23_2, .inr (13, [.int 3, .ref q1_30, .int 0])), (q1_30, .inl ((k 0), 150, .inl (fun _ => 0)))]) (w2 := fun u => [(h0, .inr (12, [.null, .ref q10_1, .ref q23_2, .null, .int 0, .int 0, .int 0, .int 0, .int 0, .int 0])), (q10_1, .inr (13, [.int 1, .ref q1_16, .int 0])), (q1_16, .inl ((k 0), 3, .inl (fun _ => 0))), (q23_2, .inr (13, [.int 3, .ref q1_30, .int 0])), (q1_30, .inl ((k 0), 150, .inl (fun _ => 0))), (q37_3, .inr (13, [.int 2, .ref u, .int 0])), (u, .inl ((k 0), 160, .inl (fun _ => 0)))]) (fun _ => rfl) hl.1 rfl (Nat.le_of_ble_eq_true rfl) rfl ⟨Nat.le_of_ble_eq_true rfl, Nat.le_of_ble_eq_true rfl⟩ dX8_init_44 (fun u H locs hq hP hD hS => ?_)
  obtain ⟨q1_44, hu9⟩ : ∃ z, z = u := ⟨_, rfl⟩; subst hu9
  have hP : va_P D vwCl [(h0, .inr (12, [.null, .ref q10_1, .ref q23_2, .null, .int 0, .int 0, .int 0, .int 0, .int 0, .int 0])), (q10_1, .inr (13, [.int 1, .ref q1_16, .int 0])), (q1_16, .inl ((k 0), 3, .inl (fun _ => 0))), (q23_2, .inr (13, [.int 3, .ref q1_30, .int 0])), (q1_30, .inl ((k 0), 150, .inl (fun _ => 0))), (q37_3, .inr (13, [.int 2, .ref q1_44, .int 0])), (q1_44, .inl ((k 0), 160, .inl (fun _ => 0)))] H := hP
  have hD : va_D A [(h0, .inr (12, [.null, .ref q10_1, .ref q23_2, .null, .int 0, .int 0, .int 0, .int 0, .int 0, .int 0])), (q10_1, .inr (13, [.int 1, .ref q1_16, .int 0])), (q1_16, .inl ((k 0), 3, .inl (fun _ => 0))), (q23_2, .inr (13, [.int 3, .ref q1_30, .int 0])), (q1_30, .inl ((k 0), 150, .inl (fun _ => 0))), (q37_3, .inr (13, [.int 2, .ref q1_44, .int 0])), (q1_44, .inl ((k 0), 160, .inl (fun _ => 0)))] := hD
  refine va_putF (D := D) (ci := 12) (v := .ref q37_3) (ty := (tyX8 3)) (C := RX8) (T := TX8) (N := 10) hx hb hts iw_X8_init_X8 tyX8 tyX8_ok nmX8 hown hK hP hD hS 0 rfl rfl 3 (by decide) (hts (.fieldLink RX8 27 "ModedMill$Report" "notes" "LModedMill$Table;") (by decide +kernel)) (fun _ h9 => h9) rfl hin rfl (by decide +kernel) rfl rfl (Nat.le_of_ble_eq_true rfl) dX8_init_47 (fun H locs hP hD hS => ?_)
  have hP : va_P D vwCl [(h0, .inr (12, [.null, .ref q10_1, .ref q23_2, .ref q37_3, .int 0, .int 0, .int 0, .int 0, .int 0, .int 0])), (q10_1, .inr (13, [.int 1, .ref q1_16, .int 0])), (q1_16, .inl ((k 0), 3, .inl (fun _ => 0))), (q23_2, .inr (13, [.int 3, .ref q1_30, .int 0])), (q1_30, .inl ((k 0), 150, .inl (fun _ => 0))), (q37_3, .inr (13, [.int 2, .ref q1_44, .int 0])), (q1_44, .inl ((k 0), 160, .inl (fun _ => 0)))] H := hP
  have hD : va_D A [(h0, .inr (12, [.null, .ref q10_1, .ref q23_2, .ref q37_3, .int 0, .int 0, .int 0, .int 0, .int 0, .int 0])), (q10_1, .inr (13, [.int 1, .ref q1_16, .int 0])), (q1_16, .inl ((k 0), 3, .inl (fun _ => 0))), (q23_2, .inr (13, [.int 3, .ref q1_30, .int 0])), (q1_30, .inl ((k 0), 150, .inl (fun _ => 0))), (q37_3, .inr (13, [.int 2, .ref q1_44, .int 0])), (q1_44, .inl ((k 0), 160, .inl (fun _ => 0)))] := hD
  refine lv_aload_n hx hb dX8_init_50 rfl (lv_at hl 0 rfl) ?_
  refine lv_bipush (v := 101) hx hb dX8_init_51 (by decide) ?_
  refine va_put (D := D) (ci := 12) (v := .int 101) (ty := .char) (C := RX8) (T := TX8) (N := 10) hx hb hts iw_X8_init_X8 tyX8 tyX8_ok nmX8 hown hK hP hD hS 0 rfl rfl 7 (by decide) (hts (.fieldLink RX8 30 "ModedMill$Report" "end" "C") (by decide +kernel)) (fun _ h9 => h9) rfl (by decide +kernel) (by decide +kernel) (by decide +kernel) (Nat.le_of_ble_eq_true rfl) dX8_init_53 (fun H locs hP hD hS => ?_)
  have hP : va_P D vwCl [(h0, .inr (12, [.null, .ref q10_1, .ref q23_2, .ref q37_3, .int 0, .int 0, .int 0, .int 101, .int 0, .int 0])), (q10_1, .inr (13, [.int 1, .ref q1_16, .int 0])), (q1_16, .inl ((k 0), 3, .inl (fun _ => 0))), (q23_2, .inr (13, [.int 3, .ref q1_30, .int 0])), (q1_30, .inl ((k 0), 150, .inl (fun _ => 0))), (q37_3, .inr (13, [.int 2, .ref q1_44, .int 0])), (q1_44, .inl ((k 0), 160, .inl (fun _ => 0)))] H := hP
  have hD : va_D A [(h0, .inr (12, [.null, .ref q10_1, .ref q23_2, .ref q37_3, .int 0, .int 0, .int 0, .int 101, .int 0, .int 0])), (q10_1, .inr (13, [.int 1, .ref q1_16, .int 0])), (q1_16, .inl ((k 0), 3, .inl (fun _ => 0))), (q23_2, .inr (13, [.int 3, .ref q1_30, .int 0])), (q1_30, .inl ((k 0), 150, .inl (fun _ => 0))), (q37_3, .inr (13, [.int 2, .ref q1_44, .int 0])), (q1_44, .inl ((k 0), 160, .inl (fun _ => 0)))] := hD
  exact ov_ret hx hb hr hlocks (q10_1, q1_16, q23_2, q1_30, q37_3, q1_44) (trivial) hK (hP.sub [0, 1, 2, 3, 4, 5, 6] rfl) (hD.sub [0, 1, 2, 3, 4, 5, 6] (by decide) rfl) hS (Nat.le_of_ble_eq_true rfl) (Nat.le_of_ble_eq_true rfl) dX8_init_56
theorem iw_X4_init_Jx4a65c : ∀ w ∈ wsJx4a65c0, w ∈ wsX4_init := by decide +kernel
theorem iw_X4_init_X4 : ∀ w ∈ wsX40, w ∈ wsX4_init := by decide +kernel
theorem iw_X4_init_X9 : ∀ w ∈ wsX90, w ∈ wsX4_init := by decide +kernel
set_option maxHeartbeats 4000000 in
set_option maxRecDepth 100000 in
/-- Machine(terms, report) -/
theorem c_Machine_init (l : Launch) (e0 : Nat) (D : va_G) (k : Nat → ClassId) (h0 : Nat) (st : Nat) (rp : Nat) : oCv l e0 D (oTy k) yX4_init wsX4_init ({ frames := 4, cells := 5, slots := 159, locals := 80 } : Room) [.ref h0, .ref st, .ref rp] [(h0, .inr (8, [.null, .null, .null, .null, .null, .int 0, .null, .int 0, .null, .int 0, .int 0, .int 0]))] (S := Nat × Nat × Nat × Nat × Nat) (fun (u : Nat × Nat × Nat × Nat × Nat) => True) (fun u => [(h0, .inr (8, [.ref st, .ref u.1, .ref u.2.1, .ref u.2.2.2.1, .ref rp, .int 0, .null, .int 0, .null, .int 0, .int 0, .int 0])), (u.1, .inr (3, [.int 0, .ref e0, .int 0])), (u.2.1, .inr (13, [.int 3, .ref u.2.2.1, .int 0])), (u.2.2.1, .inl ((k 0), 90, .inl (fun _ => 0))), (u.2.2.2.1, .inr (13, [.int 2, .ref u.2.2.2.2, .int 0])), (u.2.2.2.2, .inl ((k 0), 60, .inl (fun _ => 0)))]) 5 159 := by
  refine ov_of (cc := cX4_init) (maxL := 3) (ret := none) (by decide +kernel) rfl (Nat.le_of_ble_eq_true rfl) ?_
  intro p e s m below meth c A ls hx hb hml hr hts hown hlocks hin hA hK hP hD hS hE hl
  have hl : lv_has ls 3 [(0, .ref h0), (1, .ref st), (2, .ref rp)] := hl
  refine lv_aload_n hx hb dX4_init_0 rfl (lv_at hl 0 rfl) ?_
  refine W.objInit hx hb hown (hts (.methodLink RX4 3 objectInit) (by decide +kernel)) (hts (.instanceMethod objectInit) (by decide +kernel)) (hts (.code objectInit ⟨#[0xb1]⟩ 1 none) (by decide +kernel)) rfl (by rw [hml]; exact hl.1) rfl dX4_init_1 (Nat.le_of_ble_eq_true rfl) (Nat.le_of_ble_eq_true rfl) ?_
  refine W.eq (g2 := F0 m 4 ls []) rfl ?_
  refine lv_aload_n hx hb dX4_init_4 rfl (lv_at hl 0 rfl) ?_
  refine lv_aload_n hx hb dX4_init_5 rfl (lv_at hl 1 rfl) ?_
  refine va_putF (D := D) (ci := 8) (v := .ref st) (ty := (tyX4 0)) (C := RX4) (T := TX4) (N := 12) hx hb hts iw_X4_init_X4 tyX4 tyX4_ok nmX4 hown hK hP hD hS 0 rfl rfl 0 (by decide) (hts (.fieldLink RX4 9 "ModedMill$Machine" "store" "LModedMill$Terms;") (by decide +kernel)) (fun _ h9 => h9) rfl hin rfl (by decide +kernel) rfl rfl (Nat.le_of_ble_eq_true rfl) dX4_init_6 (fun H locs hP hD hS => ?_)
  have hP : va_P D vwCl [(h0, .inr (8, [.ref st, .null, .null, .null, .null, .int 0, .null, .int 0, .null, .int 0, .int 0, .int 0]))] H := hP
  have hD : va_D A [(h0, .inr (8, [.ref st, .null, .null, .null, .null, .int 0, .null, .int 0, .null, .int 0, .int 0, .int 0]))] := hD
  refine lv_aload_n hx hb dX4_init_9 rfl (lv_at hl 0 rfl) ?_
  refine lv_aload_n hx hb dX4_init_10 rfl (lv_at hl 2 rfl) ?_
  refine va_put (D := D) (ci := 8) (v := .ref rp) (ty := (tyX4 4)) (C := RX4) (T := TX4) (N := 12) hx hb hts iw_X4_init_X4 tyX4 tyX4_ok nmX4 hown hK hP hD hS 0 rfl rfl 4 (by decide) (hts (.fieldLink RX4 15 "ModedMill$Machine" "report" "LModedMill$Report;") (by decide +kernel)) (fun _ h9 => h9) rfl (by decide +kernel) rfl rfl (Nat.le_of_ble_eq_true rfl) dX4_init_11 (fun H locs hP hD hS => ?_)
  have hP : va_P D vwCl [(h0, .inr (8, [.ref st, .null, .null, .null, .ref rp, .int 0, .null, .int 0, .null, .int 0, .int 0, .int 0]))] H := hP
  have hD : va_D A [(h0, .inr (8, [.ref st, .null, .null, .null, .ref rp, .int 0, .null, .int 0, .null, .int 0, .int 0, .int 0]))] := hD
  refine lv_aload_n hx hb dX4_init_14 rfl (lv_at hl 0 rfl) ?_
  refine va_new (D := D) (ci := 3) (fs := [.int 0, .null, .int 0]) (C := RJx4a65c) (T := TJx4a65c) (N := 3) hx hb hts iw_X4_init_Jx4a65c tyJx4a65c tyJx4a65c_ok hown (hts (.classLink RX4 19 RJx4a65c) (by decide +kernel)) (hts (.instantiable RJx4a65c 3) (by decide +kernel)) (hts (.initialized RJx4a65c) (by decide +kernel)) hK hP hD hS hA rfl (fun j hj => by rcases (show j = 0 ∨ j = 1 ∨ j = 2 by omega) with rfl | rfl | rfl <;> rfl) (Nat.le_of_ble_eq_true rfl) (Nat.le_of_ble_eq_true rfl) dX4_init_15 (fun q15_1 H hP hD hS => ?_)
  have hP : va_P D vwCl [(h0, .inr (8, [.ref st, .null, .null, .null, .ref rp, .int 0, .null, .int 0, .null, .int 0, .int 0, .int 0])), (q15_1, .inr (3, [.int 0, .null, .int 0]))] H := hP
  have hD : va_D A [(h0, .inr (8, [.ref st, .null, .null, .null, .ref rp, .int 0, .null, .int 0, .null, .int 0, .int 0, .int 0])), (q15_1, .inr (3, [.int 0, .null, .int 0]))] := hD
  refine lv_dup hx hb dX4_init_18 rfl ?_
  refine ov_callI hx hb hml hown hts (c_List_init l e0 D k q15_1) (cwI 0 hts gX4_init_Jx4a65c_init_da8c8 rfl rfl rfl (hts (.initialized RJx4a65c) (by decide +kernel)) (hts (.methodLink RX4 21 yJx4a65c_init_da8c8) (by decide +kernel)) (hts (.instanceMethod yJx4a65c_init_da8c8) (by decide +kernel)) rfl (by decide +kernel) ⟨Nat.le_of_ble_eq_true rfl, Nat.le_of_ble_eq_true rfl⟩) hK hP hD hS hA hE [1] [0] rfl rfl (by decide) (by decide) (by decide) (wr := [(h0, .inr (8, [.ref st, .null, .null, .null, .ref rp, .int 0, .null, .int 0, .null, .int 0, .int 0, .int 0]))]) (w2 := fun u => [(h0, .inr (8, [.ref st, .null, .null, .null, .ref rp, .int 0, .null, .int 0, .null, .int 0, .int 0, .int 0])), (q15_1, .inr (3, [.int 0, .ref e0, .int 0]))]) (fun _ => rfl) hl.1 rfl (Nat.le_of_ble_eq_true rfl) rfl ⟨Nat.le_of_ble_eq_true rfl, Nat.le_of_ble_eq_true rfl⟩ dX4_init_19 (fun u H locs hq hP hD hS => ?_)
  have hP : va_P D vwCl [(h0, .inr (8, [.ref st, .null, .null, .null, .ref rp, .int 0, .null, .int 0, .null, .int 0, .int 0, .int 0])), (q15_1, .inr (3, [.int 0, .ref e0, .int 0]))] H := hP
  have hD : va_D A [(h0, .inr (8, [.ref st, .null, .null, .null, .ref rp, .int 0, .null, .int 0, .null, .int 0, .int 0, .int 0])), (q15_1, .inr (3, [.int 0, .ref e0, .int 0]))] := hD
  refine va_putF (D := D) (ci := 8) (v := .ref q15_1) (ty := (tyX4 1)) (C := RX4) (T := TX4) (N := 12) hx hb hts iw_X4_init_X4 tyX4 tyX4_ok nmX4 hown hK hP hD hS 0 rfl rfl 1 (by decide) (hts (.fieldLink RX4 22 "ModedMill$Machine" "frames" "Ljava/util/ArrayList;") (by decide +kernel)) (fun _ h9 => h9) rfl hin rfl (by decide +kernel) rfl rfl (Nat.le_of_ble_eq_true rfl) dX4_init_22 (fun H locs hP hD hS => ?_)
  have hP : va_P D vwCl [(h0, .inr (8, [.ref st, .ref q15_1, .null, .null, .ref rp, .int 0, .null, .int 0, .null, .int 0, .int 0, .int 0])), (q15_1, .inr (3, [.int 0, .ref e0, .int 0]))] H := hP
  have hD : va_D A [(h0, .inr (8, [.ref st, .ref q15_1, .null, .null, .ref rp, .int 0, .null, .int 0, .null, .int 0, .int 0, .int 0])), (q15_1, .inr (3, [.int 0, .ref e0, .int 0]))] := hD
  refine lv_aload_n hx hb dX4_init_25 rfl (lv_at hl 0 rfl) ?_
  refine va_new (D := D) (ci := 13) (fs := [.int 0, .null, .int 0]) (C := RX9) (T := TX9) (N := 3) hx hb hts iw_X4_init_X9 tyX9 tyX9_ok hown (hts (.classLink RX4 26 RX9) (by decide +kernel)) (hts (.instantiable RX9 3) (by decide +kernel)) (hts (.initialized RX9) (by decide +kernel)) hK hP hD hS hA rfl (fun j hj => by rcases (show j = 0 ∨ j = 1 ∨ j = 2 by omega) with rfl | rfl | rfl <;> rfl) (Nat.le_of_ble_eq_true rfl) (Nat.le_of_ble_eq_true rfl) dX4_init_26 (fun q26_2 H hP hD hS => ?_)
  have hP : va_P D vwCl [(h0, .inr (8, [.ref st, .ref q15_1, .null, .null, .ref rp, .int 0, .null, .int 0, .null, .int 0, .int 0, .int 0])), (q15_1, .inr (3, [.int 0, .ref e0, .int 0])), (q26_2, .inr (13, [.int 0, .null, .int 0]))] H := hP
  have hD : va_D A [(h0, .inr (8, [.ref st, .ref q15_1, .null, .null, .ref rp, .int 0, .null, .int 0, .null, .int 0, .int 0, .int 0])), (q15_1, .inr (3, [.int 0, .ref e0, .int 0])), (q26_2, .inr (13, [.int 0, .null, .int 0]))] := hD
  refine lv_dup hx hb dX4_init_29 rfl ?_
  refine lv_iconst (v := 3) hx hb dX4_init_30 (by decide) ?_
  refine lv_bipush (v := 30) hx hb dX4_init_31 (by decide) ?_
  refine ov_callI hx hb hml hown hts (c_Table_init_3_30 l e0 D k q26_2) (cwI 2 hts gX4_init_X9_init rfl rfl rfl (hts (.initialized RX9) (by decide +kernel)) (hts (.methodLink RX4 28 yX9_init) (by decide +kernel)) (hts (.instanceMethod yX9_init) (by decide +kernel)) rfl (by decide +kernel) ⟨Nat.le_of_ble_eq_true rfl, Nat.le_of_ble_eq_true rfl⟩) hK hP hD hS hA hE [2] [0, 1] rfl rfl (by decide) (by decide) (by decide) (wr := [(h0, .inr (8, [.ref st, .ref q15_1, .null, .null, .ref rp, .int 0, .null, .int 0, .null, .int 0, .int 0, .int 0])), (q15_1, .inr (3, [.int 0, .ref e0, .int 0]))]) (w2 := fun u => [(h0, .inr (8, [.ref st, .ref q15_1, .null, .null, .ref rp, .int 0, .null, .int 0, .null, .int 0, .int 0, .int 0])), (q15_1, .inr (3, [.int 0, .ref e0, .int 0])), (q26_2, .inr (13, [.int 3, .ref u, .int 0])), (u, .inl ((k 0), 90, .inl (fun _ => 0)))]) (fun _ => rfl) hl.1 rfl (Nat.le_of_ble_eq_true rfl) rfl ⟨Nat.le_of_ble_eq_true rfl, Nat.le_of_ble_eq_true rfl⟩ dX4_init_33 (fun u H locs hq hP hD hS => ?_)
  obtain ⟨q1_33, hu9⟩ : ∃ z, z = u := ⟨_, rfl⟩; subst hu9
  have hP : va_P D vwCl [(h0, .inr (8, [.ref st, .ref q15_1, .null, .null, .ref rp, .int 0, .null, .int 0, .null, .int 0, .int 0, .int 0])), (q15_1, .inr (3, [.int 0, .ref e0, .int 0])), (q26_2, .inr (13, [.int 3, .ref q1_33, .int 0])), (q1_33, .inl ((k 0), 90, .inl (fun _ => 0)))] H := hP
  have hD : va_D A [(h0, .inr (8, [.ref st, .ref q15_1, .null, .null, .ref rp, .int 0, .null, .int 0, .null, .int 0, .int 0, .int 0])), (q15_1, .inr (3, [.int 0, .ref e0, .int 0])), (q26_2, .inr (13, [.int 3, .ref q1_33, .int 0])), (q1_33, .inl ((k 0), 90, .inl (fun _ => 0)))] := hD
  refine va_putF (D := D) (ci := 8) (v := .ref q26_2) (ty := (tyX4 2)) (C := RX4) (T := TX4) (N := 12) hx hb hts iw_X4_init_X4 tyX4 tyX4_ok nmX4 hown hK hP hD hS 0 rfl rfl 2 (by decide) (hts (.fieldLink RX4 31 "ModedMill$Machine" "choices" "LModedMill$Table;") (by decide +kernel)) (fun _ h9 => h9) rfl hin rfl (by decide +kernel) rfl rfl (Nat.le_of_ble_eq_true rfl) dX4_init_36 (fun H locs hP hD hS => ?_)
  have hP : va_P D vwCl [(h0, .inr (8, [.ref st, .ref q15_1, .ref q26_2, .null, .ref rp, .int 0, .null, .int 0, .null, .int 0, .int 0, .int 0])), (q15_1, .inr (3, [.int 0, .ref e0, .int 0])), (q26_2, .inr (13, [.int 3, .ref q1_33, .int 0])), (q1_33, .inl ((k 0), 90, .inl (fun _ => 0)))] H := hP
  have hD : va_D A [(h0, .inr (8, [.ref st, .ref q15_1, .ref q26_2, .null, .ref rp, .int 0, .null, .int 0, .null, .int 0, .int 0, .int 0])), (q15_1, .inr (3, [.int 0, .ref e0, .int 0])), (q26_2, .inr (13, [.int 3, .ref q1_33, .int 0])), (q1_33, .inl ((k 0), 90, .inl (fun _ => 0)))] := hD
  refine lv_aload_n hx hb dX4_init_39 rfl (lv_at hl 0 rfl) ?_
  refine va_new (D := D) (ci := 13) (fs := [.int 0, .null, .int 0]) (C := RX9) (T := TX9) (N := 3) hx hb hts iw_X4_init_X9 tyX9 tyX9_ok hown (hts (.classLink RX4 26 RX9) (by decide +kernel)) (hts (.instantiable RX9 3) (by decide +kernel)) (hts (.initialized RX9) (by decide +kernel)) hK hP hD hS hA rfl (fun j hj => by rcases (show j = 0 ∨ j = 1 ∨ j = 2 by omega) with rfl | rfl | rfl <;> rfl) (Nat.le_of_ble_eq_true rfl) (Nat.le_of_ble_eq_true rfl) dX4_init_40 (fun q40_3 H hP hD hS => ?_)
  have hP : va_P D vwCl [(h0, .inr (8, [.ref st, .ref q15_1, .ref q26_2, .null, .ref rp, .int 0, .null, .int 0, .null, .int 0, .int 0, .int 0])), (q15_1, .inr (3, [.int 0, .ref e0, .int 0])), (q26_2, .inr (13, [.int 3, .ref q1_33, .int 0])), (q1_33, .inl ((k 0), 90, .inl (fun _ => 0))), (q40_3, .inr (13, [.int 0, .null, .int 0]))] H := hP
  have hD : va_D A [(h0, .inr (8, [.ref st, .ref q15_1, .ref q26_2, .null, .ref rp, .int 0, .null, .int 0, .null, .int 0, .int 0, .int 0])), (q15_1, .inr (3, [.int 0, .ref e0, .int 0])), (q26_2, .inr (13, [.int 3, .ref q1_33, .int 0])), (q1_33, .inl ((k 0), 90, .inl (fun _ => 0))), (q40_3, .inr (13, [.int 0, .null, .int 0]))] := hD
  refine lv_dup hx hb dX4_init_43 rfl ?_
  refine lv_iconst (v := 2) hx hb dX4_init_44 (by decide) ?_
  refine lv_bipush (v := 30) hx hb dX4_init_45 (by decide) ?_
  refine ov_callI hx hb hml hown hts (c_Table_init_2_30 l e0 D k q40_3) (cwI 2 hts gX4_init_X9_init rfl rfl rfl (hts (.initialized RX9) (by decide +kernel)) (hts (.methodLink RX4 28 yX9_init) (by decide +kernel)) (hts (.instanceMethod yX9_init) (by decide +kernel)) rfl (by decide +kernel) ⟨Nat.le_of_ble_eq_true rfl, Nat.le_of_ble_eq_true rfl⟩) hK hP hD hS hA hE [4] [0, 1, 2, 3] rfl rfl (by decide) (by decide) (by decide) (wr := [(h0, .inr (8, [.ref st, .ref q15_1, .ref q26_2, .null, .ref rp, .int 0, .null, .int 0, .null, .int 0, .int 0, .int 0])), (q15_1, .inr (3, [.int 0, .ref e0, .int 0])), (q26_2, .inr (13, [.int 3, .ref q1_33, .int 0])), (q1_33, .inl ((k 0), 90, .inl (fun _ => 0)))]) (w2 := fun u => [(h0, .inr (8, [.ref st, .ref q15_1, .ref q26_2, .null, .ref rp, .int 0, .null, .int 0, .null, .int 0, .int 0, .int 0])), (q15_1, .inr (3, [.int 0, .ref e0, .int 0])), (q26_2, .inr (13, [.int 3, .ref q1_33, .int 0])), (q1_33, .inl ((k 0), 90, .inl (fun _ => 0))), (q40_3, .inr (13, [.int 2, .ref u, .int 0])), (u, .inl ((k 0), 60, .inl (fun _ => 0)))]) (fun _ => rfl) hl.1 rfl (Nat.le_of_ble_eq_true rfl) rfl ⟨Nat.le_of_ble_eq_true rfl, Nat.le_of_ble_eq_true rfl⟩ dX4_init_47 (fun u H locs hq hP hD hS => ?_)
  obtain ⟨q1_47, hu9⟩ : ∃ z, z = u := ⟨_, rfl⟩; subst hu9
  have hP : va_P D vwCl [(h0, .inr (8, [.ref st, .ref q15_1, .ref q26_2, .null, .ref rp, .int 0, .null, .int 0, .null, .int 0, .int 0, .int 0])), (q15_1, .inr (3, [.int 0, .ref e0, .int 0])), (q26_2, .inr (13, [.int 3, .ref q1_33, .int 0])), (q1_33, .inl ((k 0), 90, .inl (fun _ => 0))), (q40_3, .inr (13, [.int 2, .ref q1_47, .int 0])), (q1_47, .inl ((k 0), 60, .inl (fun _ => 0)))] H := hP
  have hD : va_D A [(h0, .inr (8, [.ref st, .ref q15_1, .ref q26_2, .null, .ref rp, .int 0, .null, .int 0, .null, .int 0, .int 0, .int 0])), (q15_1, .inr (3, [.int 0, .ref e0, .int 0])), (q26_2, .inr (13, [.int 3, .ref q1_33, .int 0])), (q1_33, .inl ((k 0), 90, .inl (fun _ => 0))), (q40_3, .inr (13, [.int 2, .ref q1_47, .int 0])), (q1_47, .inl ((k 0), 60, .inl (fun _ => 0)))] := hD
  refine va_putF (D := D) (ci := 8) (v := .ref q40_3) (ty := (tyX4 3)) (C := RX4) (T := TX4) (N := 12) hx hb hts iw_X4_init_X4 tyX4 tyX4_ok nmX4 hown hK hP hD hS 0 rfl rfl 3 (by decide) (hts (.fieldLink RX4 35 "ModedMill$Machine" "trail" "LModedMill$Table;") (by decide +kernel)) (fun _ h9 => h9) rfl hin rfl (by decide +kernel) rfl rfl (Nat.le_of_ble_eq_true rfl) dX4_init_50 (fun H locs hP hD hS => ?_)
  have hP : va_P D vwCl [(h0, .inr (8, [.ref st, .ref q15_1, .ref q26_2, .ref q40_3, .ref rp, .int 0, .null, .int 0, .null, .int 0, .int 0, .int 0])), (q15_1, .inr (3, [.int 0, .ref e0, .int 0])), (q26_2, .inr (13, [.int 3, .ref q1_33, .int 0])), (q1_33, .inl ((k 0), 90, .inl (fun _ => 0))), (q40_3, .inr (13, [.int 2, .ref q1_47, .int 0])), (q1_47, .inl ((k 0), 60, .inl (fun _ => 0)))] H := hP
  have hD : va_D A [(h0, .inr (8, [.ref st, .ref q15_1, .ref q26_2, .ref q40_3, .ref rp, .int 0, .null, .int 0, .null, .int 0, .int 0, .int 0])), (q15_1, .inr (3, [.int 0, .ref e0, .int 0])), (q26_2, .inr (13, [.int 3, .ref q1_33, .int 0])), (q1_33, .inl ((k 0), 90, .inl (fun _ => 0))), (q40_3, .inr (13, [.int 2, .ref q1_47, .int 0])), (q1_47, .inl ((k 0), 60, .inl (fun _ => 0)))] := hD
  exact ov_ret hx hb hr hlocks (q15_1, q26_2, q1_33, q40_3, q1_47) (trivial) hK (hP.sub [0, 1, 2, 3, 4, 5] rfl) (hD.sub [0, 1, 2, 3, 4, 5] (by decide) rfl) hS (Nat.le_of_ble_eq_true rfl) (Nat.le_of_ble_eq_true rfl) dX4_init_53
theorem iw_X0_init_X0 : ∀ w ∈ wsX00, w ∈ wsX0_init := by decide +kernel
theorem iw_X0_init_X9 : ∀ w ∈ wsX90, w ∈ wsX0_init := by decide +kernel
set_option maxHeartbeats 4000000 in
set_option maxRecDepth 100000 in
/-- Breadth(program, terms) -/
theorem c_Breadth_init (l : Launch) (e0 : Nat) (D : va_G) (k : Nat → ClassId) (h0 : Nat) (pg : Nat) (st : Nat) : oCv l e0 D (oTy k) yX0_init wsX0_init ({ frames := 2, cells := 16, slots := 1592, locals := 42 } : Room) [.ref h0, .ref pg, .ref st] [(h0, .inr (4, [.null, .null, .null, .int 0, .null, .null, .null, .null, .int 0, .null, .null, .null, .int 0, .int 0, .int 0]))] (S := Nat × Nat × Nat × Nat × Nat × Nat × Nat × Nat × Nat × Nat × Nat × Nat × Nat × Nat × Nat × Nat) (fun (u : Nat × Nat × Nat × Nat × Nat × Nat × Nat × Nat × Nat × Nat × Nat × Nat × Nat × Nat × Nat × Nat) => True) (fun u => [(h0, .inr (4, [.ref pg, .ref st, .ref u.1, .int 0, .ref u.2.2.1, .ref u.2.2.2.2.1, .ref u.2.2.2.2.2.2.1, .ref u.2.2.2.2.2.2.2.2.1, .int 0, .ref u.2.2.2.2.2.2.2.2.2.2.1, .ref u.2.2.2.2.2.2.2.2.2.2.2.2.1, .ref u.2.2.2.2.2.2.2.2.2.2.2.2.2.2.1, .int 0, .int 0, .int 0])), (u.1, .inr (13, [.int 5, .ref u.2.1, .int 0])), (u.2.1, .inl ((k 0), 320, .inl (fun _ => 0))), (u.2.2.1, .inr (13, [.int 1, .ref u.2.2.2.1, .int 0])), (u.2.2.2.1, .inl ((k 0), 64, .inl (fun _ => 0))), (u.2.2.2.2.1, .inr (13, [.int 3, .ref u.2.2.2.2.2.1, .int 0])), (u.2.2.2.2.2.1, .inl ((k 0), 192, .inl (fun _ => 0))), (u.2.2.2.2.2.2.1, .inr (13, [.int 4, .ref u.2.2.2.2.2.2.2.1, .int 0])), (u.2.2.2.2.2.2.2.1, .inl ((k 0), 256, .inl (fun _ => 0))), (u.2.2.2.2.2.2.2.2.1, .inr (13, [.int 6, .ref u.2.2.2.2.2.2.2.2.2.1, .int 0])), (u.2.2.2.2.2.2.2.2.2.1, .inl ((k 0), 384, .inl (fun _ => 0))), (u.2.2.2.2.2.2.2.2.2.2.1, .inr (13, [.int 2, .ref u.2.2.2.2.2.2.2.2.2.2.2.1, .int 0])), (u.2.2.2.2.2.2.2.2.2.2.2.1, .inl ((k 0), 128, .inl (fun _ => 0))), (u.2.2.2.2.2.2.2.2.2.2.2.2.1, .inr (13, [.int 4, .ref u.2.2.2.2.2.2.2.2.2.2.2.2.2.1, .int 0])), (u.2.2.2.2.2.2.2.2.2.2.2.2.2.1, .inl ((k 0), 32, .inl (fun _ => 0))), (u.2.2.2.2.2.2.2.2.2.2.2.2.2.2.1, .inr (13, [.int 3, .ref u.2.2.2.2.2.2.2.2.2.2.2.2.2.2.2, .int 0])), (u.2.2.2.2.2.2.2.2.2.2.2.2.2.2.2, .inl ((k 0), 192, .inl (fun _ => 0)))]) 16 1592 := by
  refine ov_of (cc := cX0_init) (maxL := 3) (ret := none) (by decide +kernel) rfl (Nat.le_of_ble_eq_true rfl) ?_
  intro p e s m below meth c A ls hx hb hml hr hts hown hlocks hin hA hK hP hD hS hE hl
  have hl : lv_has ls 3 [(0, .ref h0), (1, .ref pg), (2, .ref st)] := hl
  refine lv_aload_n hx hb dX0_init_0 rfl (lv_at hl 0 rfl) ?_
  refine W.objInit hx hb hown (hts (.methodLink RX0 3 objectInit) (by decide +kernel)) (hts (.instanceMethod objectInit) (by decide +kernel)) (hts (.code objectInit ⟨#[0xb1]⟩ 1 none) (by decide +kernel)) rfl (by rw [hml]; exact hl.1) rfl dX0_init_1 (Nat.le_of_ble_eq_true rfl) (Nat.le_of_ble_eq_true rfl) ?_
  refine W.eq (g2 := F0 m 4 ls []) rfl ?_
  refine lv_aload_n hx hb dX0_init_4 rfl (lv_at hl 0 rfl) ?_
  refine lv_aload_n hx hb dX0_init_5 rfl (lv_at hl 1 rfl) ?_
  refine va_putF (D := D) (ci := 4) (v := .ref pg) (ty := (tyX0 0)) (C := RX0) (T := TX0) (N := 15) hx hb hts iw_X0_init_X0 tyX0 tyX0_ok nmX0 hown hK hP hD hS 0 rfl rfl 0 (by decide) (hts (.fieldLink RX0 9 "ModedMill$Breadth" "program" "LModedMill$Program;") (by decide +kernel)) (fun _ h9 => h9) rfl hin rfl (by decide +kernel) rfl rfl (Nat.le_of_ble_eq_true rfl) dX0_init_6 (fun H locs hP hD hS => ?_)
  have hP : va_P D vwCl [(h0, .inr (4, [.ref pg, .null, .null, .int 0, .null, .null, .null, .null, .int 0, .null, .null, .null, .int 0, .int 0, .int 0]))] H := hP
  have hD : va_D A [(h0, .inr (4, [.ref pg, .null, .null, .int 0, .null, .null, .null, .null, .int 0, .null, .null, .null, .int 0, .int 0, .int 0]))] := hD
  refine lv_aload_n hx hb dX0_init_9 rfl (lv_at hl 0 rfl) ?_
  refine lv_aload_n hx hb dX0_init_10 rfl (lv_at hl 2 rfl) ?_
  refine va_putF (D := D) (ci := 4) (v := .ref st) (ty := (tyX0 1)) (C := RX0) (T := TX0) (N := 15) hx hb hts iw_X0_init_X0 tyX0 tyX0_ok nmX0 hown hK hP hD hS 0 rfl rfl 1 (by decide) (hts (.fieldLink RX0 15 "ModedMill$Breadth" "store" "LModedMill$Terms;") (by decide +kernel)) (fun _ h9 => h9) rfl hin rfl (by decide +kernel) rfl rfl (Nat.le_of_ble_eq_true rfl) dX0_init_11 (fun H locs hP hD hS => ?_)
  have hP : va_P D vwCl [(h0, .inr (4, [.ref pg, .ref st, .null, .int 0, .null, .null, .null, .null, .int 0, .null, .null, .null, .int 0, .int 0, .int 0]))] H := hP
  have hD : va_D A [(h0, .inr (4, [.ref pg, .ref st, .null, .int 0, .null, .null, .null, .null, .int 0, .null, .null, .null, .int 0, .int 0, .int 0]))] := hD
  refine lv_aload_n hx hb dX0_init_14 rfl (lv_at hl 0 rfl) ?_
  refine va_new (D := D) (ci := 13) (fs := [.int 0, .null, .int 0]) (C := RX9) (T := TX9) (N := 3) hx hb hts iw_X0_init_X9 tyX9 tyX9_ok hown (hts (.classLink RX0 19 RX9) (by decide +kernel)) (hts (.instantiable RX9 3) (by decide +kernel)) (hts (.initialized RX9) (by decide +kernel)) hK hP hD hS hA rfl (fun j hj => by rcases (show j = 0 ∨ j = 1 ∨ j = 2 by omega) with rfl | rfl | rfl <;> rfl) (Nat.le_of_ble_eq_true rfl) (Nat.le_of_ble_eq_true rfl) dX0_init_15 (fun q15_1 H hP hD hS => ?_)
  have hP : va_P D vwCl [(h0, .inr (4, [.ref pg, .ref st, .null, .int 0, .null, .null, .null, .null, .int 0, .null, .null, .null, .int 0, .int 0, .int 0])), (q15_1, .inr (13, [.int 0, .null, .int 0]))] H := hP
  have hD : va_D A [(h0, .inr (4, [.ref pg, .ref st, .null, .int 0, .null, .null, .null, .null, .int 0, .null, .null, .null, .int 0, .int 0, .int 0])), (q15_1, .inr (13, [.int 0, .null, .int 0]))] := hD
  refine lv_dup hx hb dX0_init_18 rfl ?_
  refine lv_iconst (v := 5) hx hb dX0_init_19 (by decide) ?_
  refine lv_bipush (v := 64) hx hb dX0_init_20 (by decide) ?_
  refine ov_callI hx hb hml hown hts (c_Table_init_5_64 l e0 D k q15_1) (cwI 2 hts gX0_init_X9_init rfl rfl rfl (hts (.initialized RX9) (by decide +kernel)) (hts (.methodLink RX0 21 yX9_init) (by decide +kernel)) (hts (.instanceMethod yX9_init) (by decide +kernel)) rfl (by decide +kernel) ⟨Nat.le_of_ble_eq_true rfl, Nat.le_of_ble_eq_true rfl⟩) hK hP hD hS hA hE [1] [0] rfl rfl (by decide) (by decide) (by decide) (wr := [(h0, .inr (4, [.ref pg, .ref st, .null, .int 0, .null, .null, .null, .null, .int 0, .null, .null, .null, .int 0, .int 0, .int 0]))]) (w2 := fun u => [(h0, .inr (4, [.ref pg, .ref st, .null, .int 0, .null, .null, .null, .null, .int 0, .null, .null, .null, .int 0, .int 0, .int 0])), (q15_1, .inr (13, [.int 5, .ref u, .int 0])), (u, .inl ((k 0), 320, .inl (fun _ => 0)))]) (fun _ => rfl) hl.1 rfl (Nat.le_of_ble_eq_true rfl) rfl ⟨Nat.le_of_ble_eq_true rfl, Nat.le_of_ble_eq_true rfl⟩ dX0_init_22 (fun u H locs hq hP hD hS => ?_)
  obtain ⟨q1_22, hu9⟩ : ∃ z, z = u := ⟨_, rfl⟩; subst hu9
  have hP : va_P D vwCl [(h0, .inr (4, [.ref pg, .ref st, .null, .int 0, .null, .null, .null, .null, .int 0, .null, .null, .null, .int 0, .int 0, .int 0])), (q15_1, .inr (13, [.int 5, .ref q1_22, .int 0])), (q1_22, .inl ((k 0), 320, .inl (fun _ => 0)))] H := hP
  have hD : va_D A [(h0, .inr (4, [.ref pg, .ref st, .null, .int 0, .null, .null, .null, .null, .int 0, .null, .null, .null, .int 0, .int 0, .int 0])), (q15_1, .inr (13, [.int 5, .ref q1_22, .int 0])), (q1_22, .inl ((k 0), 320, .inl (fun _ => 0)))] := hD
  refine va_putF (D := D) (ci := 4) (v := .ref q15_1) (ty := (tyX0 2)) (C := RX0) (T := TX0) (N := 15) hx hb hts iw_X0_init_X0 tyX0 tyX0_ok nmX0 hown hK hP hD hS 0 rfl rfl 2 (by decide) (hts (.fieldLink RX0 24 "ModedMill$Breadth" "nodes" "LModedMill$Table;") (by decide +kernel)) (fun _ h9 => h9) rfl hin rfl (by decide +kernel) rfl rfl (Nat.le_of_ble_eq_true rfl) dX0_init_25 (fun H locs hP hD hS => ?_)
  have hP : va_P D vwCl [(h0, .inr (4, [.ref pg, .ref st, .ref q15_1, .int 0, .null, .null, .null, .null, .int 0, .null, .null, .null, .int 0, .int 0, .int 0])), (q15_1, .inr (13, [.int 5, .ref q1_22, .int 0])), (q1_22, .inl ((k 0), 320, .inl (fun _ => 0)))] H := hP
  have hD : va_D A [(h0, .inr (4, [.ref pg, .ref st, .ref q15_1, .int 0, .null, .null, .null, .null, .int 0, .null, .null, .null, .int 0, .int 0, .int 0])), (q15_1, .inr (13, [.int 5, .ref q1_22, .int 0])), (q1_22, .inl ((k 0), 320, .inl (fun _ => 0)))] := hD
  refine lv_aload_n hx hb dX0_init_28 rfl (lv_at hl 0 rfl) ?_
  refine va_new (D := D) (ci := 13) (fs := [.int 0, .null, .int 0]) (C := RX9) (T := TX9) (N := 3) hx hb hts iw_X0_init_X9 tyX9 tyX9_ok hown (hts (.classLink RX0 19 RX9) (by decide +kernel)) (hts (.instantiable RX9 3) (by decide +kernel)) (hts (.initialized RX9) (by decide +kernel)) hK hP hD hS hA rfl (fun j hj => by rcases (show j = 0 ∨ j = 1 ∨ j = 2 by omega) with rfl | rfl | rfl <;> rfl) (Nat.le_of_ble_eq_true rfl) (Nat.le_of_ble_eq_true rfl) dX0_init_29 (fun q29_2 H hP hD hS => ?_)
  have hP : va_P D vwCl [(h0, .inr (4, [.ref pg, .ref st, .ref q15_1, .int 0, .null, .null, .null, .null, .int 0, .null, .null, .null, .int 0, .int 0, .int 0])), (q15_1, .inr (13, [.int 5, .ref q1_22, .int 0])), (q1_22, .inl ((k 0), 320, .inl (fun _ => 0))), (q29_2, .inr (13, [.int 0, .null, .int 0]))] H := hP
  have hD : va_D A [(h0, .inr (4, [.ref pg, .ref st, .ref q15_1, .int 0, .null, .null, .null, .null, .int 0, .null, .null, .null, .int 0, .int 0, .int 0])), (q15_1, .inr (13, [.int 5, .ref q1_22, .int 0])), (q1_22, .inl ((k 0), 320, .inl (fun _ => 0))), (q29_2, .inr (13, [.int 0, .null, .int 0]))] := hD
  refine lv_dup hx hb dX0_init_32 rfl ?_
  refine lv_iconst (v := 1) hx hb dX0_init_33 (by decide) ?_
  refine lv_bipush (v := 64) hx hb dX0_init_34 (by decide) ?_
  refine ov_callI hx hb hml hown hts (c_Table_init_1_64 l e0 D k q29_2) (cwI 2 hts gX0_init_X9_init rfl rfl rfl (hts (.initialized RX9) (by decide +kernel)) (hts (.methodLink RX0 21 yX9_init) (by decide +kernel)) (hts (.instanceMethod yX9_init) (by decide +kernel)) rfl (by decide +kernel) ⟨Nat.le_of_ble_eq_true rfl, Nat.le_of_ble_eq_true rfl⟩) hK hP hD hS hA hE [3] [0, 1, 2] rfl rfl (by decide) (by decide) (by decide) (wr := [(h0, .inr (4, [.ref pg, .ref st, .ref q15_1, .int 0, .null, .null, .null, .null, .int 0, .null, .null, .null, .int 0, .int 0, .int 0])), (q15_1, .inr (13, [.int 5, .ref q1_22, .int 0])), (q1_22, .inl ((k 0), 320, .inl (fun _ => 0)))]) (w2 := fun u => [(h0, .inr (4, [.ref pg, .ref st, .ref q15_1, .int 0, .null, .null, .null, .null, .int 0, .null, .null, .null, .int 0, .int 0, .int 0])), (q15_1, .inr (13, [.int 5, .ref q1_22, .int 0])), (q1_22, .inl ((k 0), 320, .inl (fun _ => 0))), (q29_2, .inr (13, [.int 1, .ref u, .int 0])), (u, .inl ((k 0), 64, .inl (fun _ => 0)))]) (fun _ => rfl) hl.1 rfl (Nat.le_of_ble_eq_true rfl) rfl ⟨Nat.le_of_ble_eq_true rfl, Nat.le_of_ble_eq_true rfl⟩ dX0_init_36 (fun u H locs hq hP hD hS => ?_)
  obtain ⟨q1_36, hu9⟩ : ∃ z, z = u := ⟨_, rfl⟩; subst hu9
  have hP : va_P D vwCl [(h0, .inr (4, [.ref pg, .ref st, .ref q15_1, .int 0, .null, .null, .null, .null, .int 0, .null, .null, .null, .int 0, .int 0, .int 0])), (q15_1, .inr (13, [.int 5, .ref q1_22, .int 0])), (q1_22, .inl ((k 0), 320, .inl (fun _ => 0))), (q29_2, .inr (13, [.int 1, .ref q1_36, .int 0])), (q1_36, .inl ((k 0), 64, .inl (fun _ => 0)))] H := hP
  have hD : va_D A [(h0, .inr (4, [.ref pg, .ref st, .ref q15_1, .int 0, .null, .null, .null, .null, .int 0, .null, .null, .null, .int 0, .int 0, .int 0])), (q15_1, .inr (13, [.int 5, .ref q1_22, .int 0])), (q1_22, .inl ((k 0), 320, .inl (fun _ => 0))), (q29_2, .inr (13, [.int 1, .ref q1_36, .int 0])), (q1_36, .inl ((k 0), 64, .inl (fun _ => 0)))] := hD
  refine va_putF (D := D) (ci := 4) (v := .ref q29_2) (ty := (tyX0 4)) (C := RX0) (T := TX0) (N := 15) hx hb hts iw_X0_init_X0 tyX0 tyX0_ok nmX0 hown hK hP hD hS 0 rfl rfl 4 (by decide) (hts (.fieldLink RX0 28 "ModedMill$Breadth" "variables" "LModedMill$Table;") (by decide +kernel)) (fun _ h9 => h9) rfl hin rfl (by decide +kernel) rfl rfl (Nat.le_of_ble_eq_true rfl) dX0_init_39 (fun H locs hP hD hS => ?_)
  have hP : va_P D vwCl [(h0, .inr (4, [.ref pg, .ref st, .ref q15_1, .int 0, .ref q29_2, .null, .null, .null, .int 0, .null, .null, .null, .int 0, .int 0, .int 0])), (q15_1, .inr (13, [.int 5, .ref q1_22, .int 0])), (q1_22, .inl ((k 0), 320, .inl (fun _ => 0))), (q29_2, .inr (13, [.int 1, .ref q1_36, .int 0])), (q1_36, .inl ((k 0), 64, .inl (fun _ => 0)))] H := hP
  have hD : va_D A [(h0, .inr (4, [.ref pg, .ref st, .ref q15_1, .int 0, .ref q29_2, .null, .null, .null, .int 0, .null, .null, .null, .int 0, .int 0, .int 0])), (q15_1, .inr (13, [.int 5, .ref q1_22, .int 0])), (q1_22, .inl ((k 0), 320, .inl (fun _ => 0))), (q29_2, .inr (13, [.int 1, .ref q1_36, .int 0])), (q1_36, .inl ((k 0), 64, .inl (fun _ => 0)))] := hD
  refine lv_aload_n hx hb dX0_init_42 rfl (lv_at hl 0 rfl) ?_
  refine va_new (D := D) (ci := 13) (fs := [.int 0, .null, .int 0]) (C := RX9) (T := TX9) (N := 3) hx hb hts iw_X0_init_X9 tyX9 tyX9_ok hown (hts (.classLink RX0 19 RX9) (by decide +kernel)) (hts (.instantiable RX9 3) (by decide +kernel)) (hts (.initialized RX9) (by decide +kernel)) hK hP hD hS hA rfl (fun j hj => by rcases (show j = 0 ∨ j = 1 ∨ j = 2 by omega) with rfl | rfl | rfl <;> rfl) (Nat.le_of_ble_eq_true rfl) (Nat.le_of_ble_eq_true rfl) dX0_init_43 (fun q43_3 H hP hD hS => ?_)
  have hP : va_P D vwCl [(h0, .inr (4, [.ref pg, .ref st, .ref q15_1, .int 0, .ref q29_2, .null, .null, .null, .int 0, .null, .null, .null, .int 0, .int 0, .int 0])), (q15_1, .inr (13, [.int 5, .ref q1_22, .int 0])), (q1_22, .inl ((k 0), 320, .inl (fun _ => 0))), (q29_2, .inr (13, [.int 1, .ref q1_36, .int 0])), (q1_36, .inl ((k 0), 64, .inl (fun _ => 0))), (q43_3, .inr (13, [.int 0, .null, .int 0]))] H := hP
  have hD : va_D A [(h0, .inr (4, [.ref pg, .ref st, .ref q15_1, .int 0, .ref q29_2, .null, .null, .null, .int 0, .null, .null, .null, .int 0, .int 0, .int 0])), (q15_1, .inr (13, [.int 5, .ref q1_22, .int 0])), (q1_22, .inl ((k 0), 320, .inl (fun _ => 0))), (q29_2, .inr (13, [.int 1, .ref q1_36, .int 0])), (q1_36, .inl ((k 0), 64, .inl (fun _ => 0))), (q43_3, .inr (13, [.int 0, .null, .int 0]))] := hD
  refine lv_dup hx hb dX0_init_46 rfl ?_
  refine lv_iconst (v := 3) hx hb dX0_init_47 (by decide) ?_
  refine lv_bipush (v := 64) hx hb dX0_init_48 (by decide) ?_
  refine ov_callI hx hb hml hown hts (c_Table_init_3_64 l e0 D k q43_3) (cwI 2 hts gX0_init_X9_init rfl rfl rfl (hts (.initialized RX9) (by decide +kernel)) (hts (.methodLink RX0 21 yX9_init) (by decide +kernel)) (hts (.instanceMethod yX9_init) (by decide +kernel)) rfl (by decide +kernel) ⟨Nat.le_of_ble_eq_true rfl, Nat.le_of_ble_eq_true rfl⟩) hK hP hD hS hA hE [5] [0, 1, 2, 3, 4] rfl rfl (by decide) (by decide) (by decide) (wr := [(h0, .inr (4, [.ref pg, .ref st, .ref q15_1, .int 0, .ref q29_2, .null, .null, .null, .int 0, .null, .null, .null, .int 0, .int 0, .int 0])), (q15_1, .inr (13, [.int 5, .ref q1_22, .int 0])), (q1_22, .inl ((k 0), 320, .inl (fun _ => 0))), (q29_2, .inr (13, [.int 1, .ref q1_36, .int 0])), (q1_36, .inl ((k 0), 64, .inl (fun _ => 0)))]) (w2 := fun u => [(h0, .inr (4, [.ref pg, .ref st, .ref q15_1, .int 0, .ref q29_2, .null, .null, .null, .int 0, .null, .null, .null, .int 0, .int 0, .int 0])), (q15_1, .inr (13, [.int 5, .ref q1_22, .int 0])), (q1_22, .inl ((k 0), 320, .inl (fun _ => 0))), (q29_2, .inr (13, [.int 1, .ref q1_36, .int 0])), (q1_36, .inl ((k 0), 64, .inl (fun _ => 0))), (q43_3, .inr (13, [.int 3, .ref u, .int 0])), (u, .inl ((k 0), 192, .inl (fun _ => 0)))]) (fun _ => rfl) hl.1 rfl (Nat.le_of_ble_eq_true rfl) rfl ⟨Nat.le_of_ble_eq_true rfl, Nat.le_of_ble_eq_true rfl⟩ dX0_init_50 (fun u H locs hq hP hD hS => ?_)
  obtain ⟨q1_50, hu9⟩ : ∃ z, z = u := ⟨_, rfl⟩; subst hu9
  have hP : va_P D vwCl [(h0, .inr (4, [.ref pg, .ref st, .ref q15_1, .int 0, .ref q29_2, .null, .null, .null, .int 0, .null, .null, .null, .int 0, .int 0, .int 0])), (q15_1, .inr (13, [.int 5, .ref q1_22, .int 0])), (q1_22, .inl ((k 0), 320, .inl (fun _ => 0))), (q29_2, .inr (13, [.int 1, .ref q1_36, .int 0])), (q1_36, .inl ((k 0), 64, .inl (fun _ => 0))), (q43_3, .inr (13, [.int 3, .ref q1_50, .int 0])), (q1_50, .inl ((k 0), 192, .inl (fun _ => 0)))] H := hP
  have hD : va_D A [(h0, .inr (4, [.ref pg, .ref st, .ref q15_1, .int 0, .ref q29_2, .null, .null, .null, .int 0, .null, .null, .null, .int 0, .int 0, .int 0])), (q15_1, .inr (13, [.int 5, .ref q1_22, .int 0])), (q1_22, .inl ((k 0), 320, .inl (fun _ => 0))), (q29_2, .inr (13, [.int 1, .ref q1_36, .int 0])), (q1_36, .inl ((k 0), 64, .inl (fun _ => 0))), (q43_3, .inr (13, [.int 3, .ref q1_50, .int 0])), (q1_50, .inl ((k 0), 192, .inl (fun _ => 0)))] := hD
  refine va_putF (D := D) (ci := 4) (v := .ref q43_3) (ty := (tyX0 5)) (C := RX0) (T := TX0) (N := 15) hx hb hts iw_X0_init_X0 tyX0 tyX0_ok nmX0 hown hK hP hD hS 0 rfl rfl 5 (by decide) (hts (.fieldLink RX0 31 "ModedMill$Breadth" "cells" "LModedMill$Table;") (by decide +kernel)) (fun _ h9 => h9) rfl hin rfl (by decide +kernel) rfl rfl (Nat.le_of_ble_eq_true rfl) dX0_init_53 (fun H locs hP hD hS => ?_)
  have hP : va_P D vwCl [(h0, .inr (4, [.ref pg, .ref st, .ref q15_1, .int 0, .ref q29_2, .ref q43_3, .null, .null, .int 0, .null, .null, .null, .int 0, .int 0, .int 0])), (q15_1, .inr (13, [.int 5, .ref q1_22, .int 0])), (q1_22, .inl ((k 0), 320, .inl (fun _ => 0))), (q29_2, .inr (13, [.int 1, .ref q1_36, .int 0])), (q1_36, .inl ((k 0), 64, .inl (fun _ => 0))), (q43_3, .inr (13, [.int 3, .ref q1_50, .int 0])), (q1_50, .inl ((k 0), 192, .inl (fun _ => 0)))] H := hP
  have hD : va_D A [(h0, .inr (4, [.ref pg, .ref st, .ref q15_1, .int 0, .ref q29_2, .ref q43_3, .null, .null, .int 0, .null, .null, .null, .int 0, .int 0, .int 0])), (q15_1, .inr (13, [.int 5, .ref q1_22, .int 0])), (q1_22, .inl ((k 0), 320, .inl (fun _ => 0))), (q29_2, .inr (13, [.int 1, .ref q1_36, .int 0])), (q1_36, .inl ((k 0), 64, .inl (fun _ => 0))), (q43_3, .inr (13, [.int 3, .ref q1_50, .int 0])), (q1_50, .inl ((k 0), 192, .inl (fun _ => 0)))] := hD
  refine lv_aload_n hx hb dX0_init_56 rfl (lv_at hl 0 rfl) ?_
  refine va_new (D := D) (ci := 13) (fs := [.int 0, .null, .int 0]) (C := RX9) (T := TX9) (N := 3) hx hb hts iw_X0_init_X9 tyX9 tyX9_ok hown (hts (.classLink RX0 19 RX9) (by decide +kernel)) (hts (.instantiable RX9 3) (by decide +kernel)) (hts (.initialized RX9) (by decide +kernel)) hK hP hD hS hA rfl (fun j hj => by rcases (show j = 0 ∨ j = 1 ∨ j = 2 by omega) with rfl | rfl | rfl <;> rfl) (Nat.le_of_ble_eq_true rfl) (Nat.le_of_ble_eq_true rfl) dX0_init_57 (fun q57_4 H hP hD hS => ?_)
  have hP : va_P D vwCl [(h0, .inr (4, [.ref pg, .ref st, .ref q15_1, .int 0, .ref q29_2, .ref q43_3, .null, .null, .int 0, .null, .null, .null, .int 0, .int 0, .int 0])), (q15_1, .inr (13, [.int 5, .ref q1_22, .int 0])), (q1_22, .inl ((k 0), 320, .inl (fun _ => 0))), (q29_2, .inr (13, [.int 1, .ref q1_36, .int 0])), (q1_36, .inl ((k 0), 64, .inl (fun _ => 0))), (q43_3, .inr (13, [.int 3, .ref q1_50, .int 0])), (q1_50, .inl ((k 0), 192, .inl (fun _ => 0))), (q57_4, .inr (13, [.int 0, .null, .int 0]))] H := hP
  have hD : va_D A [(h0, .inr (4, [.ref pg, .ref st, .ref q15_1, .int 0, .ref q29_2, .ref q43_3, .null, .null, .int 0, .null, .null, .null, .int 0, .int 0, .int 0])), (q15_1, .inr (13, [.int 5, .ref q1_22, .int 0])), (q1_22, .inl ((k 0), 320, .inl (fun _ => 0))), (q29_2, .inr (13, [.int 1, .ref q1_36, .int 0])), (q1_36, .inl ((k 0), 64, .inl (fun _ => 0))), (q43_3, .inr (13, [.int 3, .ref q1_50, .int 0])), (q1_50, .inl ((k 0), 192, .inl (fun _ => 0))), (q57_4, .inr (13, [.int 0, .null, .int 0]))] := hD
  refine lv_dup hx hb dX0_init_60 rfl ?_
  refine lv_iconst (v := 4) hx hb dX0_init_61 (by decide) ?_
  refine lv_bipush (v := 64) hx hb dX0_init_62 (by decide) ?_
  refine ov_callI hx hb hml hown hts (c_Table_init_4_64 l e0 D k q57_4) (cwI 2 hts gX0_init_X9_init rfl rfl rfl (hts (.initialized RX9) (by decide +kernel)) (hts (.methodLink RX0 21 yX9_init) (by decide +kernel)) (hts (.instanceMethod yX9_init) (by decide +kernel)) rfl (by decide +kernel) ⟨Nat.le_of_ble_eq_true rfl, Nat.le_of_ble_eq_true rfl⟩) hK hP hD hS hA hE [7] [0, 1, 2, 3, 4, 5, 6] rfl rfl (by decide) (by decide) (by decide) (wr := [(h0, .inr (4, [.ref pg, .ref st, .ref q15_1, .int 0, .ref q29_2, .ref q43_3, .null, .null, .int 0, .null, .null, .null, .int 0, .int 0, .int 0])), (q15_1, .inr (13, [.int 5, .ref q1_22, .int 0])), (q1_22, .inl ((k 0), 320, .inl (fun _ => 0))), (q29_2, .inr (13, [.int 1, .ref q1_36, .int 0])), (q1_36, .inl ((k 0), 64, .inl (fun _ => 0))), (q43_3, .inr (13, [.int 3, .ref q1_50, .int 0])), (q1_50, .inl ((k 0), 192, .inl (fun _ => 0)))]) (w2 := fun u => [(h0, .inr (4, [.ref pg, .ref st, .ref q15_1, .int 0, .ref q29_2, .ref q43_3, .null, .null, .int 0, .null, .null, .null, .int 0, .int 0, .int 0])), (q15_1, .inr (13, [.int 5, .ref q1_22, .int 0])), (q1_22, .inl ((k 0), 320, .inl (fun _ => 0))), (q29_2, .inr (13, [.int 1, .ref q1_36, .int 0])), (q1_36, .inl ((k 0), 64, .inl (fun _ => 0))), (q43_3, .inr (13, [.int 3, .ref q1_50, .int 0])), (q1_50, .inl ((k 0), 192, .inl (fun _ => 0))), (q57_4, .inr (13, [.int 4, .ref u, .int 0])), (u, .inl ((k 0), 256, .inl (fun _ => 0)))]) (fun _ => rfl) hl.1 rfl (Nat.le_of_ble_eq_true rfl) rfl ⟨Nat.le_of_ble_eq_true rfl, Nat.le_of_ble_eq_true rfl⟩ dX0_init_64 (fun u H locs hq hP hD hS => ?_)
  obtain ⟨q1_64, hu9⟩ : ∃ z, z = u := ⟨_, rfl⟩; subst hu9
  have hP : va_P D vwCl [(h0, .inr (4, [.ref pg, .ref st, .ref q15_1, .int 0, .ref q29_2, .ref q43_3, .null, .null, .int 0, .null, .null, .null, .int 0, .int 0, .int 0])), (q15_1, .inr (13, [.int 5, .ref q1_22, .int 0])), (q1_22, .inl ((k 0), 320, .inl (fun _ => 0))), (q29_2, .inr (13, [.int 1, .ref q1_36, .int 0])), (q1_36, .inl ((k 0), 64, .inl (fun _ => 0))), (q43_3, .inr (13, [.int 3, .ref q1_50, .int 0])), (q1_50, .inl ((k 0), 192, .inl (fun _ => 0))), (q57_4, .inr (13, [.int 4, .ref q1_64, .int 0])), (q1_64, .inl ((k 0), 256, .inl (fun _ => 0)))] H := hP
  have hD : va_D A [(h0, .inr (4, [.ref pg, .ref st, .ref q15_1, .int 0, .ref q29_2, .ref q43_3, .null, .null, .int 0, .null, .null, .null, .int 0, .int 0, .int 0])), (q15_1, .inr (13, [.int 5, .ref q1_22, .int 0])), (q1_22, .inl ((k 0), 320, .inl (fun _ => 0))), (q29_2, .inr (13, [.int 1, .ref q1_36, .int 0])), (q1_36, .inl ((k 0), 64, .inl (fun _ => 0))), (q43_3, .inr (13, [.int 3, .ref q1_50, .int 0])), (q1_50, .inl ((k 0), 192, .inl (fun _ => 0))), (q57_4, .inr (13, [.int 4, .ref q1_64, .int 0])), (q1_64, .inl ((k 0), 256, .inl (fun _ => 0)))] := hD
  refine va_putF (D := D) (ci := 4) (v := .ref q57_4) (ty := (tyX0 6)) (C := RX0) (T := TX0) (N := 15) hx hb hts iw_X0_init_X0 tyX0 tyX0_ok nmX0 hown hK hP hD hS 0 rfl rfl 6 (by decide) (hts (.fieldLink RX0 34 "ModedMill$Breadth" "lists" "LModedMill$Table;") (by decide +kernel)) (fun _ h9 => h9) rfl hin rfl (by decide +kernel) rfl rfl (Nat.le_of_ble_eq_true rfl) dX0_init_67 (fun H locs hP hD hS => ?_)
  have hP : va_P D vwCl [(h0, .inr (4, [.ref pg, .ref st, .ref q15_1, .int 0, .ref q29_2, .ref q43_3, .ref q57_4, .null, .int 0, .null, .null, .null, .int 0, .int 0, .int 0])), (q15_1, .inr (13, [.int 5, .ref q1_22, .int 0])), (q1_22, .inl ((k 0), 320, .inl (fun _ => 0))), (q29_2, .inr (13, [.int 1, .ref q1_36, .int 0])), (q1_36, .inl ((k 0), 64, .inl (fun _ => 0))), (q43_3, .inr (13, [.int 3, .ref q1_50, .int 0])), (q1_50, .inl ((k 0), 192, .inl (fun _ => 0))), (q57_4, .inr (13, [.int 4, .ref q1_64, .int 0])), (q1_64, .inl ((k 0), 256, .inl (fun _ => 0)))] H := hP
  have hD : va_D A [(h0, .inr (4, [.ref pg, .ref st, .ref q15_1, .int 0, .ref q29_2, .ref q43_3, .ref q57_4, .null, .int 0, .null, .null, .null, .int 0, .int 0, .int 0])), (q15_1, .inr (13, [.int 5, .ref q1_22, .int 0])), (q1_22, .inl ((k 0), 320, .inl (fun _ => 0))), (q29_2, .inr (13, [.int 1, .ref q1_36, .int 0])), (q1_36, .inl ((k 0), 64, .inl (fun _ => 0))), (q43_3, .inr (13, [.int 3, .ref q1_50, .int 0])), (q1_50, .inl ((k 0), 192, .inl (fun _ => 0))), (q57_4, .inr (13, [.int 4, .ref q1_64, .int 0])), (q1_64, .inl ((k 0), 256, .inl (fun _ => 0)))] := hD
  refine lv_aload_n hx hb dX0_init_70 rfl (lv_at hl 0 rfl) ?_
  refine va_new (D := D) (ci := 13) (fs := [.int 0, .null, .int 0]) (C := RX9) (T := TX9) (N := 3) hx hb hts iw_X0_init_X9 tyX9 tyX9_ok hown (hts (.classLink RX0 19 RX9) (by decide +kernel)) (hts (.instantiable RX9 3) (by decide +kernel)) (hts (.initialized RX9) (by decide +kernel)) hK hP hD hS hA rfl (fun j hj => by rcases (show j = 0 ∨ j = 1 ∨ j = 2 by omega) with rfl | rfl | rfl <;> rfl) (Nat.le_of_ble_eq_true rfl) (Nat.le_of_ble_eq_true rfl) dX0_init_71 (fun q71_5 H hP hD hS => ?_)
  have hP : va_P D vwCl [(h0, .inr (4, [.ref pg, .ref st, .ref q15_1, .int 0, .ref q29_2, .ref q43_3, .ref q57_4, .null, .int 0, .null, .null, .null, .int 0, .int 0, .int 0])), (q15_1, .inr (13, [.int 5, .ref q1_22, .int 0])), (q1_22, .inl ((k 0), 320, .inl (fun _ => 0))), (q29_2, .inr (13, [.int 1, .ref q1_36, .int 0])), (q1_36, .inl ((k 0), 64, .inl (fun _ => 0))), (q43_3, .inr (13, [.int 3, .ref q1_50, .int 0])), (q1_50, .inl ((k 0), 192, .inl (fun _ => 0))), (q57_4, .inr (13, [.int 4, .ref q1_64, .int 0])), (q1_64, .inl ((k 0), 256, .inl (fun _ => 0))), (q71_5, .inr (13, [.int 0, .null, .int 0]))] H := hP
  have hD : va_D A [(h0, .inr (4, [.ref pg, .ref st, .ref q15_1, .int 0, .ref q29_2, .ref q43_3, .ref q57_4, .null, .int 0, .null, .null, .null, .int 0, .int 0, .int 0])), (q15_1, .inr (13, [.int 5, .ref q1_22, .int 0])), (q1_22, .inl ((k 0), 320, .inl (fun _ => 0))), (q29_2, .inr (13, [.int 1, .ref q1_36, .int 0])), (q1_36, .inl ((k 0), 64, .inl (fun _ => 0))), (q43_3, .inr (13, [.int 3, .ref q1_50, .int 0])), (q1_50, .inl ((k 0), 192, .inl (fun _ => 0))), (q57_4, .inr (13, [.int 4, .ref q1_64, .int 0])), (q1_64, .inl ((k 0), 256, .inl (fun _ => 0))), (q71_5, .inr (13, [.int 0, .null, .int 0]))] := hD
  refine lv_dup hx hb dX0_init_74 rfl ?_
  refine lv_bipush (v := 6) hx hb dX0_init_75 (by decide) ?_
  refine lv_bipush (v := 64) hx hb dX0_init_77 (by decide) ?_
  refine ov_callI hx hb hml hown hts (c_Table_init_6_64 l e0 D k q71_5) (cwI 2 hts gX0_init_X9_init rfl rfl rfl (hts (.initialized RX9) (by decide +kernel)) (hts (.methodLink RX0 21 yX9_init) (by decide +kernel)) (hts (.instanceMethod yX9_init) (by decide +kernel)) rfl (by decide +kernel) ⟨Nat.le_of_ble_eq_true rfl, Nat.le_of_ble_eq_true rfl⟩) hK hP hD hS hA hE [9] [0, 1, 2, 3, 4, 5, 6, 7, 8] rfl rfl (by decide) (by decide) (by decide) (wr := [(h0, .inr (4, [.ref pg, .ref st, .ref q15_1, .int 0, .ref q29_2, .ref q43_3, .ref q57_4, .null, .int 0, .null, .null, .null, .int 0, .int 0, .int 0])), (q15_1, .inr (13, [.int 5, .ref q1_22, .int 0])), (q1_22, .inl ((k 0), 320, .inl (fun _ => 0))), (q29_2, .inr (13, [.int 1, .ref q1_36, .int 0])), (q1_36, .inl ((k 0), 64, .inl (fun _ => 0))), (q43_3, .inr (13, [.int 3, .ref q1_50, .int 0])), (q1_50, .inl ((k 0), 192, .inl (fun _ => 0))), (q57_4, .inr (13, [.int 4, .ref q1_64, .int 0])), (q1_64, .inl ((k 0), 256, .inl (fun _ => 0)))]) (w2 := fun u => [(h0, .inr (4, [.ref pg, .ref st, .ref q15_1, .int 0, .ref q29_2, .ref q43_3, .ref q57_4, .null, .int 0, .null, .null, .null, .int 0, .int 0, .int 0])), (q15_1, .inr (13, [.int 5, .ref q1_22, .int 0])), (q1_22, .inl ((k 0), 320, .inl (fun _ => 0))), (q29_2, .inr (13, [.int 1, .ref q1_36, .int 0])), (q1_36, .inl ((k 0), 64, .inl (fun _ => 0))), (q43_3, .inr (13, [.int 3, .ref q1_50, .int 0])), (q1_50, .inl ((k 0), 192, .inl (fun _ => 0))), (q57_4, .inr (13, [.int 4, .ref q1_64, .int 0])), (q1_64, .inl ((k 0), 256, .inl (fun _ => 0))), (q71_5, .inr (13, [.int 6, .ref u, .int 0])), (u, .inl ((k 0), 384, .inl (fun _ => 0)))]) (fun _ => rfl) hl.1 rfl (Nat.le_of_ble_eq_true rfl) rfl ⟨Nat.le_of_ble_eq_true rfl, Nat.le_of_ble_eq_true rfl⟩ dX0_init_79 (fun u H locs hq hP hD hS => ?_)
  obtain ⟨q1_79, hu9⟩ : ∃ z, z = u := ⟨_, rfl⟩; subst hu9
  have hP : va_P D vwCl [(h0, .inr (4, [.ref pg, .ref st, .ref q15_1, .int 0, .ref q29_2, .ref q43_3, .ref q57_4, .null, .int 0, .null, .null, .null, .int 0, .int 0, .int 0])), (q15_1, .inr (13, [.int 5, .ref q1_22, .int 0])), (q1_22, .inl ((k 0), 320, .inl (fun _ => 0))), (q29_2, .inr (13, [.int 1, .ref q1_36, .int 0])), (q1_36, .inl ((k 0), 64, .inl (fun _ => 0))), (q43_3, .inr (13, [.int 3, .ref q1_50, .int 0])), (q1_50, .inl ((k 0), 192, .inl (fun _ => 0))), (q57_4, .inr (13, [.int 4, .ref q1_64, .int 0])), (q1_64, .inl ((k 0), 256, .inl (fun _ => 0))), (q71_5, .inr (13, [.int 6, .ref q1_79, .int 0])), (q1_79, .inl ((k 0), 384, .inl (fun _ => 0)))] H := hP
  have hD : va_D A [(h0, .inr (4, [.ref pg, .ref st, .ref q15_1, .int 0, .ref q29_2, .ref q43_3, .ref q57_4, .null, .int 0, .null, .null, .null, .int 0, .int 0, .int 0])), (q15_1, .inr (13, [.int 5, .ref q1_22, .int 0])), (q1_22, .inl ((k 0), 320, .inl (fun _ => 0))), (q29_2, .inr (13, [.int 1, .ref q1_36, .int 0])), (q1_36, .inl ((k 0), 64, .inl (fun _ => 0))), (q43_3, .inr (13, [.int 3, .ref q1_50, .int 0])), (q1_50, .inl ((k 0), 192, .inl (fun _ => 0))), (q57_4, .inr (13, [.int 4, .ref q1_64, .int 0])), (q1_64, .inl ((k 0), 256, .inl (fun _ => 0))), (q71_5, .inr (13, [.int 6, .ref q1_79, .int 0])), (q1_79, .inl ((k 0), 384, .inl (fun _ => 0)))] := hD
  refine va_putF (D := D) (ci := 4) (v := .ref q71_5) (ty := (tyX0 7)) (C := RX0) (T := TX0) (N := 15) hx hb hts iw_X0_init_X0 tyX0 tyX0_ok nmX0 hown hK hP hD hS 0 rfl rfl 7 (by decide) (hts (.fieldLink RX0 37 "ModedMill$Breadth" "row" "LModedMill$Table;") (by decide +kernel)) (fun _ h9 => h9) rfl hin rfl (by decide +kernel) rfl rfl (Nat.le_of_ble_eq_true rfl) dX0_init_82 (fun H locs hP hD hS => ?_)
  have hP : va_P D vwCl [(h0, .inr (4, [.ref pg, .ref st, .ref q15_1, .int 0, .ref q29_2, .ref q43_3, .ref q57_4, .ref q71_5, .int 0, .null, .null, .null, .int 0, .int 0, .int 0])), (q15_1, .inr (13, [.int 5, .ref q1_22, .int 0])), (q1_22, .inl ((k 0), 320, .inl (fun _ => 0))), (q29_2, .inr (13, [.int 1, .ref q1_36, .int 0])), (q1_36, .inl ((k 0), 64, .inl (fun _ => 0))), (q43_3, .inr (13, [.int 3, .ref q1_50, .int 0])), (q1_50, .inl ((k 0), 192, .inl (fun _ => 0))), (q57_4, .inr (13, [.int 4, .ref q1_64, .int 0])), (q1_64, .inl ((k 0), 256, .inl (fun _ => 0))), (q71_5, .inr (13, [.int 6, .ref q1_79, .int 0])), (q1_79, .inl ((k 0), 384, .inl (fun _ => 0)))] H := hP
  have hD : va_D A [(h0, .inr (4, [.ref pg, .ref st, .ref q15_1, .int 0, .ref q29_2, .ref q43_3, .ref q57_4, .ref q71_5, .int 0, .null, .null, .null, .int 0, .int 0, .int 0])), (q15_1, .inr (13, [.int 5, .ref q1_22, .int 0])), (q1_22, .inl ((k 0), 320, .inl (fun _ => 0))), (q29_2, .inr (13, [.int 1, .ref q1_36, .int 0])), (q1_36, .inl ((k 0), 64, .inl (fun _ => 0))), (q43_3, .inr (13, [.int 3, .ref q1_50, .int 0])), (q1_50, .inl ((k 0), 192, .inl (fun _ => 0))), (q57_4, .inr (13, [.int 4, .ref q1_64, .int 0])), (q1_64, .inl ((k 0), 256, .inl (fun _ => 0))), (q71_5, .inr (13, [.int 6, .ref q1_79, .int 0])), (q1_79, .inl ((k 0), 384, .inl (fun _ => 0)))] := hD
  refine lv_aload_n hx hb dX0_init_85 rfl (lv_at hl 0 rfl) ?_
  refine va_new (D := D) (ci := 13) (fs := [.int 0, .null, .int 0]) (C := RX9) (T := TX9) (N := 3) hx hb hts iw_X0_init_X9 tyX9 tyX9_ok hown (hts (.classLink RX0 19 RX9) (by decide +kernel)) (hts (.instantiable RX9 3) (by decide +kernel)) (hts (.initialized RX9) (by decide +kernel)) hK hP hD hS hA rfl (fun j hj => by rcases (show j = 0 ∨ j = 1 ∨ j = 2 by omega) with rfl | rfl | rfl <;> rfl) (Nat.le_of_ble_eq_true rfl) (Nat.le_of_ble_eq_true rfl) dX0_init_86 (fun q86_6 H hP hD hS => ?_)
  have hP : va_P D vwCl [(h0, .inr (4, [.ref pg, .ref st, .ref q15_1, .int 0, .ref q29_2, .ref q43_3, .ref q57_4, .ref q71_5, .int 0, .null, .null, .null, .int 0, .int 0, .int 0])), (q15_1, .inr (13, [.int 5, .ref q1_22, .int 0])), (q1_22, .inl ((k 0), 320, .inl (fun _ => 0))), (q29_2, .inr (13, [.int 1, .ref q1_36, .int 0])), (q1_36, .inl ((k 0), 64, .inl (fun _ => 0))), (q43_3, .inr (13, [.int 3, .ref q1_50, .int 0])), (q1_50, .inl ((k 0), 192, .inl (fun _ => 0))), (q57_4, .inr (13, [.int 4, .ref q1_64, .int 0])), (q1_64, .inl ((k 0), 256, .inl (fun _ => 0))), (q71_5, .inr (13, [.int 6, .ref q1_79, .int 0])), (q1_79, .inl ((k 0), 384, .inl (fun _ => 0))), (q86_6, .inr (13, [.int 0, .null, .int 0]))] H := hP
  have hD : va_D A [(h0, .inr (4, [.ref pg, .ref st, .ref q15_1, .int 0, .ref q29_2, .ref q43_3, .ref q57_4, .ref q71_5, .int 0, .null, .null, .null, .int 0, .int 0, .int 0])), (q15_1, .inr (13, [.int 5, .ref q1_22, .int 0])), (q1_22, .inl ((k 0), 320, .inl (fun _ => 0))), (q29_2, .inr (13, [.int 1, .ref q1_36, .int 0])), (q1_36, .inl ((k 0), 64, .inl (fun _ => 0))), (q43_3, .inr (13, [.int 3, .ref q1_50, .int 0])), (q1_50, .inl ((k 0), 192, .inl (fun _ => 0))), (q57_4, .inr (13, [.int 4, .ref q1_64, .int 0])), (q1_64, .inl ((k 0), 256, .inl (fun _ => 0))), (q71_5, .inr (13, [.int 6, .ref q1_79, .int 0])), (q1_79, .inl ((k 0), 384, .inl (fun _ => 0))), (q86_6, .inr (13, [.int 0, .null, .int 0]))] := hD
  refine lv_dup hx hb dX0_init_89 rfl ?_
  refine lv_iconst (v := 2) hx hb dX0_init_90 (by decide) ?_
  refine lv_bipush (v := 64) hx hb dX0_init_91 (by decide) ?_
  refine ov_callI hx hb hml hown hts (c_Table_init_2_64 l e0 D k q86_6) (cwI 2 hts gX0_init_X9_init rfl rfl rfl (hts (.initialized RX9) (by decide +kernel)) (hts (.methodLink RX0 21 yX9_init) (by decide +kernel)) (hts (.instanceMethod yX9_init) (by decide +kernel)) rfl (by decide +kernel) ⟨Nat.le_of_ble_eq_true rfl, Nat.le_of_ble_eq_true rfl⟩) hK hP hD hS hA hE [11] [0, 1, 2, 3, 4, 5, 6, 7, 8, 9, 10] rfl rfl (by decide) (by decide) (by decide) (wr := [(h0, .inr (4, [.ref pg, .ref st, .ref q15_1, .int 0, .ref q29_2, .ref q43_3, .ref q57_4, .ref q71_5, .int 0, .null, .null, .null, .int 0, .int 0, .int 0])), (q15_1, .inr (13, [.int 5, .ref q1_22, .int 0])), (q1_22, .inl ((k 0), 320, .inl (fun _ => 0))), (q29_2, .inr (13, [.int 1, .ref q1_36, .int 0])), (q1_36, .inl ((k 0), 64, .inl (fun _ => 0))), (q43_3, .inr (13, [.int 3, .ref q1_50, .int 0])), (q1_50, .inl ((k 0), 192, .inl (fun _ => 0))), (q57_4, .inr (13, [.int 4, .ref q1_64, .int 0])), (q1_64, .inl ((k 0), 256, .inl (fun _ => 0))), (q71_5, .inr (13, [.int 6, .ref q1_79, .int 0])), (q1_79, .inl ((k 0), 384, .inl (fun _ => 0)))]) (w2 := fun u => [(h0, .inr (4, [.ref pg, .ref st, .ref q15_1, .int 0, .ref q29_2, .ref q43_3, .ref q57_4, .ref q71_5, .int 0, .null, .null, .null, .int 0, .int 0, .int 0])), (q15_1, .inr (13, [.int 5, .ref q1_22, .int 0])), (q1_22, .inl ((k 0), 320, .inl (fun _ => 0))), (q29_2, .inr (13, [.int 1, .ref q1_36, .int 0])), (q1_36, .inl ((k 0), 64, .inl (fun _ => 0))), (q43_3, .inr (13, [.int 3, .ref q1_50, .int 0])), (q1_50, .inl ((k 0), 192, .inl (fun _ => 0))), (q57_4, .inr (13, [.int 4, .ref q1_64, .int 0])), (q1_64, .inl ((k 0), 256, .inl (fun _ => 0))), (q71_5, .inr (13, [.int 6, .ref q1_79, .int 0])), (q1_79, .inl ((k 0), 384, .inl (fun _ => 0))), (q86_6, .inr (13, [.int 2, .ref u, .int 0])), (u, .inl ((k 0), 128, .inl (fun _ => 0)))]) (fun _ => rfl) hl.1 rfl (Nat.le_of_ble_eq_true rfl) rfl ⟨Nat.le_of_ble_eq_true rfl, Nat.le_of_ble_eq_true rfl⟩ dX0_init_93 (fun u H locs hq hP hD hS => ?_)
  obtain ⟨q1_93, hu9⟩ : ∃ z, z = u := ⟨_, rfl⟩; subst hu9
  have hP : va_P D vwCl [(h0, .inr (4, [.ref pg, .ref st, .ref q15_1, .int 0, .ref q29_2, .ref q43_3, .ref q57_4, .ref q71_5, .int 0, .null, .null, .null, .int 0, .int 0, .int 0])), (q15_1, .inr (13, [.int 5, .ref q1_22, .int 0])), (q1_22, .inl ((k 0), 320, .inl (fun _ => 0))), (q29_2, .inr (13, [.int 1, .ref q1_36, .int 0])), (q1_36, .inl ((k 0), 64, .inl (fun _ => 0))), (q43_3, .inr (13, [.int 3, .ref q1_50, .int 0])), (q1_50, .inl ((k 0), 192, .inl (fun _ => 0))), (q57_4, .inr (13, [.int 4, .ref q1_64, .int 0])), (q1_64, .inl ((k 0), 256, .inl (fun _ => 0))), (q71_5, .inr (13, [.int 6, .ref q1_79, .int 0])), (q1_79, .inl ((k 0), 384, .inl (fun _ => 0))), (q86_6, .inr (13, [.int 2, .ref q1_93, .int 0])), (q1_93, .inl ((k 0), 128, .inl (fun _ => 0)))] H := hP
  have hD : va_D A [(h0, .inr (4, [.ref pg, .ref st, .ref q15_1, .int 0, .ref q29_2, .ref q43_3, .ref q57_4, .ref q71_5, .int 0, .null, .null, .null, .int 0, .int 0, .int 0])), (q15_1, .inr (13, [.int 5, .ref q1_22, .int 0])), (q1_22, .inl ((k 0), 320, .inl (fun _ => 0))), (q29_2, .inr (13, [.int 1, .ref q1_36, .int 0])), (q1_36, .inl ((k 0), 64, .inl (fun _ => 0))), (q43_3, .inr (13, [.int 3, .ref q1_50, .int 0])), (q1_50, .inl ((k 0), 192, .inl (fun _ => 0))), (q57_4, .inr (13, [.int 4, .ref q1_64, .int 0])), (q1_64, .inl ((k 0), 256, .inl (fun _ => 0))), (q71_5, .inr (13, [.int 6, .ref q1_79, .int 0])), (q1_79, .inl ((k 0), 384, .inl (fun _ => 0))), (q86_6, .inr (13, [.int 2, .ref q1_93, .int 0])), (q1_93, .inl ((k 0), 128, .inl (fun _ => 0)))] := hD
  refine va_putF (D := D) (ci := 4) (v := .ref q86_6) (ty := (tyX0 9)) (C := RX0) (T := TX0) (N := 15) hx hb hts iw_X0_init_X0 tyX0 tyX0_ok nmX0 hown hK hP hD hS 0 rfl rfl 9 (by decide) (hts (.fieldLink RX0 40 "ModedMill$Breadth" "bindings" "LModedMill$Table;") (by decide +kernel)) (fun _ h9 => h9) rfl hin rfl (by decide +kernel) rfl rfl (Nat.le_of_ble_eq_true rfl) dX0_init_96 (fun H locs hP hD hS => ?_)
  have hP : va_P D vwCl [(h0, .inr (4, [.ref pg, .ref st, .ref q15_1, .int 0, .ref q29_2, .ref q43_3, .ref q57_4, .ref q71_5, .int 0, .ref q86_6, .null, .null, .int 0, .int 0, .int 0])), (q15_1, .inr (13, [.int 5, .ref q1_22, .int 0])), (q1_22, .inl ((k 0), 320, .inl (fun _ => 0))), (q29_2, .inr (13, [.int 1, .ref q1_36, .int 0])), (q1_36, .inl ((k 0), 64, .inl (fun _ => 0))), (q43_3, .inr (13, [.int 3, .ref q1_50, .int 0])), (q1_50, .inl ((k 0), 192, .inl (fun _ => 0))), (q57_4, .inr (13, [.int 4, .ref q1_64, .int 0])), (q1_64, .inl ((k 0), 256, .inl (fun _ => 0))), (q71_5, .inr (13, [.int 6, .ref q1_79, .int 0])), (q1_79, .inl ((k 0), 384, .inl (fun _ => 0))), (q86_6, .inr (13, [.int 2, .ref q1_93, .int 0])), (q1_93, .inl ((k 0), 128, .inl (fun _ => 0)))] H := hP
  have hD : va_D A [(h0, .inr (4, [.ref pg, .ref st, .ref q15_1, .int 0, .ref q29_2, .ref q43_3, .ref q57_4, .ref q71_5, .int 0, .ref q86_6, .null, .null, .int 0, .int 0, .int 0])), (q15_1, .inr (13, [.int 5, .ref q1_22, .int 0])), (q1_22, .inl ((k 0), 320, .inl (fun _ => 0))), (q29_2, .inr (13, [.int 1, .ref q1_36, .int 0])), (q1_36, .inl ((k 0), 64, .inl (fun _ => 0))), (q43_3, .inr (13, [.int 3, .ref q1_50, .int 0])), (q1_50, .inl ((k 0), 192, .inl (fun _ => 0))), (q57_4, .inr (13, [.int 4, .ref q1_64, .int 0])), (q1_64, .inl ((k 0), 256, .inl (fun _ => 0))), (q71_5, .inr (13, [.int 6, .ref q1_79, .int 0])), (q1_79, .inl ((k 0), 384, .inl (fun _ => 0))), (q86_6, .inr (13, [.int 2, .ref q1_93, .int 0])), (q1_93, .inl ((k 0), 128, .inl (fun _ => 0)))] := hD
  refine lv_aload_n hx hb dX0_init_99 rfl (lv_at hl 0 rfl) ?_
  refine va_new (D := D) (ci := 13) (fs := [.int 0, .null, .int 0]) (C := RX9) (T := TX9) (N := 3) hx hb hts iw_X0_init_X9 tyX9 tyX9_ok hown (hts (.classLink RX0 19 RX9) (by decide +kernel)) (hts (.instantiable RX9 3) (by decide +kernel)) (hts (.initialized RX9) (by decide +kernel)) hK hP hD hS hA rfl (fun j hj => by rcases (show j = 0 ∨ j = 1 ∨ j = 2 by omega) with rfl | rfl | rfl <;> rfl) (Nat.le_of_ble_eq_true rfl) (Nat.le_of_ble_eq_true rfl) dX0_init_100 (fun q100_7 H hP hD hS => ?_)
  have hP : va_P D vwCl [(h0, .inr (4, [.ref pg, .ref st, .ref q15_1, .int 0, .ref q29_2, .ref q43_3, .ref q57_4, .ref q71_5, .int 0, .ref q86_6, .null, .null, .int 0, .int 0, .int 0])), (q15_1, .inr (13, [.int 5, .ref q1_22, .int 0])), (q1_22, .inl ((k 0), 320, .inl (fun _ => 0))), (q29_2, .inr (13, [.int 1, .ref q1_36, .int 0])), (q1_36, .inl ((k 0), 64, .inl (fun _ => 0))), (q43_3, .inr (13, [.int 3, .ref q1_50, .int 0])), (q1_50, .inl ((k 0), 192, .inl (fun _ => 0))), (q57_4, .inr (13, [.int 4, .ref q1_64, .int 0])), (q1_64, .inl ((k 0), 256, .inl (fun _ => 0))), (q71_5, .inr (13, [.int 6, .ref q1_79, .int 0])), (q1_79, .inl ((k 0), 384, .inl (fun _ => 0))), (q86_6, .inr (13, [.int 2, .ref q1_93, .int 0])), (q1_93, .inl ((k 0), 128, .inl (fun _ => 0))), (q100_7, .inr (13, [.int 0, .null, .int 0]))] H := hP
  have hD : va_D A [(h0, .inr (4, [.ref pg, .ref st, .ref q15_1, .int 0, .ref q29_2, .ref q43_3, .ref q57_4, .ref q71_5, .int 0, .ref q86_6, .null, .null, .int 0, .int 0, .int 0])), (q15_1, .inr (13, [.int 5, .ref q1_22, .int 0])), (q1_22, .inl ((k 0), 320, .inl (fun _ => 0))), (q29_2, .inr (13, [.int 1, .ref q1_36, .int 0])), (q1_36, .inl ((k 0), 64, .inl (fun _ => 0))), (q43_3, .inr (13, [.int 3, .ref q1_50, .int 0])), (q1_50, .inl ((k 0), 192, .inl (fun _ => 0))), (q57_4, .inr (13, [.int 4, .ref q1_64, .int 0])), (q1_64, .inl ((k 0), 256, .inl (fun _ => 0))), (q71_5, .inr (13, [.int 6, .ref q1_79, .int 0])), (q1_79, .inl ((k 0), 384, .inl (fun _ => 0))), (q86_6, .inr (13, [.int 2, .ref q1_93, .int 0])), (q1_93, .inl ((k 0), 128, .inl (fun _ => 0))), (q100_7, .inr (13, [.int 0, .null, .int 0]))] := hD
  refine lv_dup hx hb dX0_init_103 rfl ?_
  refine lv_iconst (v := 4) hx hb dX0_init_104 (by decide) ?_
  refine lv_bipush (v := 8) hx hb dX0_init_105 (by decide) ?_
  refine ov_callI hx hb hml hown hts (c_Table_init_4_8 l e0 D k q100_7) (cwI 2 hts gX0_init_X9_init rfl rfl rfl (hts (.initialized RX9) (by decide +kernel)) (hts (.methodLink RX0 21 yX9_init) (by decide +kernel)) (hts (.instanceMethod yX9_init) (by decide +kernel)) rfl (by decide +kernel) ⟨Nat.le_of_ble_eq_true rfl, Nat.le_of_ble_eq_true rfl⟩) hK hP hD hS hA hE [13] [0, 1, 2, 3, 4, 5, 6, 7, 8, 9, 10, 11, 12] rfl rfl (by decide) (by decide) (by decide) (wr := [(h0, .inr (4, [.ref pg, .ref st, .ref q15_1, .int 0, .ref q29_2, .ref q43_3, .ref q57_4, .ref q71_5, .int 0, .ref q86_6, .null, .null, .int 0, .int 0, .int 0])), (q15_1, .inr (13, [.int 5, .ref q1_22, .int 0])), (q1_22, .inl ((k 0), 320, .inl (fun _ => 0))), (q29_2, .inr (13, [.int 1, .ref q1_36, .int 0])), (q1_36, .inl ((k 0), 64, .inl (fun _ => 0))), (q43_3, .inr (13, [.int 3, .ref q1_50, .int 0])), (q1_50, .inl ((k 0), 192, .inl (fun _ => 0))), (q57_4, .inr (13, [.int 4, .ref q1_64, .int 0])), (q1_64, .inl ((k 0), 256, .inl (fun _ => 0))), (q71_5, .inr (13, [.int 6, .ref q1_79, .int 0])), (q1_79, .inl ((k 0), 384, .inl (fun _ => 0))), (q86_6, .inr (13, [.int 2, .ref q1_93, .int 0])), (q1_93, .inl ((k 0), 128, .inl (fun _ => 0)))]) (w2 := fun u => [(h0, .inr (4, [.ref pg, .ref st, .ref q15_1, .int 0, .ref q29_2, .ref q43_3, .ref q57_4, .ref q71_5, .int 0, .ref q86_6, .null, .null, .int 0, .int 0, .int 0])), (q15_1, .inr (13, [.int 5, .ref q1_22, .int 0])), (q1_22, .inl ((k 0), 320, .inl (fun _ => 0))), (q29_2, .inr (13, [.int 1, .ref q1_36, .int 0])), (q1_36, .inl ((k 0), 64, .inl (fun _ => 0))), (q43_3, .inr (13, [.int 3, .ref q1_50, .int 0])), (q1_50, .inl ((k 0), 192, .inl (fun _ => 0))), (q57_4, .inr (13, [.int 4, .ref q1_64, .int 0])), (q1_64, .inl ((k 0), 256, .inl (fun _ => 0))), (q71_5, .inr (13, [.int 6, .ref q1_79, .int 0])), (q1_79, .inl ((k 0), 384, .inl (fun _ => 0))), (q86_6, .inr (13, [.int 2, .ref q1_93, .int 0])), (q1_93, .inl ((k 0), 128, .inl (fun _ => 0))), (q100_7, .inr (13, [.int 4, .ref u, .int 0])), (u, .inl ((k 0), 32, .inl (fun _ => 0)))]) (fun _ => rfl) hl.1 rfl (Nat.le_of_ble_eq_true rfl) rfl ⟨Nat.le_of_ble_eq_true rfl, Nat.le_of_ble_eq_true rfl⟩ dX0_init_107 (fun u H locs hq hP hD hS => ?_)
  obtain ⟨q1_107, hu9⟩ : ∃ z, z = u := ⟨_, rfl⟩; subst hu9
  have hP : va_P D vwCl [(h0, .inr (4, [.ref pg, .ref st, .ref q15_1, .int 0, .ref q29_2, .ref q43_3, .ref q57_4, .ref q71_5, .int 0, .ref q86_6, .null, .null, .int 0, .int 0, .int 0])), (q15_1, .inr (13, [.int 5, .ref q1_22, .int 0])), (q1_22, .inl ((k 0), 320, .inl (fun _ => 0))), (q29_2, .inr (13, [.int 1, .ref q1_36, .int 0])), (q1_36, .inl ((k 0), 64, .inl (fun _ => 0))), (q43_3, .inr (13, [.int 3, .ref q1_50, .int 0])), (q1_50, .inl ((k 0), 192, .inl (fun _ => 0))), (q57_4, .inr (13, [.int 4, .ref q1_64, .int 0])), (q1_64, .inl ((k 0), 256, .inl (fun _ => 0))), (q71_5, .inr (13, [.int 6, .ref q1_79, .int 0])), (q1_79, .inl ((k 0), 384, .inl (fun _ => 0))), (q86_6, .inr (13, [.int 2, .ref q1_93, .int 0])), (q1_93, .inl ((k 0), 128, .inl (fun _ => 0))), (q100_7, .inr (13, [.int 4, .ref q1_107, .int 0])), (q1_107, .inl ((k 0), 32, .inl (fun _ => 0)))] H := hP
  have hD : va_D A [(h0, .inr (4, [.ref pg, .ref st, .ref q15_1, .int 0, .ref q29_2, .ref q43_3, .ref q57_4, .ref q71_5, .int 0, .ref q86_6, .null, .null, .int 0, .int 0, .int 0])), (q15_1, .inr (13, [.int 5, .ref q1_22, .int 0])), (q1_22, .inl ((k 0), 320, .inl (fun _ => 0))), (q29_2, .inr (13, [.int 1, .ref q1_36, .int 0])), (q1_36, .inl ((k 0), 64, .inl (fun _ => 0))), (q43_3, .inr (13, [.int 3, .ref q1_50, .int 0])), (q1_50, .inl ((k 0), 192, .inl (fun _ => 0))), (q57_4, .inr (13, [.int 4, .ref q1_64, .int 0])), (q1_64, .inl ((k 0), 256, .inl (fun _ => 0))), (q71_5, .inr (13, [.int 6, .ref q1_79, .int 0])), (q1_79, .inl ((k 0), 384, .inl (fun _ => 0))), (q86_6, .inr (13, [.int 2, .ref q1_93, .int 0])), (q1_93, .inl ((k 0), 128, .inl (fun _ => 0))), (q100_7, .inr (13, [.int 4, .ref q1_107, .int 0])), (q1_107, .inl ((k 0), 32, .inl (fun _ => 0)))] := hD
  refine va_putF (D := D) (ci := 4) (v := .ref q100_7) (ty := (tyX0 10)) (C := RX0) (T := TX0) (N := 15) hx hb hts iw_X0_init_X0 tyX0 tyX0_ok nmX0 hown hK hP hD hS 0 rfl rfl 10 (by decide) (hts (.fieldLink RX0 43 "ModedMill$Breadth" "levels" "LModedMill$Table;") (by decide +kernel)) (fun _ h9 => h9) rfl hin rfl (by decide +kernel) rfl rfl (Nat.le_of_ble_eq_true rfl) dX0_init_110 (fun H locs hP hD hS => ?_)
  have hP : va_P D vwCl [(h0, .inr (4, [.ref pg, .ref st, .ref q15_1, .int 0, .ref q29_2, .ref q43_3, .ref q57_4, .ref q71_5, .int 0, .ref q86_6, .ref q100_7, .null, .int 0, .int 0, .int 0])), (q15_1, .inr (13, [.int 5, .ref q1_22, .int 0])), (q1_22, .inl ((k 0), 320, .inl (fun _ => 0))), (q29_2, .inr (13, [.int 1, .ref q1_36, .int 0])), (q1_36, .inl ((k 0), 64, .inl (fun _ => 0))), (q43_3, .inr (13, [.int 3, .ref q1_50, .int 0])), (q1_50, .inl ((k 0), 192, .inl (fun _ => 0))), (q57_4, .inr (13, [.int 4, .ref q1_64, .int 0])), (q1_64, .inl ((k 0), 256, .inl (fun _ => 0))), (q71_5, .inr (13, [.int 6, .ref q1_79, .int 0])), (q1_79, .inl ((k 0), 384, .inl (fun _ => 0))), (q86_6, .inr (13, [.int 2, .ref q1_93, .int 0])), (q1_93, .inl ((k 0), 128, .inl (fun _ => 0))), (q100_7, .inr (13, [.int 4, .ref q1_107, .int 0])), (q1_107, .inl ((k 0), 32, .inl (fun _ => 0)))] H := hP
  have hD : va_D A [(h0, .inr (4, [.ref pg, .ref st, .ref q15_1, .int 0, .ref q29_2, .ref q43_3, .ref q57_4, .ref q71_5, .int 0, .ref q86_6, .ref q100_7, .null, .int 0, .int 0, .int 0])), (q15_1, .inr (13, [.int 5, .ref q1_22, .int 0])), (q1_22, .inl ((k 0), 320, .inl (fun _ => 0))), (q29_2, .inr (13, [.int 1, .ref q1_36, .int 0])), (q1_36, .inl ((k 0), 64, .inl (fun _ => 0))), (q43_3, .inr (13, [.int 3, .ref q1_50, .int 0])), (q1_50, .inl ((k 0), 192, .inl (fun _ => 0))), (q57_4, .inr (13, [.int 4, .ref q1_64, .int 0])), (q1_64, .inl ((k 0), 256, .inl (fun _ => 0))), (q71_5, .inr (13, [.int 6, .ref q1_79, .int 0])), (q1_79, .inl ((k 0), 384, .inl (fun _ => 0))), (q86_6, .inr (13, [.int 2, .ref q1_93, .int 0])), (q1_93, .inl ((k 0), 128, .inl (fun _ => 0))), (q100_7, .inr (13, [.int 4, .ref q1_107, .int 0])), (q1_107, .inl ((k 0), 32, .inl (fun _ => 0)))] := hD
  refine lv_aload_n hx hb dX0_init_113 rfl (lv_at hl 0 rfl) ?_
  refine va_new (D := D) (ci := 13) (fs := [.int 0, .null, .int 0]) (C := RX9) (T := TX9) (N := 3) hx hb hts iw_X0_init_X9 tyX9 tyX9_ok hown (hts (.classLink RX0 19 RX9) (by decide +kernel)) (hts (.instantiable RX9 3) (by decide +kernel)) (hts (.initialized RX9) (by decide +kernel)) hK hP hD hS hA rfl (fun j hj => by rcases (show j = 0 ∨ j = 1 ∨ j = 2 by omega) with rfl | rfl | rfl <;> rfl) (Nat.le_of_ble_eq_true rfl) (Nat.le_of_ble_eq_true rfl) dX0_init_114 (fun q114_8 H hP hD hS => ?_)
  have hP : va_P D vwCl [(h0, .inr (4, [.ref pg, .ref st, .ref q15_1, .int 0, .ref q29_2, .ref q43_3, .ref q57_4, .ref q71_5, .int 0, .ref q86_6, .ref q100_7, .null, .int 0, .int 0, .int 0])), (q15_1, .inr (13, [.int 5, .ref q1_22, .int 0])), (q1_22, .inl ((k 0), 320, .inl (fun _ => 0))), (q29_2, .inr (13, [.int 1, .ref q1_36, .int 0])), (q1_36, .inl ((k 0), 64, .inl (fun _ => 0))), (q43_3, .inr (13, [.int 3, .ref q1_50, .int 0])), (q1_50, .inl ((k 0), 192, .inl (fun _ => 0))), (q57_4, .inr (13, [.int 4, .ref q1_64, .int 0])), (q1_64, .inl ((k 0), 256, .inl (fun _ => 0))), (q71_5, .inr (13, [.int 6, .ref q1_79, .int 0])), (q1_79, .inl ((k 0), 384, .inl (fun _ => 0))), (q86_6, .inr (13, [.int 2, .ref q1_93, .int 0])), (q1_93, .inl ((k 0), 128, .inl (fun _ => 0))), (q100_7, .inr (13, [.int 4, .ref q1_107, .int 0])), (q1_107, .inl ((k 0), 32, .inl (fun _ => 0))), (q114_8, .inr (13, [.int 0, .null, .int 0]))] H := hP
  have hD : va_D A [(h0, .inr (4, [.ref pg, .ref st, .ref q15_1, .int 0, .ref q29_2, .ref q43_3, .ref q57_4, .ref q71_5, .int 0, .ref q86_6, .ref q100_7, .null, .int 0, .int 0, .int 0])), (q15_1, .inr (13, [.int 5, .ref q1_22, .int 0])), (q1_22, .inl ((k 0), 320, .inl (fun _ => 0))), (q29_2, .inr (13, [.int 1, .ref q1_36, .int 0])), (q1_36, .inl ((k 0), 64, .inl (fun _ => 0))), (q43_3, .inr (13, [.int 3, .ref q1_50, .int 0])), (q1_50, .inl ((k 0), 192, .inl (fun _ => 0))), (q57_4, .inr (13, [.int 4, .ref q1_64, .int 0])), (q1_64, .inl ((k 0), 256, .inl (fun _ => 0))), (q71_5, .inr (13, [.int 6, .ref q1_79, .int 0])), (q1_79, .inl ((k 0), 384, .inl (fun _ => 0))), (q86_6, .inr (13, [.int 2, .ref q1_93, .int 0])), (q1_93, .inl ((k 0), 128, .inl (fun _ => 0))), (q100_7, .inr (13, [.int 4, .ref q1_107, .int 0])), (q1_107, .inl ((k 0), 32, .inl (fun _ => 0))), (q114_8, .inr (13, [.int 0, .null, .int 0]))] := hD
  refine lv_dup hx hb dX0_init_117 rfl ?_
  refine lv_iconst (v := 3) hx hb dX0_init_118 (by decide) ?_
  refine lv_bipush (v := 64) hx hb dX0_init_119 (by decide) ?_
  refine ov_callI hx hb hml hown hts (c_Table_init_3_64 l e0 D k q114_8) (cwI 2 hts gX0_init_X9_init rfl rfl rfl (hts (.initialized RX9) (by decide +kernel)) (hts (.methodLink RX0 21 yX9_init) (by decide +kernel)) (hts (.instanceMethod yX9_init) (by decide +kernel)) rfl (by decide +kernel) ⟨Nat.le_of_ble_eq_true rfl, Nat.le_of_ble_eq_true rfl⟩) hK hP hD hS hA hE [15] [0, 1, 2, 3, 4, 5, 6, 7, 8, 9, 10, 11, 12, 13, 14] rfl rfl (by decide) (by decide) (by decide) (wr := [(h0, .inr (4, [.ref pg, .ref st, .ref q15_1, .int 0, .ref q29_2, .ref q43_3, .ref q57_4, .ref q71_5, .int 0, .ref q86_6, .ref q100_7, .null, .int 0, .int 0, .int 0])), (q15_1, .inr (13, [.int 5, .ref q1_22, .int 0])), (q1_22, .inl ((k 0), 320, .inl (fun _ => 0))), (q29_2, .inr (13, [.int 1, .ref q1_36, .int 0])), (q1_36, .inl ((k 0), 64, .inl (fun _ => 0))), (q43_3, .inr (13, [.int 3, .ref q1_50, .int 0])), (q1_50, .inl ((k 0), 192, .inl (fun _ => 0))), (q57_4, .inr (13, [.int 4, .ref q1_64, .int 0])), (q1_64, .inl ((k 0), 256, .inl (fun _ => 0))), (q71_5, .inr (13, [.int 6, .ref q1_79, .int 0])), (q1_79, .inl ((k 0), 384, .inl (fun _ => 0))), (q86_6, .inr (13, [.int 2, .ref q1_93, .int 0])), (q1_93, .inl ((k 0), 128, .inl (fun _ => 0))), (q100_7, .inr (13, [.int 4, .ref q1_107, .int 0])), (q1_107, .inl ((k 0), 32, .inl (fun _ => 0)))]) (w2 := fun u => [(h0, .inr (4, [.ref pg, .ref st, .ref q15_1, .int 0, .ref q29_2, .ref q43_3, .ref q57_4, .ref q71_5, .int 0, .ref q86_6, .ref q100_7, .null, .int 0, .int 0, .int 0])), (q15_1, .inr (13, [.int 5, .ref q1_22, .int 0])), (q1_22, .inl ((k 0), 320, .inl (fun _ => 0))), (q29_2, .inr (13, [.int 1, .ref q1_36, .int 0])), (q1_36, .inl ((k 0), 64, .inl (fun _ => 0))), (q43_3, .inr (13, [.int 3, .ref q1_50, .int 0])), (q1_50, .inl ((k 0), 192, .inl (fun _ => 0))), (q57_4, .inr (13, [.int 4, .ref q1_64, .int 0])), (q1_64, .inl ((k 0), 256, .inl (fun _ => 0))), (q71_5, .inr (13, [.int 6, .ref q1_79, .int 0])), (q1_79, .inl ((k 0), 384, .inl (fun _ => 0))), (q86_6, .inr (13, [.int 2, .ref q1_93, .int 0])), (q1_93, .inl ((k 0), 128, .inl (fun _ => 0))), (q100_7, .inr (13, [.int 4, .ref q1_107, .int 0])), (q1_107, .inl ((k 0), 32, .inl (fun _ => 0))), (q114_8, .inr (13, [.int 3, .ref u, .int 0])), (u, .inl ((k 0), 192, .inl (fun _ => 0)))]) (fun _ => rfl) hl.1 rfl (Nat.le_of_ble_eq_true rfl) rfl ⟨Nat.le_of_ble_eq_true rfl, Nat.le_of_ble_eq_true rfl⟩ dX0_init_121 (fun u H locs hq hP hD hS => ?_)
  obtain ⟨q1_121, hu9⟩ : ∃ z, z = u := ⟨_, rfl⟩; subst hu9
  have hP : va_P D vwCl [(h0, .inr (4, [.ref pg, .ref st, .ref q15_1, .int 0, .ref q29_2, .ref q43_3, .ref q57_4, .ref q71_5, .int 0, .ref q86_6, .ref q100_7, .null, .int 0, .int 0, .int 0])), (q15_1, .inr (13, [.int 5, .ref q1_22, .int 0])), (q1_22, .inl ((k 0), 320, .inl (fun _ => 0))), (q29_2, .inr (13, [.int 1, .ref q1_36, .int 0])), (q1_36, .inl ((k 0), 64, .inl (fun _ => 0))), (q43_3, .inr (13, [.int 3, .ref q1_50, .int 0])), (q1_50, .inl ((k 0), 192, .inl (fun _ => 0))), (q57_4, .inr (13, [.int 4, .ref q1_64, .int 0])), (q1_64, .inl ((k 0), 256, .inl (fun _ => 0))), (q71_5, .inr (13, [.int 6, .ref q1_79, .int 0])), (q1_79, .inl ((k 0), 384, .inl (fun _ => 0))), (q86_6, .inr (13, [.int 2, .ref q1_93, .int 0])), (q1_93, .inl ((k 0), 128, .inl (fun _ => 0))), (q100_7, .inr (13, [.int 4, .ref q1_107, .int 0])), (q1_107, .inl ((k 0), 32, .inl (fun _ => 0))), (q114_8, .inr (13, [.int 3, .ref q1_121, .int 0])), (q1_121, .inl ((k 0), 192, .inl (fun _ => 0)))] H := hP
  have hD : va_D A [(h0, .inr (4, [.ref pg, .ref st, .ref q15_1, .int 0, .ref q29_2, .ref q43_3, .ref q57_4, .ref q71_5, .int 0, .ref q86_6, .ref q100_7, .null, .int 0, .int 0, .int 0])), (q15_1, .inr (13, [.int 5, .ref q1_22, .int 0])), (q1_22, .inl ((k 0), 320, .inl (fun _ => 0))), (q29_2, .inr (13, [.int 1, .ref q1_36, .int 0])), (q1_36, .inl ((k 0), 64, .inl (fun _ => 0))), (q43_3, .inr (13, [.int 3, .ref q1_50, .int 0])), (q1_50, .inl ((k 0), 192, .inl (fun _ => 0))), (q57_4, .inr (13, [.int 4, .ref q1_64, .int 0])), (q1_64, .inl ((k 0), 256, .inl (fun _ => 0))), (q71_5, .inr (13, [.int 6, .ref q1_79, .int 0])), (q1_79, .inl ((k 0), 384, .inl (fun _ => 0))), (q86_6, .inr (13, [.int 2, .ref q1_93, .int 0])), (q1_93, .inl ((k 0), 128, .inl (fun _ => 0))), (q100_7, .inr (13, [.int 4, .ref q1_107, .int 0])), (q1_107, .inl ((k 0), 32, .inl (fun _ => 0))), (q114_8, .inr (13, [.int 3, .ref q1_121, .int 0])), (q1_121, .inl ((k 0), 192, .inl (fun _ => 0)))] := hD
  refine va_putF (D := D) (ci := 4) (v := .ref q114_8) (ty := (tyX0 11)) (C := RX0) (T := TX0) (N := 15) hx hb hts iw_X0_init_X0 tyX0 tyX0_ok nmX0 hown hK hP hD hS 0 rfl rfl 11 (by decide) (hts (.fieldLink RX0 46 "ModedMill$Breadth" "work" "LModedMill$Table;") (by decide +kernel)) (fun _ h9 => h9) rfl hin rfl (by decide +kernel) rfl rfl (Nat.le_of_ble_eq_true rfl) dX0_init_124 (fun H locs hP hD hS => ?_)
  have hP : va_P D vwCl [(h0, .inr (4, [.ref pg, .ref st, .ref q15_1, .int 0, .ref q29_2, .ref q43_3, .ref q57_4, .ref q71_5, .int 0, .ref q86_6, .ref q100_7, .ref q114_8, .int 0, .int 0, .int 0])), (q15_1, .inr (13, [.int 5, .ref q1_22, .int 0])), (q1_22, .inl ((k 0), 320, .inl (fun _ => 0))), (q29_2, .inr (13, [.int 1, .ref q1_36, .int 0])), (q1_36, .inl ((k 0), 64, .inl (fun _ => 0))), (q43_3, .inr (13, [.int 3, .ref q1_50, .int 0])), (q1_50, .inl ((k 0), 192, .inl (fun _ => 0))), (q57_4, .inr (13, [.int 4, .ref q1_64, .int 0])), (q1_64, .inl ((k 0), 256, .inl (fun _ => 0))), (q71_5, .inr (13, [.int 6, .ref q1_79, .int 0])), (q1_79, .inl ((k 0), 384, .inl (fun _ => 0))), (q86_6, .inr (13, [.int 2, .ref q1_93, .int 0])), (q1_93, .inl ((k 0), 128, .inl (fun _ => 0))), (q100_7, .inr (13, [.int 4, .ref q1_107, .int 0])), (q1_107, .inl ((k 0), 32, .inl (fun _ => 0))), (q114_8, .inr (13, [.int 3, .ref q1_121, .int 0])), (q1_121, .inl ((k 0), 192, .inl (fun _ => 0)))] H := hP
  have hD : va_D A [(h0, .inr (4, [.ref pg, .ref st, .ref q15_1, .int 0, .ref q29_2, .ref q43_3, .ref q57_4, .ref q71_5, .int 0, .ref q86_6, .ref q100_7, .ref q114_8, .int 0, .int 0, .int 0])), (q15_1, .inr (13, [.int 5, .ref q1_22, .int 0])), (q1_22, .inl ((k 0), 320, .inl (fun _ => 0))), (q29_2, .inr (13, [.int 1, .ref q1_36, .int 0])), (q1_36, .inl ((k 0), 64, .inl (fun _ => 0))), (q43_3, .inr (13, [.int 3, .ref q1_50, .int 0])), (q1_50, .inl ((k 0), 192, .inl (fun _ => 0))), (q57_4, .inr (13, [.int 4, .ref q1_64, .int 0])), (q1_64, .inl ((k 0), 256, .inl (fun _ => 0))), (q71_5, .inr (13, [.int 6, .ref q1_79, .int 0])), (q1_79, .inl ((k 0), 384, .inl (fun _ => 0))), (q86_6, .inr (13, [.int 2, .ref q1_93, .int 0])), (q1_93, .inl ((k 0), 128, .inl (fun _ => 0))), (q100_7, .inr (13, [.int 4, .ref q1_107, .int 0])), (q1_107, .inl ((k 0), 32, .inl (fun _ => 0))), (q114_8, .inr (13, [.int 3, .ref q1_121, .int 0])), (q1_121, .inl ((k 0), 192, .inl (fun _ => 0)))] := hD
  exact ov_ret hx hb hr hlocks (q15_1, q1_22, q29_2, q1_36, q43_3, q1_50, q57_4, q1_64, q71_5, q1_79, q86_6, q1_93, q100_7, q1_107, q114_8, q1_121) (trivial) hK (hP.sub [0, 1, 2, 3, 4, 5, 6, 7, 8, 9, 10, 11, 12, 13, 14, 15, 16] rfl) (hD.sub [0, 1, 2, 3, 4, 5, 6, 7, 8, 9, 10, 11, 12, 13, 14, 15, 16] (by decide) rfl) hS (Nat.le_of_ble_eq_true rfl) (Nat.le_of_ble_eq_true rfl) dX0_init_127
end
section
theorem iw_X11_init_X0 : ∀ w ∈ wsX00, w ∈ wsX11_init := by decide +kernel
theorem iw_X11_init_X10 : ∀ w ∈ wsX100, w ∈ wsX11_init := by decide +kernel
theorem iw_X11_init_X11 : ∀ w ∈ wsX110, w ∈ wsX11_init := by decide +kernel
theorem iw_X11_init_X4 : ∀ w ∈ wsX40, w ∈ wsX11_init := by decide +kernel
theorem iw_X11_init_X7 : ∀ w ∈ wsX70, w ∈ wsX11_init := by decide +kernel
theorem iw_X11_init_X8 : ∀ w ∈ wsX80, w ∈ wsX11_init := by decide +kernel
set_option maxHeartbeats 4000000 in
set_option maxRecDepth 100000 in
/-- ModedMill() -/
theorem c_Mill_init (l : Launch) (e0 : Nat) (D : va_G) (k : Nat → ClassId) (h0 : Nat) : oCv l e0 D (oTy k) yX11_init wsX11_init ({ frames := 5, cells := 49, slots := 3562, locals := 102 } : Room) [.ref h0] [(h0, .inr (15, [.null, .null, .null, .null, .null, .null, .int 0, .int 0, .long 0]))] (S := Nat × Nat × Nat × Nat × Nat × Nat × Nat × Nat × Nat × Nat × Nat × Nat × Nat × Nat × Nat × Nat × Nat × Nat × Nat × Nat × Nat × Nat × Nat × Nat × Nat × Nat × Nat × Nat × Nat × Nat × Nat × Nat × Nat × Nat × Nat × Nat × Nat × Nat × Nat × Nat × Nat × Nat × Nat × Nat × Nat × Nat × Nat × Nat × Nat × (Nat → Int32)) (fun (u : Nat × Nat × Nat × Nat × Nat × Nat × Nat × Nat × Nat × Nat × Nat × Nat × Nat × Nat × Nat × Nat × Nat × Nat × Nat × Nat × Nat × Nat × Nat × Nat × Nat × Nat × Nat × Nat × Nat × Nat × Nat × Nat × Nat × Nat × Nat × Nat × Nat × Nat × Nat × Nat × Nat × Nat × Nat × Nat × Nat × Nat × Nat × Nat × Nat × (Nat → Int32)) => True) (fun u => [(h0, .inr (15, [.ref u.1, .ref u.2.2.2.2.2.2.2.2.1, .ref u.2.2.2.2.2.2.2.2.2.2.2.2.2.2.2.2.2.2.2.2.2.2.2.2.2.2.1, .ref u.2.2.2.2.2.2.2.2.2.2.2.2.2.2.2.2.2.2.2.2.2.2.2.2.2.2.2.2.2.2.2.2.1, .ref u.2.2.2.2.2.2.2.2.2.2.2.2.1, .ref u.2.2.2.2.2.2.2.2.2.2.2.2.2.2.2.2.2.2.2.1, .int 0, .int 0, .long 0])), (u.1, .inr (14, [.int 0, .ref u.2.1, .ref u.2.2.2.1, .ref u.2.2.2.2.2.1, .ref u.2.2.2.2.2.2.2.1])), (u.2.1, .inr (13, [.int 3, .ref u.2.2.1, .int 0])), (u.2.2.1, .inl ((k 0), 30, .inl (fun _ => 0))), (u.2.2.2.1, .inr (13, [.int 4, .ref u.2.2.2.2.1, .int 0])), (u.2.2.2.2.1, .inl ((k 0), 800, .inl (fun _ => 0))), (u.2.2.2.2.2.1, .inr (13, [.int 1, .ref u.2.2.2.2.2.2.1, .int 64])), (u.2.2.2.2.2.2.1, .inl ((k 0), 64, .inl u.2.2.2.2.2.2.2.2.2.2.2.2.2.2.2.2.2.2.2.2.2.2.2.2.2.2.2.2.2.2.2.2.2.2.2.2.2.2.2.2.2.2.2.2.2.2.2.2.2)), (u.2.2.2.2.2.2.2.1, .inl ((k 1), 200, .inr (.inl (fun _ => 0)))), (u.2.2.2.2.2.2.2.2.1, .inr (11, [.ref u.2.2.2.2.2.2.2.2.2.1, .ref u.2.2.2.2.2.2.2.2.2.2.1, .ref u.2.2.2.2.2.2.2.2.2.2.2.1])), (u.2.2.2.2.2.2.2.2.2.1, .inr (3, [.int 0, .ref e0, .int 0])), (u.2.2.2.2.2.2.2.2.2.2.1, .inr (3, [.int 0, .ref e0, .int 0])), (u.2.2.2.2.2.2.2.2.2.2.2.1, .inr (3, [.int 0, .ref e0, .int 0])), (u.2.2.2.2.2.2.2.2.2.2.2.2.1, .inr (12, [.null, .ref u.2.2.2.2.2.2.2.2.2.2.2.2.2.1, .ref u.2.2.2.2.2.2.2.2.2.2.2.2.2.2.2.1, .ref u.2.2.2.2.2.2.2.2.2.2.2.2.2.2.2.2.2.1, .int 0, .int 0, .int 0, .int 101, .int 0, .int 0])), (u.2.2.2.2.2.2.2.2.2.2.2.2.2.1, .inr (13, [.int 1, .ref u.2.2.2.2.2.2.2.2.2.2.2.2.2.2.1, .int 0])), (u.2.2.2.2.2.2.2.2.2.2.2.2.2.2.1, .inl ((k 0), 3, .inl (fun _ => 0))), (u.2.2.2.2.2.2.2.2.2.2.2.2.2.2.2.1, .inr (13, [.int 3, .ref u.2.2.2.2.2.2.2.2.2.2.2.2.2.2.2.2.1, .int 0])), (u.2.2.2.2.2.2.2.2.2.2.2.2.2.2.2.2.1, .inl ((k 0), 150, .inl (fun _ => 0))), (u.2.2.2.2.2.2.2.2.2.2.2.2.2.2.2.2.2.1, .inr (13, [.int 2, .ref u.2.2.2.2.2.2.2.2.2.2.2.2.2.2.2.2.2.2.1, .int 0])), (u.2.2.2.2.2.2.2.2.2.2.2.2.2.2.2.2.2.2.1, .inl ((k 0), 160, .inl (fun _ => 0))), (u.2.2.2.2.2.2.2.2.2.2.2.2.2.2.2.2.2.2.2.1, .inr (12, [.null, .ref u.2.2.2.2.2.2.2.2.2.2.2.2.2.2.2.2.2.2.2.2.1, .ref u.2.2.2.2.2.2.2.2.2.2.2.2.2.2.2.2.2.2.2.2.2.2.1, .ref u.2.2.2.2.2.2.2.2.2.2.2.2.2.2.2.2.2.2.2.2.2.2.2.2.1, .int 0, .int 0, .int 0, .int 101, .int 0, .int 0])), (u.2.2.2.2.2.2.2.2.2.2.2.2.2.2.2.2.2.2.2.2.1, .inr (13, [.int 1, .ref u.2.2.2.2.2.2.2.2.2.2.2.2.2.2.2.2.2.2.2.2.2.1, .int 0])), (u.2.2.2.2.2.2.2.2.2.2.2.2.2.2.2.2.2.2.2.2.2.1, .inl ((k 0), 3, .inl (fun _ => 0))), (u.2.2.2.2.2.2.2.2.2.2.2.2.2.2.2.2.2.2.2.2.2.2.1, .inr (13, [.int 3, .ref u.2.2.2.2.2.2.2.2.2.2.2.2.2.2.2.2.2.2.2.2.2.2.2.1, .int 0])), (u.2.2.2.2.2.2.2.2.2.2.2.2.2.2.2.2.2.2.2.2.2.2.2.1, .inl ((k 0), 150, .inl (fun _ => 0))), (u.2.2.2.2.2.2.2.2.2.2.2.2.2.2.2.2.2.2.2.2.2.2.2.2.1, .inr (13, [.int 2, .ref u.2.2.2.2.2.2.2.2.2.2.2.2.2.2.2.2.2.2.2.2.2.2.2.2.2.1, .int 0])), (u.2.2.2.2.2.2.2.2.2.2.2.2.2.2.2.2.2.2.2.2.2.2.2.2.2.1, .inl ((k 0), 160, .inl (fun _ => 0))), (u.2.2.2.2.2.2.2.2.2.2.2.2.2.2.2.2.2.2.2.2.2.2.2.2.2.2.1, .inr (8, [.ref u.1, .ref u.2.2.2.2.2.2.2.2.2.2.2.2.2.2.2.2.2.2.2.2.2.2.2.2.2.2.2.1, .ref u.2.2.2.2.2.2.2.2.2.2.2.2.2.2.2.2.2.2.2.2.2.2.2.2.2.2.2.2.1, .ref u.2.2.2.2.2.2.2.2.2.2.2.2.2.2.2.2.2.2.2.2.2.2.2.2.2.2.2.2.2.2.1, .ref u.2.2.2.2.2.2.2.2.2.2.2.2.2.2.2.2.2.2.2.1, .int 0, .null, .int 0, .null, .int 0, .int 0, .int 0])), (u.2.2.2.2.2.2.2.2.2.2.2.2.2.2.2.2.2.2.2.2.2.2.2.2.2.2.2.1, .inr (3, [.int 0, .ref e0, .int 0])), (u.2.2.2.2.2.2.2.2.2.2.2.2.2.2.2.2.2.2.2.2.2.2.2.2.2.2.2.2.1, .inr (13, [.int 3, .ref u.2.2.2.2.2.2.2.2.2.2.2.2.2.2.2.2.2.2.2.2.2.2.2.2.2.2.2.2.2.1, .int 0])), (u.2.2.2.2.2.2.2.2.2.2.2.2.2.2.2.2.2.2.2.2.2.2.2.2.2.2.2.2.2.1, .inl ((k 0), 90, .inl (fun _ => 0))), (u.2.2.2.2.2.2.2.2.2.2.2.2.2.2.2.2.2.2.2.2.2.2.2.2.2.2.2.2.2.2.1, .inr (13, [.int 2, .ref u.2.2.2.2.2.2.2.2.2.2.2.2.2.2.2.2.2.2.2.2.2.2.2.2.2.2.2.2.2.2.2.1, .int 0])), (u.2.2.2.2.2.2.2.2.2.2.2.2.2.2.2.2.2.2.2.2.2.2.2.2.2.2.2.2.2.2.2.1, .inl ((k 0), 60, .inl (fun _ => 0))), (u.2.2.2.2.2.2.2.2.2.2.2.2.2.2.2.2.2.2.2.2.2.2.2.2.2.2.2.2.2.2.2.2.1, .inr (4, [.ref u.2.2.2.2.2.2.2.2.1, .ref u.1, .ref u.2.2.2.2.2.2.2.2.2.2.2.2.2.2.2.2.2.2.2.2.2.2.2.2.2.2.2.2.2.2.2.2.2.1, .int 0, .ref u.2.2.2.2.2.2.2.2.2.2.2.2.2.2.2.2.2.2.2.2.2.2.2.2.2.2.2.2.2.2.2.2.2.2.2.1, .ref u.2.2.2.2.2.2.2.2.2.2.2.2.2.2.2.2.2.2.2.2.2.2.2.2.2.2.2.2.2.2.2.2.2.2.2.2.2.1, .ref u.2.2.2.2.2.2.2.2.2.2.2.2.2.2.2.2.2.2.2.2.2.2.2.2.2.2.2.2.2.2.2.2.2.2.2.2.2.2.2.1, .ref u.2.2.2.2.2.2.2.2.2.2.2.2.2.2.2.2.2.2.2.2.2.2.2.2.2.2.2.2.2.2.2.2.2.2.2.2.2.2.2.2.2.1, .int 0, .ref u.2.2.2.2.2.2.2.2.2.2.2.2.2.2.2.2.2.2.2.2.2.2.2.2.2.2.2.2.2.2.2.2.2.2.2.2.2.2.2.2.2.2.2.1, .ref u.2.2.2.2.2.2.2.2.2.2.2.2.2.2.2.2.2.2.2.2.2.2.2.2.2.2.2.2.2.2.2.2.2.2.2.2.2.2.2.2.2.2.2.2.2.1, .ref u.2.2.2.2.2.2.2.2.2.2.2.2.2.2.2.2.2.2.2.2.2.2.2.2.2.2.2.2.2.2.2.2.2.2.2.2.2.2.2.2.2.2.2.2.2.2.2.1, .int 0, .int 0, .int 0])), (u.2.2.2.2.2.2.2.2.2.2.2.2.2.2.2.2.2.2.2.2.2.2.2.2.2.2.2.2.2.2.2.2.2.1, .inr (13, [.int 5, .ref u.2.2.2.2.2.2.2.2.2.2.2.2.2.2.2.2.2.2.2.2.2.2.2.2.2.2.2.2.2.2.2.2.2.2.1, .int 0])), (u.2.2.2.2.2.2.2.2.2.2.2.2.2.2.2.2.2.2.2.2.2.2.2.2.2.2.2.2.2.2.2.2.2.2.1, .inl ((k 0), 320, .inl (fun _ => 0))), (u.2.2.2.2.2.2.2.2.2.2.2.2.2.2.2.2.2.2.2.2.2.2.2.2.2.2.2.2.2.2.2.2.2.2.2.1, .inr (13, [.int 1, .ref u.2.2.2.2.2.2.2.2.2.2.2.2.2.2.2.2.2.2.2.2.2.2.2.2.2.2.2.2.2.2.2.2.2.2.2.2.1, .int 0])), (u.2.2.2.2.2.2.2.2.2.2.2.2.2.2.2.2.2.2.2.2.2.2.2.2.2.2.2.2.2.2.2.2.2.2.2.2.1, .inl ((k 0), 64, .inl (fun _ => 0))), (u.2.2.2.2.2.2.2.2.2.2.2.2.2.2.2.2.2.2.2.2.2.2.2.2.2.2.2.2.2.2.2.2.2.2.2.2.2.1, .inr (13, [.int 3, .ref u.2.2.2.2.2.2.2.2.2.2.2.2.2.2.2.2.2.2.2.2.2.2.2.2.2.2.2.2.2.2.2.2.2.2.2.2.2.2.1, .int 0])), (u.2.2.2.2.2.2.2.2.2.2.2.2.2.2.2.2.2.2.2.2.2.2.2.2.2.2.2.2.2.2.2.2.2.2.2.2.2.2.1, .inl ((k 0), 192, .inl (fun _ => 0))), (u.2.2.2.2.2.2.2.2.2.2.2.2.2.2.2.2.2.2.2.2.2.2.2.2.2.2.2.2.2.2.2.2.2.2.2.2.2.2.2.1, .inr (13, [.int 4, .ref u.2.2.2.2.2.2.2.2.2.2.2.2.2.2.2.2.2.2.2.2.2.2.2.2.2.2.2.2.2.2.2.2.2.2.2.2.2.2.2.2.1, .int 0])), (u.2.2.2.2.2.2.2.2.2.2.2.2.2.2.2.2.2.2.2.2.2.2.2.2.2.2.2.2.2.2.2.2.2.2.2.2.2.2.2.2.1, .inl ((k 0), 256, .inl (fun _ => 0))), (u.2.2.2.2.2.2.2.2.2.2.2.2.2.2.2.2.2.2.2.2.2.2.2.2.2.2.2.2.2.2.2.2.2.2.2.2.2.2.2.2.2.1, .inr (13, [.int 6, .ref u.2.2.2.2.2.2.2.2.2.2.2.2.2.2.2.2.2.2.2.2.2.2.2.2.2.2.2.2.2.2.2.2.2.2.2.2.2.2.2.2.2.2.1, .int 0])), (u.2.2.2.2.2.2.2.2.2.2.2.2.2.2.2.2.2.2.2.2.2.2.2.2.2.2.2.2.2.2.2.2.2.2.2.2.2.2.2.2.2.2.1, .inl ((k 0), 384, .inl (fun _ => 0))), (u.2.2.2.2.2.2.2.2.2.2.2.2.2.2.2.2.2.2.2.2.2.2.2.2.2.2.2.2.2.2.2.2.2.2.2.2.2.2.2.2.2.2.2.1, .inr (13, [.int 2, .ref u.2.2.2.2.2.2.2.2.2.2.2.2.2.2.2.2.2.2.2.2.2.2.2.2.2.2.2.2.2.2.2.2.2.2.2.2.2.2.2.2.2.2.2.2.1, .int 0])), (u.2.2.2.2.2.2.2.2.2.2.2.2.2.2.2.2.2.2.2.2.2.2.2.2.2.2.2.2.2.2.2.2.2.2.2.2.2.2.2.2.2.2.2.2.1, .inl ((k 0), 128, .inl (fun _ => 0))), (u.2.2.2.2.2.2.2.2.2.2.2.2.2.2.2.2.2.2.2.2.2.2.2.2.2.2.2.2.2.2.2.2.2.2.2.2.2.2.2.2.2.2.2.2.2.1, .inr (13, [.int 4, .ref u.2.2.2.2.2.2.2.2.2.2.2.2.2.2.2.2.2.2.2.2.2.2.2.2.2.2.2.2.2.2.2.2.2.2.2.2.2.2.2.2.2.2.2.2.2.2.1, .int 0])), (u.2.2.2.2.2.2.2.2.2.2.2.2.2.2.2.2.2.2.2.2.2.2.2.2.2.2.2.2.2.2.2.2.2.2.2.2.2.2.2.2.2.2.2.2.2.2.1, .inl ((k 0), 32, .inl (fun _ => 0))), (u.2.2.2.2.2.2.2.2.2.2.2.2.2.2.2.2.2.2.2.2.2.2.2.2.2.2.2.2.2.2.2.2.2.2.2.2.2.2.2.2.2.2.2.2.2.2.2.1, .inr (13, [.int 3, .ref u.2.2.2.2.2.2.2.2.2.2.2.2.2.2.2.2.2.2.2.2.2.2.2.2.2.2.2.2.2.2.2.2.2.2.2.2.2.2.2.2.2.2.2.2.2.2.2.2.1, .int 0])), (u.2.2.2.2.2.2.2.2.2.2.2.2.2.2.2.2.2.2.2.2.2.2.2.2.2.2.2.2.2.2.2.2.2.2.2.2.2.2.2.2.2.2.2.2.2.2.2.2.1, .inl ((k 0), 192, .inl (fun _ => 0)))]) 49 3562 := by
  refine ov_of (cc := cX11_init) (maxL := 1) (ret := none) (by decide +kernel) rfl (Nat.le_of_ble_eq_true rfl) ?_
  intro p e s m below meth c A ls hx hb hml hr hts hown hlocks hin hA hK hP hD hS hE hl
  have hl : lv_has ls 1 [(0, .ref h0)] := hl
  refine lv_aload_n hx hb dX11_init_0 rfl (lv_at hl 0 rfl) ?_
  refine W.objInit hx hb hown (hts (.methodLink RX11 1 objectInit) (by decide +kernel)) (hts (.instanceMethod objectInit) (by decide +kernel)) (hts (.code objectInit ⟨#[0xb1]⟩ 1 none) (by decide +kernel)) rfl (by rw [hml]; exact hl.1) rfl dX11_init_1 (Nat.le_of_ble_eq_true rfl) (Nat.le_of_ble_eq_true rfl) ?_
  refine W.eq (g2 := F0 m 4 ls []) rfl ?_
  refine lv_aload_n hx hb dX11_init_4 rfl (lv_at hl 0 rfl) ?_
  refine va_new (D := D) (ci := 14) (fs := [.int 0, .null, .null, .null, .null]) (C := RX10) (T := TX10) (N := 5) hx hb hts iw_X11_init_X10 tyX10 tyX10_ok hown (hts (.classLink RX11 7 RX10) (by decide +kernel)) (hts (.instantiable RX10 5) (by decide +kernel)) (hts (.initialized RX10) (by decide +kernel)) hK hP hD hS hA rfl (fun j hj => by rcases (show j = 0 ∨ j = 1 ∨ j = 2 ∨ j = 3 ∨ j = 4 by omega) with rfl | rfl | rfl | rfl | rfl <;> rfl) (Nat.le_of_ble_eq_true rfl) (Nat.le_of_ble_eq_true rfl) dX11_init_5 (fun q5_1 H hP hD hS => ?_)
  have hP : va_P D vwCl [(h0, .inr (15, [.null, .null, .null, .null, .null, .null, .int 0, .int 0, .long 0])), (q5_1, .inr (14, [.int 0, .null, .null, .null, .null]))] H := hP
  have hD : va_D A [(h0, .inr (15, [.null, .null, .null, .null, .null, .null, .int 0, .int 0, .long 0])), (q5_1, .inr (14, [.int 0, .null, .null, .null, .null]))] := hD
  refine lv_dup hx hb dX11_init_8 rfl ?_
  refine ov_callI hx hb hml hown hts (c_Terms_init l e0 D k q5_1) (cwI 0 hts gX11_init_X10_init rfl rfl rfl (hts (.initialized RX10) (by decide +kernel)) (hts (.methodLink RX11 9 yX10_init) (by decide +kernel)) (hts (.instanceMethod yX10_init) (by decide +kernel)) rfl (by decide +kernel) ⟨Nat.le_of_ble_eq_true rfl, Nat.le_of_ble_eq_true rfl⟩) hK hP hD hS hA hE [1] [0] rfl rfl (by decide) (by decide) (by decide) (wr := [(h0, .inr (15, [.null, .null, .null, .null, .null, .null, .int 0, .int 0, .long 0]))]) (w2 := fun u => [(h0, .inr (15, [.null, .null, .null, .null, .null, .null, .int 0, .int 0, .long 0])), (q5_1, .inr (14, [.int 0, .ref u.1, .ref u.2.2.1, .ref u.2.2.2.2.1, .ref u.2.2.2.2.2.2.1])), (u.1, .inr (13, [.int 3, .ref u.2.1, .int 0])), (u.2.1, .inl ((k 0), 30, .inl (fun _ => 0))), (u.2.2.1, .inr (13, [.int 4, .ref u.2.2.2.1, .int 0])), (u.2.2.2.1, .inl ((k 0), 800, .inl (fun _ => 0))), (u.2.2.2.2.1, .inr (13, [.int 1, .ref u.2.2.2.2.2.1, .int 64])), (u.2.2.2.2.2.1, .inl ((k 0), 64, .inl u.2.2.2.2.2.2.2)), (u.2.2.2.2.2.2.1, .inl ((k 1), 200, .inr (.inl (fun _ => 0))))]) (fun _ => rfl) hl.1 rfl (Nat.le_of_ble_eq_true rfl) rfl ⟨Nat.le_of_ble_eq_true rfl, Nat.le_of_ble_eq_true rfl⟩ dX11_init_9 (fun u H locs hq hP hD hS => ?_)
  obtain ⟨ta_9, qa_9, tb_9, qb_9, tc_9, qc_9, td_9, fc_9⟩ := u
  have hP : va_P D vwCl [(h0, .inr (15, [.null, .null, .null, .null, .null, .null, .int 0, .int 0, .long 0])), (q5_1, .inr (14, [.int 0, .ref ta_9, .ref tb_9, .ref tc_9, .ref td_9])), (ta_9, .inr (13, [.int 3, .ref qa_9, .int 0])), (qa_9, .inl ((k 0), 30, .inl (fun _ => 0))), (tb_9, .inr (13, [.int 4, .ref qb_9, .int 0])), (qb_9, .inl ((k 0), 800, .inl (fun _ => 0))), (tc_9, .inr (13, [.int 1, .ref qc_9, .int 64])), (qc_9, .inl ((k 0), 64, .inl fc_9)), (td_9, .inl ((k 1), 200, .inr (.inl (fun _ => 0))))] H := hP
  have hD : va_D A [(h0, .inr (15, [.null, .null, .null, .null, .null, .null, .int 0, .int 0, .long 0])), (q5_1, .inr (14, [.int 0, .ref ta_9, .ref tb_9, .ref tc_9, .ref td_9])), (ta_9, .inr (13, [.int 3, .ref qa_9, .int 0])), (qa_9, .inl ((k 0), 30, .inl (fun _ => 0))), (tb_9, .inr (13, [.int 4, .ref qb_9, .int 0])), (qb_9, .inl ((k 0), 800, .inl (fun _ => 0))), (tc_9, .inr (13, [.int 1, .ref qc_9, .int 64])), (qc_9, .inl ((k 0), 64, .inl fc_9)), (td_9, .inl ((k 1), 200, .inr (.inl (fun _ => 0))))] := hD
  refine va_putF (D := D) (ci := 15) (v := .ref q5_1) (ty := (tyX11 0)) (C := RX11) (T := TX11) (N := 9) hx hb hts iw_X11_init_X11 tyX11 tyX11_ok nmX11 hown hK hP hD hS 0 rfl rfl 0 (by decide) (hts (.fieldLink RX11 10 "ModedMill" "store" "LModedMill$Terms;") (by decide +kernel)) (fun _ h9 => h9) rfl hin rfl (by decide +kernel) rfl rfl (Nat.le_of_ble_eq_true rfl) dX11_init_12 (fun H locs hP hD hS => ?_)
  have hP : va_P D vwCl [(h0, .inr (15, [.ref q5_1, .null, .null, .null, .null, .null, .int 0, .int 0, .long 0])), (q5_1, .inr (14, [.int 0, .ref ta_9, .ref tb_9, .ref tc_9, .ref td_9])), (ta_9, .inr (13, [.int 3, .ref qa_9, .int 0])), (qa_9, .inl ((k 0), 30, .inl (fun _ => 0))), (tb_9, .inr (13, [.int 4, .ref qb_9, .int 0])), (qb_9, .inl ((k 0), 800, .inl (fun _ => 0))), (tc_9, .inr (13, [.int 1, .ref qc_9, .int 64])), (qc_9, .inl ((k 0), 64, .inl fc_9)), (td_9, .inl ((k 1), 200, .inr (.inl (fun _ => 0))))] H := hP
  have hD : va_D A [(h0, .inr (15, [.ref q5_1, .null, .null, .null, .null, .null, .int 0, .int 0, .long 0])), (q5_1, .inr (14, [.int 0, .ref ta_9, .ref tb_9, .ref tc_9, .ref td_9])), (ta_9, .inr (13, [.int 3, .ref qa_9, .int 0])), (qa_9, .inl ((k 0), 30, .inl (fun _ => 0))), (tb_9, .inr (13, [.int 4, .ref qb_9, .int 0])), (qb_9, .inl ((k 0), 800, .inl (fun _ => 0))), (tc_9, .inr (13, [.int 1, .ref qc_9, .int 64])), (qc_9, .inl ((k 0), 64, .inl fc_9)), (td_9, .inl ((k 1), 200, .inr (.inl (fun _ => 0))))] := hD
  refine lv_aload_n hx hb dX11_init_15 rfl (lv_at hl 0 rfl) ?_
  refine va_new (D := D) (ci := 11) (fs := [.null, .null, .null]) (C := RX7) (T := TX7) (N := 3) hx hb hts iw_X11_init_X7 tyX7 tyX7_ok hown (hts (.classLink RX11 16 RX7) (by decide +kernel)) (hts (.instantiable RX7 3) (by decide +kernel)) (hts (.initialized RX7) (by decide +kernel)) hK hP hD hS hA rfl (fun j hj => by rcases (show j = 0 ∨ j = 1 ∨ j = 2 by omega) with rfl | rfl | rfl <;> rfl) (Nat.le_of_ble_eq_true rfl) (Nat.le_of_ble_eq_true rfl) dX11_init_16 (fun q16_2 H hP hD hS => ?_)
  have hP : va_P D vwCl [(h0, .inr (15, [.ref q5_1, .null, .null, .null, .null, .null, .int 0, .int 0, .long 0])), (q5_1, .inr (14, [.int 0, .ref ta_9, .ref tb_9, .ref tc_9, .ref td_9])), (ta_9, .inr (13, [.int 3, .ref qa_9, .int 0])), (qa_9, .inl ((k 0), 30, .inl (fun _ => 0))), (tb_9, .inr (13, [.int 4, .ref qb_9, .int 0])), (qb_9, .inl ((k 0), 800, .inl (fun _ => 0))), (tc_9, .inr (13, [.int 1, .ref qc_9, .int 64])), (qc_9, .inl ((k 0), 64, .inl fc_9)), (td_9, .inl ((k 1), 200, .inr (.inl (fun _ => 0)))), (q16_2, .inr (11, [.null, .null, .null]))] H := hP
  have hD : va_D A [(h0, .inr (15, [.ref q5_1, .null, .null, .null, .null, .null, .int 0, .int 0, .long 0])), (q5_1, .inr (14, [.int 0, .ref ta_9, .ref tb_9, .ref tc_9, .ref td_9])), (ta_9, .inr (13, [.int 3, .ref qa_9, .int 0])), (qa_9, .inl ((k 0), 30, .inl (fun _ => 0))), (tb_9, .inr (13, [.int 4, .ref qb_9, .int 0])), (qb_9, .inl ((k 0), 800, .inl (fun _ => 0))), (tc_9, .inr (13, [.int 1, .ref qc_9, .int 64])), (qc_9, .inl ((k 0), 64, .inl fc_9)), (td_9, .inl ((k 1), 200, .inr (.inl (fun _ => 0)))), (q16_2, .inr (11, [.null, .null, .null]))] := hD
  refine lv_dup hx hb dX11_init_19 rfl ?_
  refine ov_callI hx hb hml hown hts (c_Program_init l e0 D k q16_2) (cwI 0 hts gX11_init_X7_init rfl rfl rfl (hts (.initialized RX7) (by decide +kernel)) (hts (.methodLink RX11 18 yX7_init) (by decide +kernel)) (hts (.instanceMethod yX7_init) (by decide +kernel)) rfl (by decide +kernel) ⟨Nat.le_of_ble_eq_true rfl, Nat.le_of_ble_eq_true rfl⟩) hK hP hD hS hA hE [9] [0, 1, 2, 3, 4, 5, 6, 7, 8] rfl rfl (by decide) (by decide) (by decide) (wr := [(h0, .inr (15, [.ref q5_1, .null, .null, .null, .null, .null, .int 0, .int 0, .long 0])), (q5_1, .inr (14, [.int 0, .ref ta_9, .ref tb_9, .ref tc_9, .ref td_9])), (ta_9, .inr (13, [.int 3, .ref qa_9, .int 0])), (qa_9, .inl ((k 0), 30, .inl (fun _ => 0))), (tb_9, .inr (13, [.int 4, .ref qb_9, .int 0])), (qb_9, .inl ((k 0), 800, .inl (fun _ => 0))), (tc_9, .inr (13, [.int 1, .ref qc_9, .int 64])), (qc_9, .inl ((k 0), 64, .inl fc_9)), (td_9, .inl ((k 1), 200, .inr (.inl (fun _ => 0))))]) (w2 := fun u => [(h0, .inr (15, [.ref q5_1, .null, .null, .null, .null, .null, .int 0, .int 0, .long 0])), (q5_1, .inr (14, [.int 0, .ref ta_9, .ref tb_9, .ref tc_9, .ref td_9])), (ta_9, .inr (13, [.int 3, .ref qa_9, .int 0])), (qa_9, .inl ((k 0), 30, .inl (fun _ => 0))), (tb_9, .inr (13, [.int 4, .ref qb_9, .int 0])), (qb_9, .inl ((k 0), 800, .inl (fun _ => 0))), (tc_9, .inr (13, [.int 1, .ref qc_9, .int 64])), (qc_9, .inl ((k 0), 64, .inl fc_9)), (td_9, .inl ((k 1), 200, .inr (.inl (fun _ => 0)))), (q16_2, .inr (11, [.ref u.1, .ref u.2.1, .ref u.2.2])), (u.1, .inr (3, [.int 0, .ref e0, .int 0])), (u.2.1, .inr (3, [.int 0, .ref e0, .int 0])), (u.2.2, .inr (3, [.int 0, .ref e0, .int 0]))]) (fun _ => rfl) hl.1 rfl (Nat.le_of_ble_eq_true rfl) rfl ⟨Nat.le_of_ble_eq_true rfl, Nat.le_of_ble_eq_true rfl⟩ dX11_init_20 (fun u H locs hq hP hD hS => ?_)
  obtain ⟨la_20, lb_20, lc_20⟩ := u
  have hP : va_P D vwCl [(h0, .inr (15, [.ref q5_1, .null, .null, .null, .null, .null, .int 0, .int 0, .long 0])), (q5_1, .inr (14, [.int 0, .ref ta_9, .ref tb_9, .ref tc_9, .ref td_9])), (ta_9, .inr (13, [.int 3, .ref qa_9, .int 0])), (qa_9, .inl ((k 0), 30, .inl (fun _ => 0))), (tb_9, .inr (13, [.int 4, .ref qb_9, .int 0])), (qb_9, .inl ((k 0), 800, .inl (fun _ => 0))), (tc_9, .inr (13, [.int 1, .ref qc_9, .int 64])), (qc_9, .inl ((k 0), 64, .inl fc_9)), (td_9, .inl ((k 1), 200, .inr (.inl (fun _ => 0)))), (q16_2, .inr (11, [.ref la_20, .ref lb_20, .ref lc_20])), (la_20, .inr (3, [.int 0, .ref e0, .int 0])), (lb_20, .inr (3, [.int 0, .ref e0, .int 0])), (lc_20, .inr (3, [.int 0, .ref e0, .int 0]))] H := hP
  have hD : va_D A [(h0, .inr (15, [.ref q5_1, .null, .null, .null, .null, .null, .int 0, .int 0, .long 0])), (q5_1, .inr (14, [.int 0, .ref ta_9, .ref tb_9, .ref tc_9, .ref td_9])), (ta_9, .inr (13, [.int 3, .ref qa_9, .int 0])), (qa_9, .inl ((k 0), 30, .inl (fun _ => 0))), (tb_9, .inr (13, [.int 4, .ref qb_9, .int 0])), (qb_9, .inl ((k 0), 800, .inl (fun _ => 0))), (tc_9, .inr (13, [.int 1, .ref qc_9, .int 64])), (qc_9, .inl ((k 0), 64, .inl fc_9)), (td_9, .inl ((k 1), 200, .inr (.inl (fun _ => 0)))), (q16_2, .inr (11, [.ref la_20, .ref lb_20, .ref lc_20])), (la_20, .inr (3, [.int 0, .ref e0, .int 0])), (lb_20, .inr (3, [.int 0, .ref e0, .int 0])), (lc_20, .inr (3, [.int 0, .ref e0, .int 0]))] := hD
  refine va_putF (D := D) (ci := 15) (v := .ref q16_2) (ty := (tyX11 1)) (C := RX11) (T := TX11) (N := 9) hx hb hts iw_X11_init_X11 tyX11 tyX11_ok nmX11 hown hK hP hD hS 0 rfl rfl 1 (by decide) (hts (.fieldLink RX11 19 "ModedMill" "program" "LModedMill$Program;") (by decide +kernel)) (fun _ h9 => h9) rfl hin rfl (by decide +kernel) rfl rfl (Nat.le_of_ble_eq_true rfl) dX11_init_23 (fun H locs hP hD hS => ?_)
  have hP : va_P D vwCl [(h0, .inr (15, [.ref q5_1, .ref q16_2, .null, .null, .null, .null, .int 0, .int 0, .long 0])), (q5_1, .inr (14, [.int 0, .ref ta_9, .ref tb_9, .ref tc_9, .ref td_9])), (ta_9, .inr (13, [.int 3, .ref qa_9, .int 0])), (qa_9, .inl ((k 0), 30, .inl (fun _ => 0))), (tb_9, .inr (13, [.int 4, .ref qb_9, .int 0])), (qb_9, .inl ((k 0), 800, .inl (fun _ => 0))), (tc_9, .inr (13, [.int 1, .ref qc_9, .int 64])), (qc_9, .inl ((k 0), 64, .inl fc_9)), (td_9, .inl ((k 1), 200, .inr (.inl (fun _ => 0)))), (q16_2, .inr (11, [.ref la_20, .ref lb_20, .ref lc_20])), (la_20, .inr (3, [.int 0, .ref e0, .int 0])), (lb_20, .inr (3, [.int 0, .ref e0, .int 0])), (lc_20, .inr (3, [.int 0, .ref e0, .int 0]))] H := hP
  have hD : va_D A [(h0, .inr (15, [.ref q5_1, .ref q16_2, .null, .null, .null, .null, .int 0, .int 0, .long 0])), (q5_1, .inr (14, [.int 0, .ref ta_9, .ref tb_9, .ref tc_9, .ref td_9])), (ta_9, .inr (13, [.int 3, .ref qa_9, .int 0])), (qa_9, .inl ((k 0), 30, .inl (fun _ => 0))), (tb_9, .inr (13, [.int 4, .ref qb_9, .int 0])), (qb_9, .inl ((k 0), 800, .inl (fun _ => 0))), (tc_9, .inr (13, [.int 1, .ref qc_9, .int 64])), (qc_9, .inl ((k 0), 64, .inl fc_9)), (td_9, .inl ((k 1), 200, .inr (.inl (fun _ => 0)))), (q16_2, .inr (11, [.ref la_20, .ref lb_20, .ref lc_20])), (la_20, .inr (3, [.int 0, .ref e0, .int 0])), (lb_20, .inr (3, [.int 0, .ref e0, .int 0])), (lc_20, .inr (3, [.int 0, .ref e0, .int 0]))] := hD
  refine lv_aload_n hx hb dX11_init_26 rfl (lv_at hl 0 rfl) ?_
  refine va_new (D := D) (ci := 12) (fs := [.null, .null, .null, .null, .int 0, .int 0, .int 0, .int 0, .int 0, .int 0]) (C := RX8) (T := TX8) (N := 10) hx hb hts iw_X11_init_X8 tyX8 tyX8_ok hown (hts (.classLink RX11 23 RX8) (by decide +kernel)) (hts (.instantiable RX8 10) (by decide +kernel)) (hts (.initialized RX8) (by decide +kernel)) hK hP hD hS hA rfl (fun j hj => by rcases (show j = 0 ∨ j = 1 ∨ j = 2 ∨ j = 3 ∨ j = 4 ∨ j = 5 ∨ j = 6 ∨ j = 7 ∨ j = 8 ∨ j = 9 by omega) with rfl | rfl | rfl | rfl | rfl | rfl | rfl | rfl | rfl | rfl <;> rfl) (Nat.le_of_ble_eq_true rfl) (Nat.le_of_ble_eq_true rfl) dX11_init_27 (fun q27_3 H hP hD hS => ?_)
  have hP : va_P D vwCl [(h0, .inr (15, [.ref q5_1, .ref q16_2, .null, .null, .null, .null, .int 0, .int 0, .long 0])), (q5_1, .inr (14, [.int 0, .ref ta_9, .ref tb_9, .ref tc_9, .ref td_9])), (ta_9, .inr (13, [.int 3, .ref qa_9, .int 0])), (qa_9, .inl ((k 0), 30, .inl (fun _ => 0))), (tb_9, .inr (13, [.int 4, .ref qb_9, .int 0])), (qb_9, .inl ((k 0), 800, .inl (fun _ => 0))), (tc_9, .inr (13, [.int 1, .ref qc_9, .int 64])), (qc_9, .inl ((k 0), 64, .inl fc_9)), (td_9, .inl ((k 1), 200, .inr (.inl (fun _ => 0)))), (q16_2, .inr (11, [.ref la_20, .ref lb_20, .ref lc_20])), (la_20, .inr (3, [.int 0, .ref e0, .int 0])), (lb_20, .inr (3, [.int 0, .ref e0, .int 0])), (lc_20, .inr (3, [.int 0, .ref e0, .int 0])), (q27_3, .inr (12, [.null, .null, .null, .null, .int 0, .int 0, .int 0, .int 0, .int 0, .int 0]))] H := hP
  have hD : va_D A [(h0, .inr (15, [.ref q5_1, .ref q16_2, .null, .null, .null, .null, .int 0, .int 0, .long 0])), (q5_1, .inr (14, [.int 0, .ref ta_9, .ref tb_9, .ref tc_9, .ref td_9])), (ta_9, .inr (13, [.int 3, .ref qa_9, .int 0])), (qa_9, .inl ((k 0), 30, .inl (fun _ => 0))), (tb_9, .inr (13, [.int 4, .ref qb_9, .int 0])), (qb_9, .inl ((k 0), 800, .inl (fun _ => 0))), (tc_9, .inr (13, [.int 1, .ref qc_9, .int 64])), (qc_9, .inl ((k 0), 64, .inl fc_9)), (td_9, .inl ((k 1), 200, .inr (.inl (fun _ => 0)))), (q16_2, .inr (11, [.ref la_20, .ref lb_20, .ref lc_20])), (la_20, .inr (3, [.int 0, .ref e0, .int 0])), (lb_20, .inr (3, [.int 0, .ref e0, .int 0])), (lc_20, .inr (3, [.int 0, .ref e0, .int 0])), (q27_3, .inr (12, [.null, .null, .null, .null, .int 0, .int 0, .int 0, .int 0, .int 0, .int 0]))] := hD
  refine lv_dup hx hb dX11_init_30 rfl ?_
  refine ov_callI hx hb hml hown hts (c_Report_init l e0 D k q27_3) (cwI 0 hts gX11_init_X8_init rfl rfl rfl (hts (.initialized RX8) (by decide +kernel)) (hts (.methodLink RX11 25 yX8_init) (by decide +kernel)) (hts (.instanceMethod yX8_init) (by decide +kernel)) rfl (by decide +kernel) ⟨Nat.le_of_ble_eq_true rfl, Nat.le_of_ble_eq_true rfl⟩) hK hP hD hS hA hE [13] [0, 1, 2, 3, 4, 5, 6, 7, 8, 9, 10, 11, 12] rfl rfl (by decide) (by decide) (by decide) (wr := [(h0, .inr (15, [.ref q5_1, .ref q16_2, .null, .null, .null, .null, .int 0, .int 0, .long 0])), (q5_1, .inr (14, [.int 0, .ref ta_9, .ref tb_9, .ref tc_9, .ref td_9])), (ta_9, .inr (13, [.int 3, .ref qa_9, .int 0])), (qa_9, .inl ((k 0), 30, .inl (fun _ => 0))), (tb_9, .inr (13, [.int 4, .ref qb_9, .int 0])), (qb_9, .inl ((k 0), 800, .inl (fun _ => 0))), (tc_9, .inr (13, [.int 1, .ref qc_9, .int 64])), (qc_9, .inl ((k 0), 64, .inl fc_9)), (td_9, .inl ((k 1), 200, .inr (.inl (fun _ => 0)))), (q16_2, .inr (11, [.ref la_20, .ref lb_20, .ref lc_20])), (la_20, .inr (3, [.int 0, .ref e0, .int 0])), (lb_20, .inr (3, [.int 0, .ref e0, .int 0])), (lc_20, .inr (3, [.int 0, .ref e0, .int 0]))]) (w2 := fun u => [(h0, .inr (15, [.ref q5_1, .ref q16_2, .null, .null, .null, .null, .int 0, .int 0, .long 0])), (q5_1, .inr (14, [.int 0, .ref ta_9, .ref tb_9, .ref tc_9, .ref td_9])), (ta_9, .inr (13, [.int 3, .ref qa_9, .int 0])), (qa_9, .inl ((k 0), 30, .inl (fun _ => 0))), (tb_9, .inr (13, [.int 4, .ref qb_9, .int 0])), (qb_9, .inl ((k 0), 800, .inl (fun _ => 0))), (tc_9, .inr (13, [.int 1, .ref qc_9, .int 64])), (qc_9, .inl ((k 0), 64, .inl fc_9)), (td_9, .inl ((k 1), 200, .inr (.inl (fun _ => 0)))), (q16_2, .inr (11, [.ref la_20, .ref lb_20, .ref lc_20])), (la_20, .inr (3, [.int 0, .ref e0, .int 0])), (lb_20, .inr (3, [.int 0, .ref e0, .int 0])), (lc_20, .inr (3, [.int 0, .ref e0, .int 0])), (q27_3, .inr (12, [.null, .ref u.1, .ref u.2.2.1, .ref u.2.2.2.2.1, .int 0, .int 0, .int 0, .int 101, .int 0, .int 0])), (u.1, .inr (13, [.int 1, .ref u.2.1, .int 0])), (u.2.1, .inl ((k 0), 3, .inl (fun _ => 0))), (u.2.2.1, .inr (13, [.int 3, .ref u.2.2.2.1, .int 0])), (u.2.2.2.1, .inl ((k 0), 150, .inl (fun _ => 0))), (u.2.2.2.2.1, .inr (13, [.int 2, .ref u.2.2.2.2.2, .int 0])), (u.2.2.2.2.2, .inl ((k 0), 160, .inl (fun _ => 0)))]) (fun _ => rfl) hl.1 rfl (Nat.le_of_ble_eq_true rfl) rfl ⟨Nat.le_of_ble_eq_true rfl, Nat.le_of_ble_eq_true rfl⟩ dX11_init_31 (fun u H locs hq hP hD hS => ?_)
  obtain ⟨ta_31, qa_31, tb_31, qb_31, tc_31, qc_31⟩ := u
  have hP : va_P D vwCl [(h0, .inr (15, [.ref q5_1, .ref q16_2, .null, .null, .null, .null, .int 0, .int 0, .long 0])), (q5_1, .inr (14, [.int 0, .ref ta_9, .ref tb_9, .ref tc_9, .ref td_9])), (ta_9, .inr (13, [.int 3, .ref qa_9, .int 0])), (qa_9, .inl ((k 0), 30, .inl (fun _ => 0))), (tb_9, .inr (13, [.int 4, .ref qb_9, .int 0])), (qb_9, .inl ((k 0), 800, .inl (fun _ => 0))), (tc_9, .inr (13, [.int 1, .ref qc_9, .int 64])), (qc_9, .inl ((k 0), 64, .inl fc_9)), (td_9, .inl ((k 1), 200, .inr (.inl (fun _ => 0)))), (q16_2, .inr (11, [.ref la_20, .ref lb_20, .ref lc_20])), (la_20, .inr (3, [.int 0, .ref e0, .int 0])), (lb_20, .inr (3, [.int 0, .ref e0, .int 0])), (lc_20, .inr (3, [.int 0, .ref e0, .int 0])), (q27_3, .inr (12, [.null, .ref ta_31, .ref tb_31, .ref tc_31, .int 0, .int 0, .int 0, .int 101, .int 0, .int 0])), (ta_31, .inr (13, [.int 1, .ref qa_31, .int 0])), (qa_31, .inl ((k 0), 3, .inl (fun _ => 0))), (tb_31, .inr (13, [.int 3, .ref qb_31, .int 0])), (qb_31, .inl ((k 0), 150, .inl (fun _ => 0))), (tc_31, .inr (13, [.int 2, .ref qc_31, .int 0])), (qc_31, .inl ((k 0), 160, .inl (fun _ => 0)))] H := hP
  have hD : va_D A [(h0, .inr (15, [.ref q5_1, .ref q16_2, .null, .null, .null, .null, .int 0, .int 0, .long 0])), (q5_1, .inr (14, [.int 0, .ref ta_9, .ref tb_9, .ref tc_9, .ref td_9])), (ta_9, .inr (13, [.int 3, .ref qa_9, .int 0])), (qa_9, .inl ((k 0), 30, .inl (fun _ => 0))), (tb_9, .inr (13, [.int 4, .ref qb_9, .int 0])), (qb_9, .inl ((k 0), 800, .inl (fun _ => 0))), (tc_9, .inr (13, [.int 1, .ref qc_9, .int 64])), (qc_9, .inl ((k 0), 64, .inl fc_9)), (td_9, .inl ((k 1), 200, .inr (.inl (fun _ => 0)))), (q16_2, .inr (11, [.ref la_20, .ref lb_20, .ref lc_20])), (la_20, .inr (3, [.int 0, .ref e0, .int 0])), (lb_20, .inr (3, [.int 0, .ref e0, .int 0])), (lc_20, .inr (3, [.int 0, .ref e0, .int 0])), (q27_3, .inr (12, [.null, .ref ta_31, .ref tb_31, .ref tc_31, .int 0, .int 0, .int 0, .int 101, .int 0, .int 0])), (ta_31, .inr (13, [.int 1, .ref qa_31, .int 0])), (qa_31, .inl ((k 0), 3, .inl (fun _ => 0))), (tb_31, .inr (13, [.int 3, .ref qb_31, .int 0])), (qb_31, .inl ((k 0), 150, .inl (fun _ => 0))), (tc_31, .inr (13, [.int 2, .ref qc_31, .int 0])), (qc_31, .inl ((k 0), 160, .inl (fun _ => 0)))] := hD
  refine va_put (D := D) (ci := 15) (v := .ref q27_3) (ty := (tyX11 4)) (C := RX11) (T := TX11) (N := 9) hx hb hts iw_X11_init_X11 tyX11 tyX11_ok nmX11 hown hK hP hD hS 0 rfl rfl 4 (by decide) (hts (.fieldLink RX11 26 "ModedMill" "last" "LModedMill$Report;") (by decide +kernel)) (fun _ h9 => h9) rfl (by decide +kernel) rfl rfl (Nat.le_of_ble_eq_true rfl) dX11_init_34 (fun H locs hP hD hS => ?_)
  have hP : va_P D vwCl [(h0, .inr (15, [.ref q5_1, .ref q16_2, .null, .null, .ref q27_3, .null, .int 0, .int 0, .long 0])), (q5_1, .inr (14, [.int 0, .ref ta_9, .ref tb_9, .ref tc_9, .ref td_9])), (ta_9, .inr (13, [.int 3, .ref qa_9, .int 0])), (qa_9, .inl ((k 0), 30, .inl (fun _ => 0))), (tb_9, .inr (13, [.int 4, .ref qb_9, .int 0])), (qb_9, .inl ((k 0), 800, .inl (fun _ => 0))), (tc_9, .inr (13, [.int 1, .ref qc_9, .int 64])), (qc_9, .inl ((k 0), 64, .inl fc_9)), (td_9, .inl ((k 1), 200, .inr (.inl (fun _ => 0)))), (q16_2, .inr (11, [.ref la_20, .ref lb_20, .ref lc_20])), (la_20, .inr (3, [.int 0, .ref e0, .int 0])), (lb_20, .inr (3, [.int 0, .ref e0, .int 0])), (lc_20, .inr (3, [.int 0, .ref e0, .int 0])), (q27_3, .inr (12, [.null, .ref ta_31, .ref tb_31, .ref tc_31, .int 0, .int 0, .int 0, .int 101, .int 0, .int 0])), (ta_31, .inr (13, [.int 1, .ref qa_31, .int 0])), (qa_31, .inl ((k 0), 3, .inl (fun _ => 0))), (tb_31, .inr (13, [.int 3, .ref qb_31, .int 0])), (qb_31, .inl ((k 0), 150, .inl (fun _ => 0))), (tc_31, .inr (13, [.int 2, .ref qc_31, .int 0])), (qc_31, .inl ((k 0), 160, .inl (fun _ => 0)))] H := hP
  have hD : va_D A [(h0, .inr (15, [.ref q5_1, .ref q16_2, .null, .null, .ref q27_3, .null, .int 0, .int 0, .long 0])), (q5_1, .inr (14, [.int 0, .ref ta_9, .ref tb_9, .ref tc_9, .ref td_9])), (ta_9, .inr (13, [.int 3, .ref qa_9, .int 0])), (qa_9, .inl ((k 0), 30, .inl (fun _ => 0))), (tb_9, .inr (13, [.int 4, .ref qb_9, .int 0])), (qb_9, .inl ((k 0), 800, .inl (fun _ => 0))), (tc_9, .inr (13, [.int 1, .ref qc_9, .int 64])), (qc_9, .inl ((k 0), 64, .inl fc_9)), (td_9, .inl ((k 1), 200, .inr (.inl (fun _ => 0)))), (q16_2, .inr (11, [.ref la_20, .ref lb_20, .ref lc_20])), (la_20, .inr (3, [.int 0, .ref e0, .int 0])), (lb_20, .inr (3, [.int 0, .ref e0, .int 0])), (lc_20, .inr (3, [.int 0, .ref e0, .int 0])), (q27_3, .inr (12, [.null, .ref ta_31, .ref tb_31, .ref tc_31, .int 0, .int 0, .int 0, .int 101, .int 0, .int 0])), (ta_31, .inr (13, [.int 1, .ref qa_31, .int 0])), (qa_31, .inl ((k 0), 3, .inl (fun _ => 0))), (tb_31, .inr (13, [.int 3, .ref qb_31, .int 0])), (qb_31, .inl ((k 0), 150, .inl (fun _ => 0))), (tc_31, .inr (13, [.int 2, .ref qc_31, .int 0])), (qc_31, .inl ((k 0), 160, .inl (fun _ => 0)))] := hD
  refine lv_aload_n hx hb dX11_init_37 rfl (lv_at hl 0 rfl) ?_
  refine va_new (D := D) (ci := 12) (fs := [.null, .null, .null, .null, .int 0, .int 0, .int 0, .int 0, .int 0, .int 0]) (C := RX8) (T := TX8) (N := 10) hx hb hts iw_X11_init_X8 tyX8 tyX8_ok hown (hts (.classLink RX11 23 RX8) (by decide +kernel)) (hts (.instantiable RX8 10) (by decide +kernel)) (hts (.initialized RX8) (by decide +kernel)) hK hP hD hS hA rfl (fun j hj => by rcases (show j = 0 ∨ j = 1 ∨ j = 2 ∨ j = 3 ∨ j = 4 ∨ j = 5 ∨ j = 6 ∨ j = 7 ∨ j = 8 ∨ j = 9 by omega) with rfl | rfl | rfl | rfl | rfl | rfl | rfl | rfl | rfl | rfl <;> rfl) (Nat.le_of_ble_eq_true rfl) (Nat.le_of_ble_eq_true rfl) dX11_init_38 (fun q38_4 H hP hD hS => ?_)
  have hP : va_P D vwCl [(h0, .inr (15, [.ref q5_1, .ref q16_2, .null, .null, .ref q27_3, .null, .int 0, .int 0, .long 0])), (q5_1, .inr (14, [.int 0, .ref ta_9, .ref tb_9, .ref tc_9, .ref td_9])), (ta_9, .inr (13, [.int 3, .ref qa_9, .int 0])), (qa_9, .inl ((k 0), 30, .inl (fun _ => 0))), (tb_9, .inr (13, [.int 4, .ref qb_9, .int 0])), (qb_9, .inl ((k 0), 800, .inl (fun _ => 0))), (tc_9, .inr (13, [.int 1, .ref qc_9, .int 64])), (qc_9, .inl ((k 0), 64, .inl fc_9)), (td_9, .inl ((k 1), 200, .inr (.inl (fun _ => 0)))), (q16_2, .inr (11, [.ref la_20, .ref lb_20, .ref lc_20])), (la_20, .inr (3, [.int 0, .ref e0, .int 0])), (lb_20, .inr (3, [.int 0, .ref e0, .int 0])), (lc_20, .inr (3, [.int 0, .ref e0, .int 0])), (q27_3, .inr (12, [.null, .ref ta_31, .ref tb_31, .ref tc_31, .int 0, .int 0, .int 0, .int 101, .int 0, .int 0])), (ta_31, .inr (13, [.int 1, .ref qa_31, .int 0])), (qa_31, .inl ((k 0), 3, .inl (fun _ => 0))), (tb_31, .inr (13, [.int 3, .ref qb_31, .int 0])), (qb_31, .inl ((k 0), 150, .inl (fun _ => 0))), (tc_31, .inr (13, [.int 2, .ref qc_31, .int 0])), (qc_31, .inl ((k 0), 160, .inl (fun _ => 0))), (q38_4, .inr (12, [.null, .null, .null, .null, .int 0, .int 0, .int 0, .int 0, .int 0, .int 0]))] H := hP
  have hD : va_D A [(h0, .inr (15, [.ref q5_1, .ref q16_2, .null, .null, .ref q27_3, .null, .int 0, .int 0, .long 0])), (q5_1, .inr (14, [.int 0, .ref ta_9, .ref tb_9, .ref tc_9, .ref td_9])), (ta_9, .inr (13, [.int 3, .ref qa_9, .int 0])), (qa_9, .inl ((k 0), 30, .inl (fun _ => 0))), (tb_9, .inr (13, [.int 4, .ref qb_9, .int 0])), (qb_9, .inl ((k 0), 800, .inl (fun _ => 0))), (tc_9, .inr (13, [.int 1, .ref qc_9, .int 64])), (qc_9, .inl ((k 0), 64, .inl fc_9)), (td_9, .inl ((k 1), 200, .inr (.inl (fun _ => 0)))), (q16_2, .inr (11, [.ref la_20, .ref lb_20, .ref lc_20])), (la_20, .inr (3, [.int 0, .ref e0, .int 0])), (lb_20, .inr (3, [.int 0, .ref e0, .int 0])), (lc_20, .inr (3, [.int 0, .ref e0, .int 0])), (q27_3, .inr (12, [.null, .ref ta_31, .ref tb_31, .ref tc_31, .int 0, .int 0, .int 0, .int 101, .int 0, .int 0])), (ta_31, .inr (13, [.int 1, .ref qa_31, .int 0])), (qa_31, .inl ((k 0), 3, .inl (fun _ => 0))), (tb_31, .inr (13, [.int 3, .ref qb_31, .int 0])), (qb_31, .inl ((k 0), 150, .inl (fun _ => 0))), (tc_31, .inr (13, [.int 2, .ref qc_31, .int 0])), (qc_31, .inl ((k 0), 160, .inl (fun _ => 0))), (q38_4, .inr (12, [.null, .null, .null, .null, .int 0, .int 0, .int 0, .int 0, .int 0, .int 0]))] := hD
  refine lv_dup hx hb dX11_init_41 rfl ?_
  refine ov_callI hx hb hml hown hts (c_Report_init l e0 D k q38_4) (cwI 0 hts gX11_init_X8_init rfl rfl rfl (hts (.initialized RX8) (by decide +kernel)) (hts (.methodLink RX11 25 yX8_init) (by decide +kernel)) (hts (.instanceMethod yX8_init) (by decide +kernel)) rfl (by decide +kernel) ⟨Nat.le_of_ble_eq_true rfl, Nat.le_of_ble_eq_true rfl⟩) hK hP hD hS hA hE [20] [0, 1, 2, 3, 4, 5, 6, 7, 8, 9, 10, 11, 12, 13, 14, 15, 16, 17, 18, 19] rfl rfl (by decide) (by decide) (by decide) (wr := [(h0, .inr (15, [.ref q5_1, .ref q16_2, .null, .null, .ref q27_3, .null, .int 0, .int 0, .long 0])), (q5_1, .inr (14, [.int 0, .ref ta_9, .ref tb_9, .ref tc_9, .ref td_9])), (ta_9, .inr (13, [.int 3, .ref qa_9, .int 0])), (qa_9, .inl ((k 0), 30, .inl (fun _ => 0))), (tb_9, .inr (13, [.int 4, .ref qb_9, .int 0])), (qb_9, .inl ((k 0), 800, .inl (fun _ => 0))), (tc_9, .inr (13, [.int 1, .ref qc_9, .int 64])), (qc_9, .inl ((k 0), 64, .inl fc_9)), (td_9, .inl ((k 1), 200, .inr (.inl (fun _ => 0)))), (q16_2, .inr (11, [.ref la_20, .ref lb_20, .ref lc_20])), (la_20, .inr (3, [.int 0, .ref e0, .int 0])), (lb_20, .inr (3, [.int 0, .ref e0, .int 0])), (lc_20, .inr (3, [.int 0, .ref e0, .int 0])), (q27_3, .inr (12, [.null, .ref ta_31, .ref tb_31, .ref tc_31, .int 0, .int 0, .int 0, .int 101, .int 0, .int 0])), (ta_31, .inr (13, [.int 1, .ref qa_31, .int 0])), (qa_31, .inl ((k 0), 3, .inl (fun _ => 0))), (tb_31, .inr (13, [.int 3, .ref qb_31, .int 0])), (qb_31, .inl ((k 0), 150, .inl (fun _ => 0))), (tc_31, .inr (13, [.int 2, .ref qc_31, .int 0])), (qc_31, .inl ((k 0), 160, .inl (fun _ => 0)))]) (w2 := fun u => [(h0, .inr (15, [.ref q5_1, .ref q16_2, .null, .null, .ref q27_3, .null, .int 0, .int 0, .long 0])), (q5_1, .inr (14, [.int 0, .ref ta_9, .ref tb_9, .ref tc_9, .ref td_9])), (ta_9, .inr (13, [.int 3, .ref qa_9, .int 0])), (qa_9, .inl ((k 0), 30, .inl (fun _ => 0))), (tb_9, .inr (13, [.int 4, .ref qb_9, .int 0])), (qb_9, .inl ((k 0), 800, .inl (fun _ => 0))), (tc_9, .inr (13, [.int 1, .ref qc_9, .int 64])), (qc_9, .inl ((k 0), 64, .inl fc_9)), (td_9, .inl ((k 1), 200, .inr (.inl (fun _ => 0)))), (q16_2, .inr (11, [.ref la_20, .ref lb_20, .ref lc_20])), (la_20, .inr (3, [.int 0, .ref e0, .int 0])), (lb_20, .inr (3, [.int 0, .ref e0, .int 0])), (lc_20, .inr (3, [.int 0, .ref e0, .int 0])), (q27_3, .inr (12, [.null, .ref ta_31, .ref tb_31, .ref tc_31, .int 0, .int 0, .int 0, .int 101, .int 0, .int 0])), (ta_31, .inr (13, [.int 1, .ref qa_31, .int 0])), (qa_31, .inl ((k 0), 3, .inl (fun _ => 0))), (tb_31, .inr (13, [.int 3, .ref qb_31, .int 0])), (qb_31, .inl ((k 0), 150, .inl (fun _ => 0))), (tc_31, .inr (13, [.int 2, .ref qc_31, .int 0])), (qc_31, .inl ((k 0), 160, .inl (fun _ => 0))), (q38_4, .inr (12, [.null, .ref u.1, .ref u.2.2.1, .ref u.2.2.2.2.1, .int 0, .int 0, .int 0, .int 101, .int 0, .int 0])), (u.1, .inr (13, [.int 1, .ref u.2.1, .int 0])), (u.2.1, .inl ((k 0), 3, .inl (fun _ => 0))), (u.2.2.1, .inr (13, [.int 3, .ref u.2.2.2.1, .int 0])), (u.2.2.2.1, .inl ((k 0), 150, .inl (fun _ => 0))), (u.2.2.2.2.1, .inr (13, [.int 2, .ref u.2.2.2.2.2, .int 0])), (u.2.2.2.2.2, .inl ((k 0), 160, .inl (fun _ => 0)))]) (fun _ => rfl) hl.1 rfl (Nat.le_of_ble_eq_true rfl) rfl ⟨Nat.le_of_ble_eq_true rfl, Nat.le_of_ble_eq_true rfl⟩ dX11_init_42 (fun u H locs hq hP hD hS => ?_)
  obtain ⟨ta_42, qa_42, tb_42, qb_42, tc_42, qc_42⟩ := u
  have hP : va_P D vwCl [(h0, .inr (15, [.ref q5_1, .ref q16_2, .null, .null, .ref q27_3, .null, .int 0, .int 0, .long 0])), (q5_1, .inr (14, [.int 0, .ref ta_9, .ref tb_9, .ref tc_9, .ref td_9])), (ta_9, .inr (13, [.int 3, .ref qa_9, .int 0])), (qa_9, .inl ((k 0), 30, .inl (fun _ => 0))), (tb_9, .inr (13, [.int 4, .ref qb_9, .int 0])), (qb_9, .inl ((k 0), 800, .inl (fun _ => 0))), (tc_9, .inr (13, [.int 1, .ref qc_9, .int 64])), (qc_9, .inl ((k 0), 64, .inl fc_9)), (td_9, .inl ((k 1), 200, .inr (.inl (fun _ => 0)))), (q16_2, .inr (11, [.ref la_20, .ref lb_20, .ref lc_20])), (la_20, .inr (3, [.int 0, .ref e0, .int 0])), (lb_20, .inr (3, [.int 0, .ref e0, .int 0])), (lc_20, .inr (3, [.int 0, .ref e0, .int 0])), (q27_3, .inr (12, [.null, .ref ta_31, .ref tb_31, .ref tc_31, .int 0, .int 0, .int 0, .int 101, .int 0, .int 0])), (ta_31, .inr (13, [.int 1, .ref qa_31, .int 0])), (qa_31, .inl ((k 0), 3, .inl (fun _ => 0))), (tb_31, .inr (13, [.int 3, .ref qb_31, .int 0])), (qb_31, .inl ((k 0), 150, .inl (fun _ => 0))), (tc_31, .inr (13, [.int 2, .ref qc_31, .int 0])), (qc_31, .inl ((k 0), 160, .inl (fun _ => 0))), (q38_4, .inr (12, [.null, .ref ta_42, .ref tb_42, .ref tc_42, .int 0, .int 0, .int 0, .int 101, .int 0, .int 0])), (ta_42, .inr (13, [.int 1, .ref qa_42, .int 0])), (qa_42, .inl ((k 0), 3, .inl (fun _ => 0))), (tb_42, .inr (13, [.int 3, .ref qb_42, .int 0])), (qb_42, .inl ((k 0), 150, .inl (fun _ => 0))), (tc_42, .inr (13, [.int 2, .ref qc_42, .int 0])), (qc_42, .inl ((k 0), 160, .inl (fun _ => 0)))] H := hP
  have hD : va_D A [(h0, .inr (15, [.ref q5_1, .ref q16_2, .null, .null, .ref q27_3, .null, .int 0, .int 0, .long 0])), (q5_1, .inr (14, [.int 0, .ref ta_9, .ref tb_9, .ref tc_9, .ref td_9])), (ta_9, .inr (13, [.int 3, .ref qa_9, .int 0])), (qa_9, .inl ((k 0), 30, .inl (fun _ => 0))), (tb_9, .inr (13, [.int 4, .ref qb_9, .int 0])), (qb_9, .inl ((k 0), 800, .inl (fun _ => 0))), (tc_9, .inr (13, [.int 1, .ref qc_9, .int 64])), (qc_9, .inl ((k 0), 64, .inl fc_9)), (td_9, .inl ((k 1), 200, .inr (.inl (fun _ => 0)))), (q16_2, .inr (11, [.ref la_20, .ref lb_20, .ref lc_20])), (la_20, .inr (3, [.int 0, .ref e0, .int 0])), (lb_20, .inr (3, [.int 0, .ref e0, .int 0])), (lc_20, .inr (3, [.int 0, .ref e0, .int 0])), (q27_3, .inr (12, [.null, .ref ta_31, .ref tb_31, .ref tc_31, .int 0, .int 0, .int 0, .int 101, .int 0, .int 0])), (ta_31, .inr (13, [.int 1, .ref qa_31, .int 0])), (qa_31, .inl ((k 0), 3, .inl (fun _ => 0))), (tb_31, .inr (13, [.int 3, .ref qb_31, .int 0])), (qb_31, .inl ((k 0), 150, .inl (fun _ => 0))), (tc_31, .inr (13, [.int 2, .ref qc_31, .int 0])), (qc_31, .inl ((k 0), 160, .inl (fun _ => 0))), (q38_4, .inr (12, [.null, .ref ta_42, .ref tb_42, .ref tc_42, .int 0, .int 0, .int 0, .int 101, .int 0, .int 0])), (ta_42, .inr (13, [.int 1, .ref qa_42, .int 0])), (qa_42, .inl ((k 0), 3, .inl (fun _ => 0))), (tb_42, .inr (13, [.int 3, .ref qb_42, .int 0])), (qb_42, .inl ((k 0), 150, .inl (fun _ => 0))), (tc_42, .inr (13, [.int 2, .ref qc_42, .int 0])), (qc_42, .inl ((k 0), 160, .inl (fun _ => 0)))] := hD
  refine va_put (D := D) (ci := 15) (v := .ref q38_4) (ty := (tyX11 5)) (C := RX11) (T := TX11) (N := 9) hx hb hts iw_X11_init_X11 tyX11 tyX11_ok nmX11 hown hK hP hD hS 0 rfl rfl 5 (by decide) (hts (.fieldLink RX11 30 "ModedMill" "spare" "LModedMill$Report;") (by decide +kernel)) (fun _ h9 => h9) rfl (by decide +kernel) rfl rfl (Nat.le_of_ble_eq_true rfl) dX11_init_45 (fun H locs hP hD hS => ?_)
  have hP : va_P D vwCl [(h0, .inr (15, [.ref q5_1, .ref q16_2, .null, .null, .ref q27_3, .ref q38_4, .int 0, .int 0, .long 0])), (q5_1, .inr (14, [.int 0, .ref ta_9, .ref tb_9, .ref tc_9, .ref td_9])), (ta_9, .inr (13, [.int 3, .ref qa_9, .int 0])), (qa_9, .inl ((k 0), 30, .inl (fun _ => 0))), (tb_9, .inr (13, [.int 4, .ref qb_9, .int 0])), (qb_9, .inl ((k 0), 800, .inl (fun _ => 0))), (tc_9, .inr (13, [.int 1, .ref qc_9, .int 64])), (qc_9, .inl ((k 0), 64, .inl fc_9)), (td_9, .inl ((k 1), 200, .inr (.inl (fun _ => 0)))), (q16_2, .inr (11, [.ref la_20, .ref lb_20, .ref lc_20])), (la_20, .inr (3, [.int 0, .ref e0, .int 0])), (lb_20, .inr (3, [.int 0, .ref e0, .int 0])), (lc_20, .inr (3, [.int 0, .ref e0, .int 0])), (q27_3, .inr (12, [.null, .ref ta_31, .ref tb_31, .ref tc_31, .int 0, .int 0, .int 0, .int 101, .int 0, .int 0])), (ta_31, .inr (13, [.int 1, .ref qa_31, .int 0])), (qa_31, .inl ((k 0), 3, .inl (fun _ => 0))), (tb_31, .inr (13, [.int 3, .ref qb_31, .int 0])), (qb_31, .inl ((k 0), 150, .inl (fun _ => 0))), (tc_31, .inr (13, [.int 2, .ref qc_31, .int 0])), (qc_31, .inl ((k 0), 160, .inl (fun _ => 0))), (q38_4, .inr (12, [.null, .ref ta_42, .ref tb_42, .ref tc_42, .int 0, .int 0, .int 0, .int 101, .int 0, .int 0])), (ta_42, .inr (13, [.int 1, .ref qa_42, .int 0])), (qa_42, .inl ((k 0), 3, .inl (fun _ => 0))), (tb_42, .inr (13, [.int 3, .ref qb_42, .int 0])), (qb_42, .inl ((k 0), 150, .inl (fun _ => 0))), (tc_42, .inr (13, [.int 2, .ref qc_42, .int 0])), (qc_42, .inl ((k 0), 160, .inl (fun _ => 0)))] H := hP
  have hD : va_D A [(h0, .inr (15, [.ref q5_1, .ref q16_2, .null, .null, .ref q27_3, .ref q38_4, .int 0, .int 0, .long 0])), (q5_1, .inr (14, [.int 0, .ref ta_9, .ref tb_9, .ref tc_9, .ref td_9])), (ta_9, .inr (13, [.int 3, .ref qa_9, .int 0])), (qa_9, .inl ((k 0), 30, .inl (fun _ => 0))), (tb_9, .inr (13, [.int 4, .ref qb_9, .int 0])), (qb_9, .inl ((k 0), 800, .inl (fun _ => 0))), (tc_9, .inr (13, [.int 1, .ref qc_9, .int 64])), (qc_9, .inl ((k 0), 64, .inl fc_9)), (td_9, .inl ((k 1), 200, .inr (.inl (fun _ => 0)))), (q16_2, .inr (11, [.ref la_20, .ref lb_20, .ref lc_20])), (la_20, .inr (3, [.int 0, .ref e0, .int 0])), (lb_20, .inr (3, [.int 0, .ref e0, .int 0])), (lc_20, .inr (3, [.int 0, .ref e0, .int 0])), (q27_3, .inr (12, [.null, .ref ta_31, .ref tb_31, .ref tc_31, .int 0, .int 0, .int 0, .int 101, .int 0, .int 0])), (ta_31, .inr (13, [.int 1, .ref qa_31, .int 0])), (qa_31, .inl ((k 0), 3, .inl (fun _ => 0))), (tb_31, .inr (13, [.int 3, .ref qb_31, .int 0])), (qb_31, .inl ((k 0), 150, .inl (fun _ => 0))), (tc_31, .inr (13, [.int 2, .ref qc_31, .int 0])), (qc_31, .inl ((k 0), 160, .inl (fun _ => 0))), (q38_4, .inr (12, [.null, .ref ta_42, .ref tb_42, .ref tc_42, .int 0, .int 0, .int 0, .int 101, .int 0, .int 0])), (ta_42, .inr (13, [.int 1, .ref qa_42, .int 0])), (qa_42, .inl ((k 0), 3, .inl (fun _ => 0))), (tb_42, .inr (13, [.int 3, .ref qb_42, .int 0])), (qb_42, .inl ((k 0), 150, .inl (fun _ => 0))), (tc_42, .inr (13, [.int 2, .ref qc_42, .int 0])), (qc_42, .inl ((k 0), 160, .inl (fun _ => 0)))] := hD
  refine lv_aload_n hx hb dX11_init_48 rfl (lv_at hl 0 rfl) ?_
  refine va_new (D := D) (ci := 8) (fs := [.null, .null, .null, .null, .null, .int 0, .null, .int 0, .null, .int 0, .int 0, .int 0]) (C := RX4) (T := TX4) (N := 12) hx hb hts iw_X11_init_X4 tyX4 tyX4_ok hown (hts (.classLink RX11 33 RX4) (by decide +kernel)) (hts (.instantiable RX4 12) (by decide +kernel)) (hts (.initialized RX4) (by decide +kernel)) hK hP hD hS hA rfl (fun j hj => by rcases (show j = 0 ∨ j = 1 ∨ j = 2 ∨ j = 3 ∨ j = 4 ∨ j = 5 ∨ j = 6 ∨ j = 7 ∨ j = 8 ∨ j = 9 ∨ j = 10 ∨ j = 11 by omega) with rfl | rfl | rfl | rfl | rfl | rfl | rfl | rfl | rfl | rfl | rfl | rfl <;> rfl) (Nat.le_of_ble_eq_true rfl) (Nat.le_of_ble_eq_true rfl) dX11_init_49 (fun q49_5 H hP hD hS => ?_)
  have hP : va_P D vwCl [(h0, .inr (15, [.ref q5_1, .ref q16_2, .null, .null, .ref q27_3, .ref q38_4, .int 0, .int 0, .long 0])), (q5_1, .inr (14, [.int 0, .ref ta_9, .ref tb_9, .ref tc_9, .ref td_9])), (ta_9, .inr (13, [.int 3, .ref qa_9, .int 0])), (qa_9, .inl ((k 0), 30, .inl (fun _ => 0))), (tb_9, .inr (13, [.int 4, .ref qb_9, .int 0])), (qb_9, .inl ((k 0), 800, .inl (fun _ => 0))), (tc_9, .inr (13, [.int 1, .ref qc_9, .int 64])), (qc_9, .inl ((k 0), 64, .inl fc_9)), (td_9, .inl ((k 1), 200, .inr (.inl (fun _ => 0)))), (q16_2, .inr (11, [.ref la_20, .ref lb_20, .ref lc_20])), (la_20, .inr (3, [.int 0, .ref e0, .int 0])), (lb_20, .inr (3, [.int 0, .ref e0, .int 0])), (lc_20, .inr (3, [.int 0, .ref e0, .int 0])), (q27_3, .inr (12, [.null, .ref ta_31, .ref tb_31, .ref tc_31, .int 0, .int 0, .int 0, .int 101, .int 0, .int 0])), (ta_31, .inr (13, [.int 1, .ref qa_31, .int 0])), (qa_31, .inl ((k 0), 3, .inl (fun _ => 0))), (tb_31, .inr (13, [.int 3, .ref qb_31, .int 0])), (qb_31, .inl ((k 0), 150, .inl (fun _ => 0))), (tc_31, .inr (13, [.int 2, .ref qc_31, .int 0])), (qc_31, .inl ((k 0), 160, .inl (fun _ => 0))), (q38_4, .inr (12, [.null, .ref ta_42, .ref tb_42, .ref tc_42, .int 0, .int 0, .int 0, .int 101, .int 0, .int 0])), (ta_42, .inr (13, [.int 1, .ref qa_42, .int 0])), (qa_42, .inl ((k 0), 3, .inl (fun _ => 0))), (tb_42, .inr (13, [.int 3, .ref qb_42, .int 0])), (qb_42, .inl ((k 0), 150, .inl (fun _ => 0))), (tc_42, .inr (13, [.int 2, .ref qc_42, .int 0])), (qc_42, .inl ((k 0), 160, .inl (fun _ => 0))), (q49_5, .inr (8, [.null, .null, .null, .null, .null, .int 0, .null, .int 0, .null, .int 0, .int 0, .int 0]))] H := hP
  have hD : va_D A [(h0, .inr (15, [.ref q5_1, .ref q16_2, .null, .null, .ref q27_3, .ref q38_4, .int 0, .int 0, .long 0])), (q5_1, .inr (14, [.int 0, .ref ta_9, .ref tb_9, .ref tc_9, .ref td_9])), (ta_9, .inr (13, [.int 3, .ref qa_9, .int 0])), (qa_9, .inl ((k 0), 30, .inl (fun _ => 0))), (tb_9, .inr (13, [.int 4, .ref qb_9, .int 0])), (qb_9, .inl ((k 0), 800, .inl (fun _ => 0))), (tc_9, .inr (13, [.int 1, .ref qc_9, .int 64])), (qc_9, .inl ((k 0), 64, .inl fc_9)), (td_9, .inl ((k 1), 200, .inr (.inl (fun _ => 0)))), (q16_2, .inr (11, [.ref la_20, .ref lb_20, .ref lc_20])), (la_20, .inr (3, [.int 0, .ref e0, .int 0])), (lb_20, .inr (3, [.int 0, .ref e0, .int 0])), (lc_20, .inr (3, [.int 0, .ref e0, .int 0])), (q27_3, .inr (12, [.null, .ref ta_31, .ref tb_31, .ref tc_31, .int 0, .int 0, .int 0, .int 101, .int 0, .int 0])), (ta_31, .inr (13, [.int 1, .ref qa_31, .int 0])), (qa_31, .inl ((k 0), 3, .inl (fun _ => 0))), (tb_31, .inr (13, [.int 3, .ref qb_31, .int 0])), (qb_31, .inl ((k 0), 150, .inl (fun _ => 0))), (tc_31, .inr (13, [.int 2, .ref qc_31, .int 0])), (qc_31, .inl ((k 0), 160, .inl (fun _ => 0))), (q38_4, .inr (12, [.null, .ref ta_42, .ref tb_42, .ref tc_42, .int 0, .int 0, .int 0, .int 101, .int 0, .int 0])), (ta_42, .inr (13, [.int 1, .ref qa_42, .int 0])), (qa_42, .inl ((k 0), 3, .inl (fun _ => 0))), (tb_42, .inr (13, [.int 3, .ref qb_42, .int 0])), (qb_42, .inl ((k 0), 150, .inl (fun _ => 0))), (tc_42, .inr (13, [.int 2, .ref qc_42, .int 0])), (qc_42, .inl ((k 0), 160, .inl (fun _ => 0))), (q49_5, .inr (8, [.null, .null, .null, .null, .null, .int 0, .null, .int 0, .null, .int 0, .int 0, .int 0]))] := hD
  refine lv_dup hx hb dX11_init_52 rfl ?_
  refine lv_aload_n hx hb dX11_init_53 rfl (lv_at hl 0 rfl) ?_
  refine va_get (D := D) (ci := 15) (v := .ref q5_1) (C := RX11) (T := TX11) (N := 9) hx hb hts iw_X11_init_X11 hown hK hP 0 rfl rfl 0 (by decide) (hts (.fieldLink RX11 10 "ModedMill" "store" "LModedMill$Terms;") (by decide +kernel)) (fun _ h9 => h9) rfl dX11_init_54 ?_
  refine lv_aload_n hx hb dX11_init_57 rfl (lv_at hl 0 rfl) ?_
  refine va_get (D := D) (ci := 15) (v := .ref q38_4) (C := RX11) (T := TX11) (N := 9) hx hb hts iw_X11_init_X11 hown hK hP 0 rfl rfl 5 (by decide) (hts (.fieldLink RX11 30 "ModedMill" "spare" "LModedMill$Report;") (by decide +kernel)) (fun _ h9 => h9) rfl dX11_init_58 ?_
  refine ov_callI hx hb hml hown hts (c_Machine_init l e0 D k q49_5 q5_1 q38_4) (cwI 2 hts gX11_init_X4_init rfl rfl rfl (hts (.initialized RX4) (by decide +kernel)) (hts (.methodLink RX11 35 yX4_init) (by decide +kernel)) (hts (.instanceMethod yX4_init) (by decide +kernel)) rfl (by decide +kernel) ⟨Nat.le_of_ble_eq_true rfl, Nat.le_of_ble_eq_true rfl⟩) hK hP hD hS hA hE [27] [0, 1, 2, 3, 4, 5, 6, 7, 8, 9, 10, 11, 12, 13, 14, 15, 16, 17, 18, 19, 20, 21, 22, 23, 24, 25, 26] rfl rfl (by decide) (by decide) (by decide) (wr := [(h0, .inr (15, [.ref q5_1, .ref q16_2, .null, .null, .ref q27_3, .ref q38_4, .int 0, .int 0, .long 0])), (q5_1, .inr (14, [.int 0, .ref ta_9, .ref tb_9, .ref tc_9, .ref td_9])), (ta_9, .inr (13, [.int 3, .ref qa_9, .int 0])), (qa_9, .inl ((k 0), 30, .inl (fun _ => 0))), (tb_9, .inr (13, [.int 4, .ref qb_9, .int 0])), (qb_9, .inl ((k 0), 800, .inl (fun _ => 0))), (tc_9, .inr (13, [.int 1, .ref qc_9, .int 64])), (qc_9, .inl ((k 0), 64, .inl fc_9)), (td_9, .inl ((k 1), 200, .inr (.inl (fun _ => 0)))), (q16_2, .inr (11, [.ref la_20, .ref lb_20, .ref lc_20])), (la_20, .inr (3, [.int 0, .ref e0, .int 0])), (lb_20, .inr (3, [.int 0, .ref e0, .int 0])), (lc_20, .inr (3, [.int 0, .ref e0, .int 0])), (q27_3, .inr (12, [.null, .ref ta_31, .ref tb_31, .ref tc_31, .int 0, .int 0, .int 0, .int 101, .int 0, .int 0])), (ta_31, .inr (13, [.int 1, .ref qa_31, .int 0])), (qa_31, .inl ((k 0), 3, .inl (fun _ => 0))), (tb_31, .inr (13, [.int 3, .ref qb_31, .int 0])), (qb_31, .inl ((k 0), 150, .inl (fun _ => 0))), (tc_31, .inr (13, [.int 2, .ref qc_31, .int 0])), (qc_31, .inl ((k 0), 160, .inl (fun _ => 0))), (q38_4, .inr (12, [.null, .ref ta_42, .ref tb_42, .ref tc_42, .int 0, .int 0, .int 0, .int 101, .int 0, .int 0])), (ta_42, .inr (13, [.int 1, .ref qa_42, .int 0])), (qa_42, .inl ((k 0), 3, .inl (fun _ => 0))), (tb_42, .inr (13, [.int 3, .ref qb_42, .int 0])), (qb_42, .inl ((k 0), 150, .inl (fun _ => 0))), (tc_42, .inr (13, [.int 2, .ref qc_42, .int 0])), (qc_42, .inl ((k 0), 160, .inl (fun _ => 0)))]) (w2 := fun u => [(h0, .inr (15, [.ref q5_1, .ref q16_2, .null, .null, .ref q27_3, .ref q38_4, .int 0, .int 0, .long 0])), (q5_1, .inr (14, [.int 0, .ref ta_9, .ref tb_9, .ref tc_9, .ref td_9])), (ta_9, .inr (13, [.int 3, .ref qa_9, .int 0])), (qa_9, .inl ((k 0), 30, .inl (fun _ => 0))), (tb_9, .inr (13, [.int 4, .ref qb_9, .int 0])), (qb_9, .inl ((k 0), 800, .inl (fun _ => 0))), (tc_9, .inr (13, [.int 1, .ref qc_9, .int 64])), (qc_9, .inl ((k 0), 64, .inl fc_9)), (td_9, .inl ((k 1), 200, .inr (.inl (fun _ => 0)))), (q16_2, .inr (11, [.ref la_20, .ref lb_20, .ref lc_20])), (la_20, .inr (3, [.int 0, .ref e0, .int 0])), (lb_20, .inr (3, [.int 0, .ref e0, .int 0])), (lc_20, .inr (3, [.int 0, .ref e0, .int 0])), (q27_3, .inr (12, [.null, .ref ta_31, .ref tb_31, .ref tc_31, .int 0, .int 0, .int 0, .int 101, .int 0, .int 0])), (ta_31, .inr (13, [.int 1, .ref qa_31, .int 0])), (qa_31, .inl ((k 0), 3, .inl (fun _ => 0))), (tb_31, .inr (13, [.int 3, .ref qb_31, .int 0])), (qb_31, .inl ((k 0), 150, .inl (fun _ => 0))), (tc_31, .inr (13, [.int 2, .ref qc_31, .int 0])), (qc_31, .inl ((k 0), 160, .inl (fun _ => 0))), (q38_4, .inr (12, [.null, .ref ta_42, .ref tb_42, .ref tc_42, .int 0, .int 0, .int 0, .int 101, .int 0, .int 0])), (ta_42, .inr (13, [.int 1, .ref qa_42, .int 0])), (qa_42, .inl ((k 0), 3, .inl (fun _ => 0))), (tb_42, .inr (13, [.int 3, .ref qb_42, .int 0])), (qb_42, .inl ((k 0), 150, .inl (fun _ => 0))), (tc_42, .inr (13, [.int 2, .ref qc_42, .int 0])), (qc_42, .inl ((k 0), 160, .inl (fun _ => 0))), (q49_5, .inr (8, [.ref q5_1, .ref u.1, .ref u.2.1, .ref u.2.2.2.1, .ref q38_4, .int 0, .null, .int 0, .null, .int 0, .int 0, .int 0])), (u.1, .inr (3, [.int 0, .ref e0, .int 0])), (u.2.1, .inr (13, [.int 3, .ref u.2.2.1, .int 0])), (u.2.2.1, .inl ((k 0), 90, .inl (fun _ => 0))), (u.2.2.2.1, .inr (13, [.int 2, .ref u.2.2.2.2, .int 0])), (u.2.2.2.2, .inl ((k 0), 60, .inl (fun _ => 0)))]) (fun _ => rfl) hl.1 rfl (Nat.le_of_ble_eq_true rfl) rfl ⟨Nat.le_of_ble_eq_true rfl, Nat.le_of_ble_eq_true rfl⟩ dX11_init_61 (fun u H locs hq hP hD hS => ?_)
  obtain ⟨la_61, tb_61, qb_61, tc_61, qc_61⟩ := u
  have hP : va_P D vwCl [(h0, .inr (15, [.ref q5_1, .ref q16_2, .null, .null, .ref q27_3, .ref q38_4, .int 0, .int 0, .long 0])), (q5_1, .inr (14, [.int 0, .ref ta_9, .ref tb_9, .ref tc_9, .ref td_9])), (ta_9, .inr (13, [.int 3, .ref qa_9, .int 0])), (qa_9, .inl ((k 0), 30, .inl (fun _ => 0))), (tb_9, .inr (13, [.int 4, .ref qb_9, .int 0])), (qb_9, .inl ((k 0), 800, .inl (fun _ => 0))), (tc_9, .inr (13, [.int 1, .ref qc_9, .int 64])), (qc_9, .inl ((k 0), 64, .inl fc_9)), (td_9, .inl ((k 1), 200, .inr (.inl (fun _ => 0)))), (q16_2, .inr (11, [.ref la_20, .ref lb_20, .ref lc_20])), (la_20, .inr (3, [.int 0, .ref e0, .int 0])), (lb_20, .inr (3, [.int 0, .ref e0, .int 0])), (lc_20, .inr (3, [.int 0, .ref e0, .int 0])), (q27_3, .inr (12, [.null, .ref ta_31, .ref tb_31, .ref tc_31, .int 0, .int 0, .int 0, .int 101, .int 0, .int 0])), (ta_31, .inr (13, [.int 1, .ref qa_31, .int 0])), (qa_31, .inl ((k 0), 3, .inl (fun _ => 0))), (tb_31, .inr (13, [.int 3, .ref qb_31, .int 0])), (qb_31, .inl ((k 0), 150, .inl (fun _ => 0))), (tc_31, .inr (13, [.int 2, .ref qc_31, .int 0])), (qc_31, .inl ((k 0), 160, .inl (fun _ => 0))), (q38_4, .inr (12, [.null, .ref ta_42, .ref tb_42, .ref tc_42, .int 0, .int 0, .int 0, .int 101, .int 0, .int 0])), (ta_42, .inr (13, [.int 1, .ref qa_42, .int 0])), (qa_42, .inl ((k 0), 3, .inl (fun _ => 0))), (tb_42, .inr (13, [.int 3, .ref qb_42, .int 0])), (qb_42, .inl ((k 0), 150, .inl (fun _ => 0))), (tc_42, .inr (13, [.int 2, .ref qc_42, .int 0])), (qc_42, .inl ((k 0), 160, .inl (fun _ => 0))), (q49_5, .inr (8, [.ref q5_1, .ref la_61, .ref tb_61, .ref tc_61, .ref q38_4, .int 0, .null, .int 0, .null, .int 0, .int 0, .int 0])), (la_61, .inr (3, [.int 0, .ref e0, .int 0])), (tb_61, .inr (13, [.int 3, .ref qb_61, .int 0])), (qb_61, .inl ((k 0), 90, .inl (fun _ => 0))), (tc_61, .inr (13, [.int 2, .ref qc_61, .int 0])), (qc_61, .inl ((k 0), 60, .inl (fun _ => 0)))] H := hP
  have hD : va_D A [(h0, .inr (15, [.ref q5_1, .ref q16_2, .null, .null, .ref q27_3, .ref q38_4, .int 0, .int 0, .long 0])), (q5_1, .inr (14, [.int 0, .ref ta_9, .ref tb_9, .ref tc_9, .ref td_9])), (ta_9, .inr (13, [.int 3, .ref qa_9, .int 0])), (qa_9, .inl ((k 0), 30, .inl (fun _ => 0))), (tb_9, .inr (13, [.int 4, .ref qb_9, .int 0])), (qb_9, .inl ((k 0), 800, .inl (fun _ => 0))), (tc_9, .inr (13, [.int 1, .ref qc_9, .int 64])), (qc_9, .inl ((k 0), 64, .inl fc_9)), (td_9, .inl ((k 1), 200, .inr (.inl (fun _ => 0)))), (q16_2, .inr (11, [.ref la_20, .ref lb_20, .ref lc_20])), (la_20, .inr (3, [.int 0, .ref e0, .int 0])), (lb_20, .inr (3, [.int 0, .ref e0, .int 0])), (lc_20, .inr (3, [.int 0, .ref e0, .int 0])), (q27_3, .inr (12, [.null, .ref ta_31, .ref tb_31, .ref tc_31, .int 0, .int 0, .int 0, .int 101, .int 0, .int 0])), (ta_31, .inr (13, [.int 1, .ref qa_31, .int 0])), (qa_31, .inl ((k 0), 3, .inl (fun _ => 0))), (tb_31, .inr (13, [.int 3, .ref qb_31, .int 0])), (qb_31, .inl ((k 0), 150, .inl (fun _ => 0))), (tc_31, .inr (13, [.int 2, .ref qc_31, .int 0])), (qc_31, .inl ((k 0), 160, .inl (fun _ => 0))), (q38_4, .inr (12, [.null, .ref ta_42, .ref tb_42, .ref tc_42, .int 0, .int 0, .int 0, .int 101, .int 0, .int 0])), (ta_42, .inr (13, [.int 1, .ref qa_42, .int 0])), (qa_42, .inl ((k 0), 3, .inl (fun _ => 0))), (tb_42, .inr (13, [.int 3, .ref qb_42, .int 0])), (qb_42, .inl ((k 0), 150, .inl (fun _ => 0))), (tc_42, .inr (13, [.int 2, .ref qc_42, .int 0])), (qc_42, .inl ((k 0), 160, .inl (fun _ => 0))), (q49_5, .inr (8, [.ref q5_1, .ref la_61, .ref tb_61, .ref tc_61, .ref q38_4, .int 0, .null, .int 0, .null, .int 0, .int 0, .int 0])), (la_61, .inr (3, [.int 0, .ref e0, .int 0])), (tb_61, .inr (13, [.int 3, .ref qb_61, .int 0])), (qb_61, .inl ((k 0), 90, .inl (fun _ => 0))), (tc_61, .inr (13, [.int 2, .ref qc_61, .int 0])), (qc_61, .inl ((k 0), 60, .inl (fun _ => 0)))] := hD
  refine va_putF (D := D) (ci := 15) (v := .ref q49_5) (ty := (tyX11 2)) (C := RX11) (T := TX11) (N := 9) hx hb hts iw_X11_init_X11 tyX11 tyX11_ok nmX11 hown hK hP hD hS 0 rfl rfl 2 (by decide) (hts (.fieldLink RX11 38 "ModedMill" "machine" "LModedMill$Machine;") (by decide +kernel)) (fun _ h9 => h9) rfl hin rfl (by decide +kernel) rfl rfl (Nat.le_of_ble_eq_true rfl) dX11_init_64 (fun H locs hP hD hS => ?_)
  have hP : va_P D vwCl [(h0, .inr (15, [.ref q5_1, .ref q16_2, .ref q49_5, .null, .ref q27_3, .ref q38_4, .int 0, .int 0, .long 0])), (q5_1, .inr (14, [.int 0, .ref ta_9, .ref tb_9, .ref tc_9, .ref td_9])), (ta_9, .inr (13, [.int 3, .ref qa_9, .int 0])), (qa_9, .inl ((k 0), 30, .inl (fun _ => 0))), (tb_9, .inr (13, [.int 4, .ref qb_9, .int 0])), (qb_9, .inl ((k 0), 800, .inl (fun _ => 0))), (tc_9, .inr (13, [.int 1, .ref qc_9, .int 64])), (qc_9, .inl ((k 0), 64, .inl fc_9)), (td_9, .inl ((k 1), 200, .inr (.inl (fun _ => 0)))), (q16_2, .inr (11, [.ref la_20, .ref lb_20, .ref lc_20])), (la_20, .inr (3, [.int 0, .ref e0, .int 0])), (lb_20, .inr (3, [.int 0, .ref e0, .int 0])), (lc_20, .inr (3, [.int 0, .ref e0, .int 0])), (q27_3, .inr (12, [.null, .ref ta_31, .ref tb_31, .ref tc_31, .int 0, .int 0, .int 0, .int 101, .int 0, .int 0])), (ta_31, .inr (13, [.int 1, .ref qa_31, .int 0])), (qa_31, .inl ((k 0), 3, .inl (fun _ => 0))), (tb_31, .inr (13, [.int 3, .ref qb_31, .int 0])), (qb_31, .inl ((k 0), 150, .inl (fun _ => 0))), (tc_31, .inr (13, [.int 2, .ref qc_31, .int 0])), (qc_31, .inl ((k 0), 160, .inl (fun _ => 0))), (q38_4, .inr (12, [.null, .ref ta_42, .ref tb_42, .ref tc_42, .int 0, .int 0, .int 0, .int 101, .int 0, .int 0])), (ta_42, .inr (13, [.int 1, .ref qa_42, .int 0])), (qa_42, .inl ((k 0), 3, .inl (fun _ => 0))), (tb_42, .inr (13, [.int 3, .ref qb_42, .int 0])), (qb_42, .inl ((k 0), 150, .inl (fun _ => 0))), (tc_42, .inr (13, [.int 2, .ref qc_42, .int 0])), (qc_42, .inl ((k 0), 160, .inl (fun _ => 0))), (q49_5, .inr (8, [.ref q5_1, .ref la_61, .ref tb_61, .ref tc_61, .ref q38_4, .int 0, .null, .int 0, .null, .int 0, .int 0, .int 0])), (la_61, .inr (3, [.int 0, .ref e0, .int 0])), (tb_61, .inr (13, [.int 3, .ref qb_61, .int 0])), (qb_61, .inl ((k 0), 90, .inl (fun _ => 0))), (tc_61, .inr (13, [.int 2, .ref qc_61, .int 0])), (qc_61, .inl ((k 0), 60, .inl (fun _ => 0)))] H := hP
  have hD : va_D A [(h0, .inr (15, [.ref q5_1, .ref q16_2, .ref q49_5, .null, .ref q27_3, .ref q38_4, .int 0, .int 0, .long 0])), (q5_1, .inr (14, [.int 0, .ref ta_9, .ref tb_9, .ref tc_9, .ref td_9])), (ta_9, .inr (13, [.int 3, .ref qa_9, .int 0])), (qa_9, .inl ((k 0), 30, .inl (fun _ => 0))), (tb_9, .inr (13, [.int 4, .ref qb_9, .int 0])), (qb_9, .inl ((k 0), 800, .inl (fun _ => 0))), (tc_9, .inr (13, [.int 1, .ref qc_9, .int 64])), (qc_9, .inl ((k 0), 64, .inl fc_9)), (td_9, .inl ((k 1), 200, .inr (.inl (fun _ => 0)))), (q16_2, .inr (11, [.ref la_20, .ref lb_20, .ref lc_20])), (la_20, .inr (3, [.int 0, .ref e0, .int 0])), (lb_20, .inr (3, [.int 0, .ref e0, .int 0])), (lc_20, .inr (3, [.int 0, .ref e0, .int 0])), (q27_3, .inr (12, [.null, .ref ta_31, .ref tb_31, .ref tc_31, .int 0, .int 0, .int 0, .int 101, .int 0, .int 0])), (ta_31, .inr (13, [.int 1, .ref qa_31, .int 0])), (qa_31, .inl ((k 0), 3, .inl (fun _ => 0))), (tb_31, .inr (13, [.int 3, .ref qb_31, .int 0])), (qb_31, .inl ((k 0), 150, .inl (fun _ => 0))), (tc_31, .inr (13, [.int 2, .ref qc_31, .int 0])), (qc_31, .inl ((k 0), 160, .inl (fun _ => 0))), (q38_4, .inr (12, [.null, .ref ta_42, .ref tb_42, .ref tc_42, .int 0, .int 0, .int 0, .int 101, .int 0, .int 0])), (ta_42, .inr (13, [.int 1, .ref qa_42, .int 0])), (qa_42, .inl ((k 0), 3, .inl (fun _ => 0))), (tb_42, .inr (13, [.int 3, .ref qb_42, .int 0])), (qb_42, .inl ((k 0), 150, .inl (fun _ => 0))), (tc_42, .inr (13, [.int 2, .ref qc_42, .int 0])), (qc_42, .inl ((k 0), 160, .inl (fun _ => 0))), (q49_5, .inr (8, [.ref q5_1, .ref la_61, .ref tb_61, .ref tc_61, .ref q38_4, .int 0, .null, .int 0, .null, .int 0, .int 0, .int 0])), (la_61, .inr (3, [.int 0, .ref e0, .int 0])), (tb_61, .inr (13, [.int 3, .ref qb_61, .int 0])), (qb_61, .inl ((k 0), 90, .inl (fun _ => 0))), (tc_61, .inr (13, [.int 2, .ref qc_61, .int 0])), (qc_61, .inl ((k 0), 60, .inl (fun _ => 0)))] := hD
  refine lv_aload_n hx hb dX11_init_67 rfl (lv_at hl 0 rfl) ?_
  refine va_new (D := D) (ci := 4) (fs := [.null, .null, .null, .int 0, .null, .null, .null, .null, .int 0, .null, .null, .null, .int 0, .int 0, .int 0]) (C := RX0) (T := TX0) (N := 15) hx hb hts iw_X11_init_X0 tyX0 tyX0_ok hown (hts (.classLink RX11 42 RX0) (by decide +kernel)) (hts (.instantiable RX0 15) (by decide +kernel)) (hts (.initialized RX0) (by decide +kernel)) hK hP hD hS hA rfl (fun j hj => by rcases (show j = 0 ∨ j = 1 ∨ j = 2 ∨ j = 3 ∨ j = 4 ∨ j = 5 ∨ j = 6 ∨ j = 7 ∨ j = 8 ∨ j = 9 ∨ j = 10 ∨ j = 11 ∨ j = 12 ∨ j = 13 ∨ j = 14 by omega) with rfl | rfl | rfl | rfl | rfl | rfl | rfl | rfl | rfl | rfl | rfl | rfl | rfl | rfl | rfl <;> rfl) (Nat.le_of_ble_eq_true rfl) (Nat.le_of_ble_eq_true rfl) dX11_init_68 (fun q68_6 H hP hD hS => ?_)
  have hP : va_P D vwCl [(h0, .inr (15, [.ref q5_1, .ref q16_2, .ref q49_5, .null, .ref q27_3, .ref q38_4, .int 0, .int 0, .long 0])), (q5_1, .inr (14, [.int 0, .ref ta_9, .ref tb_9, .ref tc_9, .ref td_9])), (ta_9, .inr (13, [.int 3, .ref qa_9, .int 0])), (qa_9, .inl ((k 0), 30, .inl (fun _ => 0))), (tb_9, .inr (13, [.int 4, .ref qb_9, .int 0])), (qb_9, .inl ((k 0), 800, .inl (fun _ => 0))), (tc_9, .inr (13, [.int 1, .ref qc_9, .int 64])), (qc_9, .inl ((k 0), 64, .inl fc_9)), (td_9, .inl ((k 1), 200, .inr (.inl (fun _ => 0)))), (q16_2, .inr (11, [.ref la_20, .ref lb_20, .ref lc_20])), (la_20, .inr (3, [.int 0, .ref e0, .int 0])), (lb_20, .inr (3, [.int 0, .ref e0, .int 0])), (lc_20, .inr (3, [.int 0, .ref e0, .int 0])), (q27_3, .inr (12, [.null, .ref ta_31, .ref tb_31, .ref tc_31, .int 0, .int 0, .int 0, .int 101, .int 0, .int 0])), (ta_31, .inr (13, [.int 1, .ref qa_31, .int 0])), (qa_31, .inl ((k 0), 3, .inl (fun _ => 0))), (tb_31, .inr (13, [.int 3, .ref qb_31, .int 0])), (qb_31, .inl ((k 0), 150, .inl (fun _ => 0))), (tc_31, .inr (13, [.int 2, .ref qc_31, .int 0])), (qc_31, .inl ((k 0), 160, .inl (fun _ => 0))), (q38_4, .inr (12, [.null, .ref ta_42, .ref tb_42, .ref tc_42, .int 0, .int 0, .int 0, .int 101, .int 0, .int 0])), (ta_42, .inr (13, [.int 1, .ref qa_42, .int 0])), (qa_42, .inl ((k 0), 3, .inl (fun _ => 0))), (tb_42, .inr (13, [.int 3, .ref qb_42, .int 0])), (qb_42, .inl ((k 0), 150, .inl (fun _ => 0))), (tc_42, .inr (13, [.int 2, .ref qc_42, .int 0])), (qc_42, .inl ((k 0), 160, .inl (fun _ => 0))), (q49_5, .inr (8, [.ref q5_1, .ref la_61, .ref tb_61, .ref tc_61, .ref q38_4, .int 0, .null, .int 0, .null, .int 0, .int 0, .int 0])), (la_61, .inr (3, [.int 0, .ref e0, .int 0])), (tb_61, .inr (13, [.int 3, .ref qb_61, .int 0])), (qb_61, .inl ((k 0), 90, .inl (fun _ => 0))), (tc_61, .inr (13, [.int 2, .ref qc_61, .int 0])), (qc_61, .inl ((k 0), 60, .inl (fun _ => 0))), (q68_6, .inr (4, [.null, .null, .null, .int 0, .null, .null, .null, .null, .int 0, .null, .null, .null, .int 0, .int 0, .int 0]))] H := hP
  have hD : va_D A [(h0, .inr (15, [.ref q5_1, .ref q16_2, .ref q49_5, .null, .ref q27_3, .ref q38_4, .int 0, .int 0, .long 0])), (q5_1, .inr (14, [.int 0, .ref ta_9, .ref tb_9, .ref tc_9, .ref td_9])), (ta_9, .inr (13, [.int 3, .ref qa_9, .int 0])), (qa_9, .inl ((k 0), 30, .inl (fun _ => 0))), (tb_9, .inr (13, [.int 4, .ref qb_9, .int 0])), (qb_9, .inl ((k 0), 800, .inl (fun _ => 0))), (tc_9, .inr (13, [.int 1, .ref qc_9, .int 64])), (qc_9, .inl ((k 0), 64, .inl fc_9)), (td_9, .inl ((k 1), 200, .inr (.inl (fun _ => 0)))), (q16_2, .inr (11, [.ref la_20, .ref lb_20, .ref lc_20])), (la_20, .inr (3, [.int 0, .ref e0, .int 0])), (lb_20, .inr (3, [.int 0, .ref e0, .int 0])), (lc_20, .inr (3, [.int 0, .ref e0, .int 0])), (q27_3, .inr (12, [.null, .ref ta_31, .ref tb_31, .ref tc_31, .int 0, .int 0, .int 0, .int 101, .int 0, .int 0])), (ta_31, .inr (13, [.int 1, .ref qa_31, .int 0])), (qa_31, .inl ((k 0), 3, .inl (fun _ => 0))), (tb_31, .inr (13, [.int 3, .ref qb_31, .int 0])), (qb_31, .inl ((k 0), 150, .inl (fun _ => 0))), (tc_31, .inr (13, [.int 2, .ref qc_31, .int 0])), (qc_31, .inl ((k 0), 160, .inl (fun _ => 0))), (q38_4, .inr (12, [.null, .ref ta_42, .ref tb_42, .ref tc_42, .int 0, .int 0, .int 0, .int 101, .int 0, .int 0])), (ta_42, .inr (13, [.int 1, .ref qa_42, .int 0])), (qa_42, .inl ((k 0), 3, .inl (fun _ => 0))), (tb_42, .inr (13, [.int 3, .ref qb_42, .int 0])), (qb_42, .inl ((k 0), 150, .inl (fun _ => 0))), (tc_42, .inr (13, [.int 2, .ref qc_42, .int 0])), (qc_42, .inl ((k 0), 160, .inl (fun _ => 0))), (q49_5, .inr (8, [.ref q5_1, .ref la_61, .ref tb_61, .ref tc_61, .ref q38_4, .int 0, .null, .int 0, .null, .int 0, .int 0, .int 0])), (la_61, .inr (3, [.int 0, .ref e0, .int 0])), (tb_61, .inr (13, [.int 3, .ref qb_61, .int 0])), (qb_61, .inl ((k 0), 90, .inl (fun _ => 0))), (tc_61, .inr (13, [.int 2, .ref qc_61, .int 0])), (qc_61, .inl ((k 0), 60, .inl (fun _ => 0))), (q68_6, .inr (4, [.null, .null, .null, .int 0, .null, .null, .null, .null, .int 0, .null, .null, .null, .int 0, .int 0, .int 0]))] := hD
  refine lv_dup hx hb dX11_init_71 rfl ?_
  refine lv_aload_n hx hb dX11_init_72 rfl (lv_at hl 0 rfl) ?_
  refine va_get (D := D) (ci := 15) (v := .ref q16_2) (C := RX11) (T := TX11) (N := 9) hx hb hts iw_X11_init_X11 hown hK hP 0 rfl rfl 1 (by decide) (hts (.fieldLink RX11 19 "ModedMill" "program" "LModedMill$Program;") (by decide +kernel)) (fun _ h9 => h9) rfl dX11_init_73 ?_
  refine lv_aload_n hx hb dX11_init_76 rfl (lv_at hl 0 rfl) ?_
  refine va_get (D := D) (ci := 15) (v := .ref q5_1) (C := RX11) (T := TX11) (N := 9) hx hb hts iw_X11_init_X11 hown hK hP 0 rfl rfl 0 (by decide) (hts (.fieldLink RX11 10 "ModedMill" "store" "LModedMill$Terms;") (by decide +kernel)) (fun _ h9 => h9) rfl dX11_init_77 ?_
  refine ov_callI hx hb hml hown hts (c_Breadth_init l e0 D k q68_6 q16_2 q5_1) (cwI 2 hts gX11_init_X0_init rfl rfl rfl (hts (.initialized RX0) (by decide +kernel)) (hts (.methodLink RX11 44 yX0_init) (by decide +kernel)) (hts (.instanceMethod yX0_init) (by decide +kernel)) rfl (by decide +kernel) ⟨Nat.le_of_ble_eq_true rfl, Nat.le_of_ble_eq_true rfl⟩) hK hP hD hS hA hE [33] [0, 1, 2, 3, 4, 5, 6, 7, 8, 9, 10, 11, 12, 13, 14, 15, 16, 17, 18, 19, 20, 21, 22, 23, 24, 25, 26, 27, 28, 29, 30, 31, 32] rfl rfl (by decide) (by decide) (by decide) (wr := [(h0, .inr (15, [.ref q5_1, .ref q16_2, .ref q49_5, .null, .ref q27_3, .ref q38_4, .int 0, .int 0, .long 0])), (q5_1, .inr (14, [.int 0, .ref ta_9, .ref tb_9, .ref tc_9, .ref td_9])), (ta_9, .inr (13, [.int 3, .ref qa_9, .int 0])), (qa_9, .inl ((k 0), 30, .inl (fun _ => 0))), (tb_9, .inr (13, [.int 4, .ref qb_9, .int 0])), (qb_9, .inl ((k 0), 800, .inl (fun _ => 0))), (tc_9, .inr (13, [.int 1, .ref qc_9, .int 64])), (qc_9, .inl ((k 0), 64, .inl fc_9)), (td_9, .inl ((k 1), 200, .inr (.inl (fun _ => 0)))), (q16_2, .inr (11, [.ref la_20, .ref lb_20, .ref lc_20])), (la_20, .inr (3, [.int 0, .ref e0, .int 0])), (lb_20, .inr (3, [.int 0, .ref e0, .int 0])), (lc_20, .inr (3, [.int 0, .ref e0, .int 0])), (q27_3, .inr (12, [.null, .ref ta_31, .ref tb_31, .ref tc_31, .int 0, .int 0, .int 0, .int 101, .int 0, .int 0])), (ta_31, .inr (13, [.int 1, .ref qa_31, .int 0])), (qa_31, .inl ((k 0), 3, .inl (fun _ => 0))), (tb_31, .inr (13, [.int 3, .ref qb_31, .int 0])), (qb_31, .inl ((k 0), 150, .inl (fun _ => 0))), (tc_31, .inr (13, [.int 2, .ref qc_31, .int 0])), (qc_31, .inl ((k 0), 160, .inl (fun _ => 0))), (q38_4, .inr (12, [.null, .ref ta_42, .ref tb_42, .ref tc_42, .int 0, .int 0, .int 0, .int 101, .int 0, .int 0])), (ta_42, .inr (13, [.int 1, .ref qa_42, .int 0])), (qa_42, .inl ((k 0), 3, .inl (fun _ => 0))), (tb_42, .inr (13, [.int 3, .ref qb_42, .int 0])), (qb_42, .inl ((k 0), 150, .inl (fun _ => 0))), (tc_42, .inr (13, [.int 2, .ref qc_42, .int 0])), (qc_42, .inl ((k 0), 160, .inl (fun _ => 0))), (q49_5, .inr (8, [.ref q5_1, .ref la_61, .ref tb_61, .ref tc_61, .ref q38_4, .int 0, .null, .int 0, .null, .int 0, .int 0, .int 0])), (la_61, .inr (3, [.int 0, .ref e0, .int 0])), (tb_61, .inr (13, [.int 3, .ref qb_61, .int 0])), (qb_61, .inl ((k 0), 90, .inl (fun _ => 0))), (tc_61, .inr (13, [.int 2, .ref qc_61, .int 0])), (qc_61, .inl ((k 0), 60, .inl (fun _ => 0)))]) (w2 := fun u => [(h0, .inr (15, [.ref q5_1, .ref q16_2, .ref q49_5, .null, .ref q27_3, .ref q38_4, .int 0, .int 0, .long 0])), (q5_1, .inr (14, [.int 0, .ref ta_9, .ref tb_9, .ref tc_9, .ref td_9])), (ta_9, .inr (13, [.int 3, .ref qa_9, .int 0])), (qa_9, .inl ((k 0), 30, .inl (fun _ => 0))), (tb_9, .inr (13, [.int 4, .ref qb_9, .int 0])), (qb_9, .inl ((k 0), 800, .inl (fun _ => 0))), (tc_9, .inr (13, [.int 1, .ref qc_9, .int 64])), (qc_9, .inl ((k 0), 64, .inl fc_9)), (td_9, .inl ((k 1), 200, .inr (.inl (fun _ => 0)))), (q16_2, .inr (11, [.ref la_20, .ref lb_20, .ref lc_20])), (la_20, .inr (3, [.int 0, .ref e0, .int 0])), (lb_20, .inr (3, [.int 0, .ref e0, .int 0])), (lc_20, .inr (3, [.int 0, .ref e0, .int 0])), (q27_3, .inr (12, [.null, .ref ta_31, .ref tb_31, .ref tc_31, .int 0, .int 0, .int 0, .int 101, .int 0, .int 0])), (ta_31, .inr (13, [.int 1, .ref qa_31, .int 0])), (qa_31, .inl ((k 0), 3, .inl (fun _ => 0))), (tb_31, .inr (13, [.int 3, .ref qb_31, .int 0])), (qb_31, .inl ((k 0), 150, .inl (fun _ => 0))), (tc_31, .inr (13, [.int 2, .ref qc_31, .int 0])), (qc_31, .inl ((k 0), 160, .inl (fun _ => 0))), (q38_4, .inr (12, [.null, .ref ta_42, .ref tb_42, .ref tc_42, .int 0, .int 0, .int 0, .int 101, .int 0, .int 0])), (ta_42, .inr (13, [.int 1, .ref qa_42, .int 0])), (qa_42, .inl ((k 0), 3, .inl (fun _ => 0))), (tb_42, .inr (13, [.int 3, .ref qb_42, .int 0])), (qb_42, .inl ((k 0), 150, .inl (fun _ => 0))), (tc_42, .inr (13, [.int 2, .ref qc_42, .int 0])), (qc_42, .inl ((k 0), 160, .inl (fun _ => 0))), (q49_5, .inr (8, [.ref q5_1, .ref la_61, .ref tb_61, .ref tc_61, .ref q38_4, .int 0, .null, .int 0, .null, .int 0, .int 0, .int 0])), (la_61, .inr (3, [.int 0, .ref e0, .int 0])), (tb_61, .inr (13, [.int 3, .ref qb_61, .int 0])), (qb_61, .inl ((k 0), 90, .inl (fun _ => 0))), (tc_61, .inr (13, [.int 2, .ref qc_61, .int 0])), (qc_61, .inl ((k 0), 60, .inl (fun _ => 0))), (q68_6, .inr (4, [.ref q16_2, .ref q5_1, .ref u.1, .int 0, .ref u.2.2.1, .ref u.2.2.2.2.1, .ref u.2.2.2.2.2.2.1, .ref u.2.2.2.2.2.2.2.2.1, .int 0, .ref u.2.2.2.2.2.2.2.2.2.2.1, .ref u.2.2.2.2.2.2.2.2.2.2.2.2.1, .ref u.2.2.2.2.2.2.2.2.2.2.2.2.2.2.1, .int 0, .int 0, .int 0])), (u.1, .inr (13, [.int 5, .ref u.2.1, .int 0])), (u.2.1, .inl ((k 0), 320, .inl (fun _ => 0))), (u.2.2.1, .inr (13, [.int 1, .ref u.2.2.2.1, .int 0])), (u.2.2.2.1, .inl ((k 0), 64, .inl (fun _ => 0))), (u.2.2.2.2.1, .inr (13, [.int 3, .ref u.2.2.2.2.2.1, .int 0])), (u.2.2.2.2.2.1, .inl ((k 0), 192, .inl (fun _ => 0))), (u.2.2.2.2.2.2.1, .inr (13, [.int 4, .ref u.2.2.2.2.2.2.2.1, .int 0])), (u.2.2.2.2.2.2.2.1, .inl ((k 0), 256, .inl (fun _ => 0))), (u.2.2.2.2.2.2.2.2.1, .inr (13, [.int 6, .ref u.2.2.2.2.2.2.2.2.2.1, .int 0])), (u.2.2.2.2.2.2.2.2.2.1, .inl ((k 0), 384, .inl (fun _ => 0))), (u.2.2.2.2.2.2.2.2.2.2.1, .inr (13, [.int 2, .ref u.2.2.2.2.2.2.2.2.2.2.2.1, .int 0])), (u.2.2.2.2.2.2.2.2.2.2.2.1, .inl ((k 0), 128, .inl (fun _ => 0))), (u.2.2.2.2.2.2.2.2.2.2.2.2.1, .inr (13, [.int 4, .ref u.2.2.2.2.2.2.2.2.2.2.2.2.2.1, .int 0])), (u.2.2.2.2.2.2.2.2.2.2.2.2.2.1, .inl ((k 0), 32, .inl (fun _ => 0))), (u.2.2.2.2.2.2.2.2.2.2.2.2.2.2.1, .inr (13, [.int 3, .ref u.2.2.2.2.2.2.2.2.2.2.2.2.2.2.2, .int 0])), (u.2.2.2.2.2.2.2.2.2.2.2.2.2.2.2, .inl ((k 0), 192, .inl (fun _ => 0)))]) (fun _ => rfl) hl.1 rfl (Nat.le_of_ble_eq_true rfl) rfl ⟨Nat.le_of_ble_eq_true rfl, Nat.le_of_ble_eq_true rfl⟩ dX11_init_80 (fun u H locs hq hP hD hS => ?_)
  obtain ⟨tnodes_80, qnodes_80, tvariables_80, qvariables_80, tcells_80, qcells_80, tlists_80, qlists_80, trow_80, qrow_80, tbindings_80, qbindings_80, tlevels_80, qlevels_80, twork_80, qwork_80⟩ := u
  have hP : va_P D vwCl [(h0, .inr (15, [.ref q5_1, .ref q16_2, .ref q49_5, .null, .ref q27_3, .ref q38_4, .int 0, .int 0, .long 0])), (q5_1, .inr (14, [.int 0, .ref ta_9, .ref tb_9, .ref tc_9, .ref td_9])), (ta_9, .inr (13, [.int 3, .ref qa_9, .int 0])), (qa_9, .inl ((k 0), 30, .inl (fun _ => 0))), (tb_9, .inr (13, [.int 4, .ref qb_9, .int 0])), (qb_9, .inl ((k 0), 800, .inl (fun _ => 0))), (tc_9, .inr (13, [.int 1, .ref qc_9, .int 64])), (qc_9, .inl ((k 0), 64, .inl fc_9)), (td_9, .inl ((k 1), 200, .inr (.inl (fun _ => 0)))), (q16_2, .inr (11, [.ref la_20, .ref lb_20, .ref lc_20])), (la_20, .inr (3, [.int 0, .ref e0, .int 0])), (lb_20, .inr (3, [.int 0, .ref e0, .int 0])), (lc_20, .inr (3, [.int 0, .ref e0, .int 0])), (q27_3, .inr (12, [.null, .ref ta_31, .ref tb_31, .ref tc_31, .int 0, .int 0, .int 0, .int 101, .int 0, .int 0])), (ta_31, .inr (13, [.int 1, .ref qa_31, .int 0])), (qa_31, .inl ((k 0), 3, .inl (fun _ => 0))), (tb_31, .inr (13, [.int 3, .ref qb_31, .int 0])), (qb_31, .inl ((k 0), 150, .inl (fun _ => 0))), (tc_31, .inr (13, [.int 2, .ref qc_31, .int 0])), (qc_31, .inl ((k 0), 160, .inl (fun _ => 0))), (q38_4, .inr (12, [.null, .ref ta_42, .ref tb_42, .ref tc_42, .int 0, .int 0, .int 0, .int 101, .int 0, .int 0])), (ta_42, .inr (13, [.int 1, .ref qa_42, .int 0])), (qa_42, .inl ((k 0), 3, .inl (fun _ => 0))), (tb_42, .inr (13, [.int 3, .ref qb_42, .int 0])), (qb_42, .inl ((k 0), 150, .inl (fun _ => 0))), (tc_42, .inr (13, [.int 2, .ref qc_42, .int 0])), (qc_42, .inl ((k 0), 160, .inl (fun _ => 0))), (q49_5, .inr (8, [.ref q5_1, .ref la_61, .ref tb_61, .ref tc_61, .ref q38_4, .int 0, .null, .int 0, .null, .int 0, .int 0, .int 0])), (la_61, .inr (3, [.int 0, .ref e0, .int 0])), (tb_61, .inr (13, [.int 3, .ref qb_61, .int 0])), (qb_61, .inl ((k 0), 90, .inl (fun _ => 0))), (tc_61, .inr (13, [.int 2, .ref qc_61, .int 0])), (qc_61, .inl ((k 0), 60, .inl (fun _ => 0))), (q68_6, .inr (4, [.ref q16_2, .ref q5_1, .ref tnodes_80, .int 0, .ref tvariables_80, .ref tcells_80, .ref tlists_80, .ref trow_80, .int 0, .ref tbindings_80, .ref tlevels_80, .ref twork_80, .int 0, .int 0, .int 0])), (tnodes_80, .inr (13, [.int 5, .ref qnodes_80, .int 0])), (qnodes_80, .inl ((k 0), 320, .inl (fun _ => 0))), (tvariables_80, .inr (13, [.int 1, .ref qvariables_80, .int 0])), (qvariables_80, .inl ((k 0), 64, .inl (fun _ => 0))), (tcells_80, .inr (13, [.int 3, .ref qcells_80, .int 0])), (qcells_80, .inl ((k 0), 192, .inl (fun _ => 0))), (tlists_80, .inr (13, [.int 4, .ref qlists_80, .int 0])), (qlists_80, .inl ((k 0), 256, .inl (fun _ => 0))), (trow_80, .inr (13, [.int 6, .ref qrow_80, .int 0])), (qrow_80, .inl ((k 0), 384, .inl (fun _ => 0))), (tbindings_80, .inr (13, [.int 2, .ref qbindings_80, .int 0])), (qbindings_80, .inl ((k 0), 128, .inl (fun _ => 0))), (tlevels_80, .inr (13, [.int 4, .ref qlevels_80, .int 0])), (qlevels_80, .inl ((k 0), 32, .inl (fun _ => 0))), (twork_80, .inr (13, [.int 3, .ref qwork_80, .int 0])), (qwork_80, .inl ((k 0), 192, .inl (fun _ => 0)))] H := hP
  have hD : va_D A [(h0, .inr (15, [.ref q5_1, .ref q16_2, .ref q49_5, .null, .ref q27_3, .ref q38_4, .int 0, .int 0, .long 0])), (q5_1, .inr (14, [.int 0, .ref ta_9, .ref tb_9, .ref tc_9, .ref td_9])), (ta_9, .inr (13, [.int 3, .ref qa_9, .int 0])), (qa_9, .inl ((k 0), 30, .inl (fun _ => 0))), (tb_9, .inr (13, [.int 4, .ref qb_9, .int 0])), (qb_9, .inl ((k 0), 800, .inl (fun _ => 0))), (tc_9, .inr (13, [.int 1, .ref qc_9, .int 64])), (qc_9, .inl ((k 0), 64, .inl fc_9)), (td_9, .inl ((k 1), 200, .inr (.inl (fun _ => 0)))), (q16_2, .inr (11, [.ref la_20, .ref lb_20, .ref lc_20])), (la_20, .inr (3, [.int 0, .ref e0, .int 0])), (lb_20, .inr (3, [.int 0, .ref e0, .int 0])), (lc_20, .inr (3, [.int 0, .ref e0, .int 0])), (q27_3, .inr (12, [.null, .ref ta_31, .ref tb_31, .ref tc_31, .int 0, .int 0, .int 0, .int 101, .int 0, .int 0])), (ta_31, .inr (13, [.int 1, .ref qa_31, .int 0])), (qa_31, .inl ((k 0), 3, .inl (fun _ => 0))), (tb_31, .inr (13, [.int 3, .ref qb_31, .int 0])), (qb_31, .inl ((k 0), 150, .inl (fun _ => 0))), (tc_31, .inr (13, [.int 2, .ref qc_31, .int 0])), (qc_31, .inl ((k 0), 160, .inl (fun _ => 0))), (q38_4, .inr (12, [.null, .ref ta_42, .ref tb_42, .ref tc_42, .int 0, .int 0, .int 0, .int 101, .int 0, .int 0])), (ta_42, .inr (13, [.int 1, .ref qa_42, .int 0])), (qa_42, .inl ((k 0), 3, .inl (fun _ => 0))), (tb_42, .inr (13, [.int 3, .ref qb_42, .int 0])), (qb_42, .inl ((k 0), 150, .inl (fun _ => 0))), (tc_42, .inr (13, [.int 2, .ref qc_42, .int 0])), (qc_42, .inl ((k 0), 160, .inl (fun _ => 0))), (q49_5, .inr (8, [.ref q5_1, .ref la_61, .ref tb_61, .ref tc_61, .ref q38_4, .int 0, .null, .int 0, .null, .int 0, .int 0, .int 0])), (la_61, .inr (3, [.int 0, .ref e0, .int 0])), (tb_61, .inr (13, [.int 3, .ref qb_61, .int 0])), (qb_61, .inl ((k 0), 90, .inl (fun _ => 0))), (tc_61, .inr (13, [.int 2, .ref qc_61, .int 0])), (qc_61, .inl ((k 0), 60, .inl (fun _ => 0))), (q68_6, .inr (4, [.ref q16_2, .ref q5_1, .ref tnodes_80, .int 0, .ref tvariables_80, .ref tcells_80, .ref tlists_80, .ref trow_80, .int 0, .ref tbindings_80, .ref tlevels_80, .ref twork_80, .int 0, .int 0, .int 0])), (tnodes_80, .inr (13, [.int 5, .ref qnodes_80, .int 0])), (qnodes_80, .inl ((k 0), 320, .inl (fun _ => 0))), (tvariables_80, .inr (13, [.int 1, .ref qvariables_80, .int 0])), (qvariables_80, .inl ((k 0), 64, .inl (fun _ => 0))), (tcells_80, .inr (13, [.int 3, .ref qcells_80, .int 0])), (qcells_80, .inl ((k 0), 192, .inl (fun _ => 0))), (tlists_80, .inr (13, [.int 4, .ref qlists_80, .int 0])), (qlists_80, .inl ((k 0), 256, .inl (fun _ => 0))), (trow_80, .inr (13, [.int 6, .ref qrow_80, .int 0])), (qrow_80, .inl ((k 0), 384, .inl (fun _ => 0))), (tbindings_80, .inr (13, [.int 2, .ref qbindings_80, .int 0])), (qbindings_80, .inl ((k 0), 128, .inl (fun _ => 0))), (tlevels_80, .inr (13, [.int 4, .ref qlevels_80, .int 0])), (qlevels_80, .inl ((k 0), 32, .inl (fun _ => 0))), (twork_80, .inr (13, [.int 3, .ref qwork_80, .int 0])), (qwork_80, .inl ((k 0), 192, .inl (fun _ => 0)))] := hD
  refine va_putF (D := D) (ci := 15) (v := .ref q68_6) (ty := (tyX11 3)) (C := RX11) (T := TX11) (N := 9) hx hb hts iw_X11_init_X11 tyX11 tyX11_ok nmX11 hown hK hP hD hS 0 rfl rfl 3 (by decide) (hts (.fieldLink RX11 47 "ModedMill" "breadth" "LModedMill$Breadth;") (by decide +kernel)) (fun _ h9 => h9) rfl hin rfl (by decide +kernel) rfl rfl (Nat.le_of_ble_eq_true rfl) dX11_init_83 (fun H locs hP hD hS => ?_)
  have hP : va_P D vwCl [(h0, .inr (15, [.ref q5_1, .ref q16_2, .ref q49_5, .ref q68_6, .ref q27_3, .ref q38_4, .int 0, .int 0, .long 0])), (q5_1, .inr (14, [.int 0, .ref ta_9, .ref tb_9, .ref tc_9, .ref td_9])), (ta_9, .inr (13, [.int 3, .ref qa_9, .int 0])), (qa_9, .inl ((k 0), 30, .inl (fun _ => 0))), (tb_9, .inr (13, [.int 4, .ref qb_9, .int 0])), (qb_9, .inl ((k 0), 800, .inl (fun _ => 0))), (tc_9, .inr (13, [.int 1, .ref qc_9, .int 64])), (qc_9, .inl ((k 0), 64, .inl fc_9)), (td_9, .inl ((k 1), 200, .inr (.inl (fun _ => 0)))), (q16_2, .inr (11, [.ref la_20, .ref lb_20, .ref lc_20])), (la_20, .inr (3, [.int 0, .ref e0, .int 0])), (lb_20, .inr (3, [.int 0, .ref e0, .int 0])), (lc_20, .inr (3, [.int 0, .ref e0, .int 0])), (q27_3, .inr (12, [.null, .ref ta_31, .ref tb_31, .ref tc_31, .int 0, .int 0, .int 0, .int 101, .int 0, .int 0])), (ta_31, .inr (13, [.int 1, .ref qa_31, .int 0])), (qa_31, .inl ((k 0), 3, .inl (fun _ => 0))), (tb_31, .inr (13, [.int 3, .ref qb_31, .int 0])), (qb_31, .inl ((k 0), 150, .inl (fun _ => 0))), (tc_31, .inr (13, [.int 2, .ref qc_31, .int 0])), (qc_31, .inl ((k 0), 160, .inl (fun _ => 0))), (q38_4, .inr (12, [.null, .ref ta_42, .ref tb_42, .ref tc_42, .int 0, .int 0, .int 0, .int 101, .int 0, .int 0])), (ta_42, .inr (13, [.int 1, .ref qa_42, .int 0])), (qa_42, .inl ((k 0), 3, .inl (fun _ => 0))), (tb_42, .inr (13, [.int 3, .ref qb_42, .int 0])), (qb_42, .inl ((k 0), 150, .inl (fun _ => 0))), (tc_42, .inr (13, [.int 2, .ref qc_42, .int 0])), (qc_42, .inl ((k 0), 160, .inl (fun _ => 0))), (q49_5, .inr (8, [.ref q5_1, .ref la_61, .ref tb_61, .ref tc_61, .ref q38_4, .int 0, .null, .int 0, .null, .int 0, .int 0, .int 0])), (la_61, .inr (3, [.int 0, .ref e0, .int 0])), (tb_61, .inr (13, [.int 3, .ref qb_61, .int 0])), (qb_61, .inl ((k 0), 90, .inl (fun _ => 0))), (tc_61, .inr (13, [.int 2, .ref qc_61, .int 0])), (qc_61, .inl ((k 0), 60, .inl (fun _ => 0))), (q68_6, .inr (4, [.ref q16_2, .ref q5_1, .ref tnodes_80, .int 0, .ref tvariables_80, .ref tcells_80, .ref tlists_80, .ref trow_80, .int 0, .ref tbindings_80, .ref tlevels_80, .ref twork_80, .int 0, .int 0, .int 0])), (tnodes_80, .inr (13, [.int 5, .ref qnodes_80, .int 0])), (qnodes_80, .inl ((k 0), 320, .inl (fun _ => 0))), (tvariables_80, .inr (13, [.int 1, .ref qvariables_80, .int 0])), (qvariables_80, .inl ((k 0), 64, .inl (fun _ => 0))), (tcells_80, .inr (13, [.int 3, .ref qcells_80, .int 0])), (qcells_80, .inl ((k 0), 192, .inl (fun _ => 0))), (tlists_80, .inr (13, [.int 4, .ref qlists_80, .int 0])), (qlists_80, .inl ((k 0), 256, .inl (fun _ => 0))), (trow_80, .inr (13, [.int 6, .ref qrow_80, .int 0])), (qrow_80, .inl ((k 0), 384, .inl (fun _ => 0))), (tbindings_80, .inr (13, [.int 2, .ref qbindings_80, .int 0])), (qbindings_80, .inl ((k 0), 128, .inl (fun _ => 0))), (tlevels_80, .inr (13, [.int 4, .ref qlevels_80, .int 0])), (qlevels_80, .inl ((k 0), 32, .inl (fun _ => 0))), (twork_80, .inr (13, [.int 3, .ref qwork_80, .int 0])), (qwork_80, .inl ((k 0), 192, .inl (fun _ => 0)))] H := hP
  have hD : va_D A [(h0, .inr (15, [.ref q5_1, .ref q16_2, .ref q49_5, .ref q68_6, .ref q27_3, .ref q38_4, .int 0, .int 0, .long 0])), (q5_1, .inr (14, [.int 0, .ref ta_9, .ref tb_9, .ref tc_9, .ref td_9])), (ta_9, .inr (13, [.int 3, .ref qa_9, .int 0])), (qa_9, .inl ((k 0), 30, .inl (fun _ => 0))), (tb_9, .inr (13, [.int 4, .ref qb_9, .int 0])), (qb_9, .inl ((k 0), 800, .inl (fun _ => 0))), (tc_9, .inr (13, [.int 1, .ref qc_9, .int 64])), (qc_9, .inl ((k 0), 64, .inl fc_9)), (td_9, .inl ((k 1), 200, .inr (.inl (fun _ => 0)))), (q16_2, .inr (11, [.ref la_20, .ref lb_20, .ref lc_20])), (la_20, .inr (3, [.int 0, .ref e0, .int 0])), (lb_20, .inr (3, [.int 0, .ref e0, .int 0])), (lc_20, .inr (3, [.int 0, .ref e0, .int 0])), (q27_3, .inr (12, [.null, .ref ta_31, .ref tb_31, .ref tc_31, .int 0, .int 0, .int 0, .int 101, .int 0, .int 0])), (ta_31, .inr (13, [.int 1, .ref qa_31, .int 0])), (qa_31, .inl ((k 0), 3, .inl (fun _ => 0))), (tb_31, .inr (13, [.int 3, .ref qb_31, .int 0])), (qb_31, .inl ((k 0), 150, .inl (fun _ => 0))), (tc_31, .inr (13, [.int 2, .ref qc_31, .int 0])), (qc_31, .inl ((k 0), 160, .inl (fun _ => 0))), (q38_4, .inr (12, [.null, .ref ta_42, .ref tb_42, .ref tc_42, .int 0, .int 0, .int 0, .int 101, .int 0, .int 0])), (ta_42, .inr (13, [.int 1, .ref qa_42, .int 0])), (qa_42, .inl ((k 0), 3, .inl (fun _ => 0))), (tb_42, .inr (13, [.int 3, .ref qb_42, .int 0])), (qb_42, .inl ((k 0), 150, .inl (fun _ => 0))), (tc_42, .inr (13, [.int 2, .ref qc_42, .int 0])), (qc_42, .inl ((k 0), 160, .inl (fun _ => 0))), (q49_5, .inr (8, [.ref q5_1, .ref la_61, .ref tb_61, .ref tc_61, .ref q38_4, .int 0, .null, .int 0, .null, .int 0, .int 0, .int 0])), (la_61, .inr (3, [.int 0, .ref e0, .int 0])), (tb_61, .inr (13, [.int 3, .ref qb_61, .int 0])), (qb_61, .inl ((k 0), 90, .inl (fun _ => 0))), (tc_61, .inr (13, [.int 2, .ref qc_61, .int 0])), (qc_61, .inl ((k 0), 60, .inl (fun _ => 0))), (q68_6, .inr (4, [.ref q16_2, .ref q5_1, .ref tnodes_80, .int 0, .ref tvariables_80, .ref tcells_80, .ref tlists_80, .ref trow_80, .int 0, .ref tbindings_80, .ref tlevels_80, .ref twork_80, .int 0, .int 0, .int 0])), (tnodes_80, .inr (13, [.int 5, .ref qnodes_80, .int 0])), (qnodes_80, .inl ((k 0), 320, .inl (fun _ => 0))), (tvariables_80, .inr (13, [.int 1, .ref qvariables_80, .int 0])), (qvariables_80, .inl ((k 0), 64, .inl (fun _ => 0))), (tcells_80, .inr (13, [.int 3, .ref qcells_80, .int 0])), (qcells_80, .inl ((k 0), 192, .inl (fun _ => 0))), (tlists_80, .inr (13, [.int 4, .ref qlists_80, .int 0])), (qlists_80, .inl ((k 0), 256, .inl (fun _ => 0))), (trow_80, .inr (13, [.int 6, .ref qrow_80, .int 0])), (qrow_80, .inl ((k 0), 384, .inl (fun _ => 0))), (tbindings_80, .inr (13, [.int 2, .ref qbindings_80, .int 0])), (qbindings_80, .inl ((k 0), 128, .inl (fun _ => 0))), (tlevels_80, .inr (13, [.int 4, .ref qlevels_80, .int 0])), (qlevels_80, .inl ((k 0), 32, .inl (fun _ => 0))), (twork_80, .inr (13, [.int 3, .ref qwork_80, .int 0])), (qwork_80, .inl ((k 0), 192, .inl (fun _ => 0)))] := hD
  refine lv_aload_n hx hb dX11_init_86 rfl (lv_at hl 0 rfl) ?_
  refine lv_iconst (v := 0) hx hb dX11_init_87 (by decide) ?_
  refine va_put (D := D) (ci := 15) (v := .int 0) (ty := .boolean) (C := RX11) (T := TX11) (N := 9) hx hb hts iw_X11_init_X11 tyX11 tyX11_ok nmX11 hown hK hP hD hS 0 rfl rfl 6 (by decide) (hts (.fieldLink RX11 51 "ModedMill" "isCompiled" "Z") (by decide +kernel)) (fun _ h9 => h9) rfl (by decide +kernel) (by decide +kernel) (by decide +kernel) (Nat.le_of_ble_eq_true rfl) dX11_init_88 (fun H locs hP hD hS => ?_)
  have hP : va_P D vwCl [(h0, .inr (15, [.ref q5_1, .ref q16_2, .ref q49_5, .ref q68_6, .ref q27_3, .ref q38_4, .int 0, .int 0, .long 0])), (q5_1, .inr (14, [.int 0, .ref ta_9, .ref tb_9, .ref tc_9, .ref td_9])), (ta_9, .inr (13, [.int 3, .ref qa_9, .int 0])), (qa_9, .inl ((k 0), 30, .inl (fun _ => 0))), (tb_9, .inr (13, [.int 4, .ref qb_9, .int 0])), (qb_9, .inl ((k 0), 800, .inl (fun _ => 0))), (tc_9, .inr (13, [.int 1, .ref qc_9, .int 64])), (qc_9, .inl ((k 0), 64, .inl fc_9)), (td_9, .inl ((k 1), 200, .inr (.inl (fun _ => 0)))), (q16_2, .inr (11, [.ref la_20, .ref lb_20, .ref lc_20])), (la_20, .inr (3, [.int 0, .ref e0, .int 0])), (lb_20, .inr (3, [.int 0, .ref e0, .int 0])), (lc_20, .inr (3, [.int 0, .ref e0, .int 0])), (q27_3, .inr (12, [.null, .ref ta_31, .ref tb_31, .ref tc_31, .int 0, .int 0, .int 0, .int 101, .int 0, .int 0])), (ta_31, .inr (13, [.int 1, .ref qa_31, .int 0])), (qa_31, .inl ((k 0), 3, .inl (fun _ => 0))), (tb_31, .inr (13, [.int 3, .ref qb_31, .int 0])), (qb_31, .inl ((k 0), 150, .inl (fun _ => 0))), (tc_31, .inr (13, [.int 2, .ref qc_31, .int 0])), (qc_31, .inl ((k 0), 160, .inl (fun _ => 0))), (q38_4, .inr (12, [.null, .ref ta_42, .ref tb_42, .ref tc_42, .int 0, .int 0, .int 0, .int 101, .int 0, .int 0])), (ta_42, .inr (13, [.int 1, .ref qa_42, .int 0])), (qa_42, .inl ((k 0), 3, .inl (fun _ => 0))), (tb_42, .inr (13, [.int 3, .ref qb_42, .int 0])), (qb_42, .inl ((k 0), 150, .inl (fun _ => 0))), (tc_42, .inr (13, [.int 2, .ref qc_42, .int 0])), (qc_42, .inl ((k 0), 160, .inl (fun _ => 0))), (q49_5, .inr (8, [.ref q5_1, .ref la_61, .ref tb_61, .ref tc_61, .ref q38_4, .int 0, .null, .int 0, .null, .int 0, .int 0, .int 0])), (la_61, .inr (3, [.int 0, .ref e0, .int 0])), (tb_61, .inr (13, [.int 3, .ref qb_61, .int 0])), (qb_61, .inl ((k 0), 90, .inl (fun _ => 0))), (tc_61, .inr (13, [.int 2, .ref qc_61, .int 0])), (qc_61, .inl ((k 0), 60, .inl (fun _ => 0))), (q68_6, .inr (4, [.ref q16_2, .ref q5_1, .ref tnodes_80, .int 0, .ref tvariables_80, .ref tcells_80, .ref tlists_80, .ref trow_80, .int 0, .ref tbindings_80, .ref tlevels_80, .ref twork_80, .int 0, .int 0, .int 0])), (tnodes_80, .inr (13, [.int 5, .ref qnodes_80, .int 0])), (qnodes_80, .inl ((k 0), 320, .inl (fun _ => 0))), (tvariables_80, .inr (13, [.int 1, .ref qvariables_80, .int 0])), (qvariables_80, .inl ((k 0), 64, .inl (fun _ => 0))), (tcells_80, .inr (13, [.int 3, .ref qcells_80, .int 0])), (qcells_80, .inl ((k 0), 192, .inl (fun _ => 0))), (tlists_80, .inr (13, [.int 4, .ref qlists_80, .int 0])), (qlists_80, .inl ((k 0), 256, .inl (fun _ => 0))), (trow_80, .inr (13, [.int 6, .ref qrow_80, .int 0])), (qrow_80, .inl ((k 0), 384, .inl (fun _ => 0))), (tbindings_80, .inr (13, [.int 2, .ref qbindings_80, .int 0])), (qbindings_80, .inl ((k 0), 128, .inl (fun _ => 0))), (tlevels_80, .inr (13, [.int 4, .ref qlevels_80, .int 0])), (qlevels_80, .inl ((k 0), 32, .inl (fun _ => 0))), (twork_80, .inr (13, [.int 3, .ref qwork_80, .int 0])), (qwork_80, .inl ((k 0), 192, .inl (fun _ => 0)))] H := hP
  have hD : va_D A [(h0, .inr (15, [.ref q5_1, .ref q16_2, .ref q49_5, .ref q68_6, .ref q27_3, .ref q38_4, .int 0, .int 0, .long 0])), (q5_1, .inr (14, [.int 0, .ref ta_9, .ref tb_9, .ref tc_9, .ref td_9])), (ta_9, .inr (13, [.int 3, .ref qa_9, .int 0])), (qa_9, .inl ((k 0), 30, .inl (fun _ => 0))), (tb_9, .inr (13, [.int 4, .ref qb_9, .int 0])), (qb_9, .inl ((k 0), 800, .inl (fun _ => 0))), (tc_9, .inr (13, [.int 1, .ref qc_9, .int 64])), (qc_9, .inl ((k 0), 64, .inl fc_9)), (td_9, .inl ((k 1), 200, .inr (.inl (fun _ => 0)))), (q16_2, .inr (11, [.ref la_20, .ref lb_20, .ref lc_20])), (la_20, .inr (3, [.int 0, .ref e0, .int 0])), (lb_20, .inr (3, [.int 0, .ref e0, .int 0])), (lc_20, .inr (3, [.int 0, .ref e0, .int 0])), (q27_3, .inr (12, [.null, .ref ta_31, .ref tb_31, .ref tc_31, .int 0, .int 0, .int 0, .int 101, .int 0, .int 0])), (ta_31, .inr (13, [.int 1, .ref qa_31, .int 0])), (qa_31, .inl ((k 0), 3, .inl (fun _ => 0))), (tb_31, .inr (13, [.int 3, .ref qb_31, .int 0])), (qb_31, .inl ((k 0), 150, .inl (fun _ => 0))), (tc_31, .inr (13, [.int 2, .ref qc_31, .int 0])), (qc_31, .inl ((k 0), 160, .inl (fun _ => 0))), (q38_4, .inr (12, [.null, .ref ta_42, .ref tb_42, .ref tc_42, .int 0, .int 0, .int 0, .int 101, .int 0, .int 0])), (ta_42, .inr (13, [.int 1, .ref qa_42, .int 0])), (qa_42, .inl ((k 0), 3, .inl (fun _ => 0))), (tb_42, .inr (13, [.int 3, .ref qb_42, .int 0])), (qb_42, .inl ((k 0), 150, .inl (fun _ => 0))), (tc_42, .inr (13, [.int 2, .ref qc_42, .int 0])), (qc_42, .inl ((k 0), 160, .inl (fun _ => 0))), (q49_5, .inr (8, [.ref q5_1, .ref la_61, .ref tb_61, .ref tc_61, .ref q38_4, .int 0, .null, .int 0, .null, .int 0, .int 0, .int 0])), (la_61, .inr (3, [.int 0, .ref e0, .int 0])), (tb_61, .inr (13, [.int 3, .ref qb_61, .int 0])), (qb_61, .inl ((k 0), 90, .inl (fun _ => 0))), (tc_61, .inr (13, [.int 2, .ref qc_61, .int 0])), (qc_61, .inl ((k 0), 60, .inl (fun _ => 0))), (q68_6, .inr (4, [.ref q16_2, .ref q5_1, .ref tnodes_80, .int 0, .ref tvariables_80, .ref tcells_80, .ref tlists_80, .ref trow_80, .int 0, .ref tbindings_80, .ref tlevels_80, .ref twork_80, .int 0, .int 0, .int 0])), (tnodes_80, .inr (13, [.int 5, .ref qnodes_80, .int 0])), (qnodes_80, .inl ((k 0), 320, .inl (fun _ => 0))), (tvariables_80, .inr (13, [.int 1, .ref qvariables_80, .int 0])), (qvariables_80, .inl ((k 0), 64, .inl (fun _ => 0))), (tcells_80, .inr (13, [.int 3, .ref qcells_80, .int 0])), (qcells_80, .inl ((k 0), 192, .inl (fun _ => 0))), (tlists_80, .inr (13, [.int 4, .ref qlists_80, .int 0])), (qlists_80, .inl ((k 0), 256, .inl (fun _ => 0))), (trow_80, .inr (13, [.int 6, .ref qrow_80, .int 0])), (qrow_80, .inl ((k 0), 384, .inl (fun _ => 0))), (tbindings_80, .inr (13, [.int 2, .ref qbindings_80, .int 0])), (qbindings_80, .inl ((k 0), 128, .inl (fun _ => 0))), (tlevels_80, .inr (13, [.int 4, .ref qlevels_80, .int 0])), (qlevels_80, .inl ((k 0), 32, .inl (fun _ => 0))), (twork_80, .inr (13, [.int 3, .ref qwork_80, .int 0])), (qwork_80, .inl ((k 0), 192, .inl (fun _ => 0)))] := hD
  refine lv_aload_n hx hb dX11_init_91 rfl (lv_at hl 0 rfl) ?_
  refine lv_iconst (v := 0) hx hb dX11_init_92 (by decide) ?_
  refine va_put (D := D) (ci := 15) (v := .int 0) (ty := .int) (C := RX11) (T := TX11) (N := 9) hx hb hts iw_X11_init_X11 tyX11 tyX11_ok nmX11 hown hK hP hD hS 0 rfl rfl 7 (by decide) (hts (.fieldLink RX11 55 "ModedMill" "asked" "I") (by decide +kernel)) (fun _ h9 => h9) rfl (by decide +kernel) rfl rfl (Nat.le_of_ble_eq_true rfl) dX11_init_93 (fun H locs hP hD hS => ?_)
  have hP : va_P D vwCl [(h0, .inr (15, [.ref q5_1, .ref q16_2, .ref q49_5, .ref q68_6, .ref q27_3, .ref q38_4, .int 0, .int 0, .long 0])), (q5_1, .inr (14, [.int 0, .ref ta_9, .ref tb_9, .ref tc_9, .ref td_9])), (ta_9, .inr (13, [.int 3, .ref qa_9, .int 0])), (qa_9, .inl ((k 0), 30, .inl (fun _ => 0))), (tb_9, .inr (13, [.int 4, .ref qb_9, .int 0])), (qb_9, .inl ((k 0), 800, .inl (fun _ => 0))), (tc_9, .inr (13, [.int 1, .ref qc_9, .int 64])), (qc_9, .inl ((k 0), 64, .inl fc_9)), (td_9, .inl ((k 1), 200, .inr (.inl (fun _ => 0)))), (q16_2, .inr (11, [.ref la_20, .ref lb_20, .ref lc_20])), (la_20, .inr (3, [.int 0, .ref e0, .int 0])), (lb_20, .inr (3, [.int 0, .ref e0, .int 0])), (lc_20, .inr (3, [.int 0, .ref e0, .int 0])), (q27_3, .inr (12, [.null, .ref ta_31, .ref tb_31, .ref tc_31, .int 0, .int 0, .int 0, .int 101, .int 0, .int 0])), (ta_31, .inr (13, [.int 1, .ref qa_31, .int 0])), (qa_31, .inl ((k 0), 3, .inl (fun _ => 0))), (tb_31, .inr (13, [.int 3, .ref qb_31, .int 0])), (qb_31, .inl ((k 0), 150, .inl (fun _ => 0))), (tc_31, .inr (13, [.int 2, .ref qc_31, .int 0])), (qc_31, .inl ((k 0), 160, .inl (fun _ => 0))), (q38_4, .inr (12, [.null, .ref ta_42, .ref tb_42, .ref tc_42, .int 0, .int 0, .int 0, .int 101, .int 0, .int 0])), (ta_42, .inr (13, [.int 1, .ref qa_42, .int 0])), (qa_42, .inl ((k 0), 3, .inl (fun _ => 0))), (tb_42, .inr (13, [.int 3, .ref qb_42, .int 0])), (qb_42, .inl ((k 0), 150, .inl (fun _ => 0))), (tc_42, .inr (13, [.int 2, .ref qc_42, .int 0])), (qc_42, .inl ((k 0), 160, .inl (fun _ => 0))), (q49_5, .inr (8, [.ref q5_1, .ref la_61, .ref tb_61, .ref tc_61, .ref q38_4, .int 0, .null, .int 0, .null, .int 0, .int 0, .int 0])), (la_61, .inr (3, [.int 0, .ref e0, .int 0])), (tb_61, .inr (13, [.int 3, .ref qb_61, .int 0])), (qb_61, .inl ((k 0), 90, .inl (fun _ => 0))), (tc_61, .inr (13, [.int 2, .ref qc_61, .int 0])), (qc_61, .inl ((k 0), 60, .inl (fun _ => 0))), (q68_6, .inr (4, [.ref q16_2, .ref q5_1, .ref tnodes_80, .int 0, .ref tvariables_80, .ref tcells_80, .ref tlists_80, .ref trow_80, .int 0, .ref tbindings_80, .ref tlevels_80, .ref twork_80, .int 0, .int 0, .int 0])), (tnodes_80, .inr (13, [.int 5, .ref qnodes_80, .int 0])), (qnodes_80, .inl ((k 0), 320, .inl (fun _ => 0))), (tvariables_80, .inr (13, [.int 1, .ref qvariables_80, .int 0])), (qvariables_80, .inl ((k 0), 64, .inl (fun _ => 0))), (tcells_80, .inr (13, [.int 3, .ref qcells_80, .int 0])), (qcells_80, .inl ((k 0), 192, .inl (fun _ => 0))), (tlists_80, .inr (13, [.int 4, .ref qlists_80, .int 0])), (qlists_80, .inl ((k 0), 256, .inl (fun _ => 0))), (trow_80, .inr (13, [.int 6, .ref qrow_80, .int 0])), (qrow_80, .inl ((k 0), 384, .inl (fun _ => 0))), (tbindings_80, .inr (13, [.int 2, .ref qbindings_80, .int 0])), (qbindings_80, .inl ((k 0), 128, .inl (fun _ => 0))), (tlevels_80, .inr (13, [.int 4, .ref qlevels_80, .int 0])), (qlevels_80, .inl ((k 0), 32, .inl (fun _ => 0))), (twork_80, .inr (13, [.int 3, .ref qwork_80, .int 0])), (qwork_80, .inl ((k 0), 192, .inl (fun _ => 0)))] H := hP
  have hD : va_D A [(h0, .inr (15, [.ref q5_1, .ref q16_2, .ref q49_5, .ref q68_6, .ref q27_3, .ref q38_4, .int 0, .int 0, .long 0])), (q5_1, .inr (14, [.int 0, .ref ta_9, .ref tb_9, .ref tc_9, .ref td_9])), (ta_9, .inr (13, [.int 3, .ref qa_9, .int 0])), (qa_9, .inl ((k 0), 30, .inl (fun _ => 0))), (tb_9, .inr (13, [.int 4, .ref qb_9, .int 0])), (qb_9, .inl ((k 0), 800, .inl (fun _ => 0))), (tc_9, .inr (13, [.int 1, .ref qc_9, .int 64])), (qc_9, .inl ((k 0), 64, .inl fc_9)), (td_9, .inl ((k 1), 200, .inr (.inl (fun _ => 0)))), (q16_2, .inr (11, [.ref la_20, .ref lb_20, .ref lc_20])), (la_20, .inr (3, [.int 0, .ref e0, .int 0])), (lb_20, .inr (3, [.int 0, .ref e0, .int 0])), (lc_20, .inr (3, [.int 0, .ref e0, .int 0])), (q27_3, .inr (12, [.null, .ref ta_31, .ref tb_31, .ref tc_31, .int 0, .int 0, .int 0, .int 101, .int 0, .int 0])), (ta_31, .inr (13, [.int 1, .ref qa_31, .int 0])), (qa_31, .inl ((k 0), 3, .inl (fun _ => 0))), (tb_31, .inr (13, [.int 3, .ref qb_31, .int 0])), (qb_31, .inl ((k 0), 150, .inl (fun _ => 0))), (tc_31, .inr (13, [.int 2, .ref qc_31, .int 0])), (qc_31, .inl ((k 0), 160, .inl (fun _ => 0))), (q38_4, .inr (12, [.null, .ref ta_42, .ref tb_42, .ref tc_42, .int 0, .int 0, .int 0, .int 101, .int 0, .int 0])), (ta_42, .inr (13, [.int 1, .ref qa_42, .int 0])), (qa_42, .inl ((k 0), 3, .inl (fun _ => 0))), (tb_42, .inr (13, [.int 3, .ref qb_42, .int 0])), (qb_42, .inl ((k 0), 150, .inl (fun _ => 0))), (tc_42, .inr (13, [.int 2, .ref qc_42, .int 0])), (qc_42, .inl ((k 0), 160, .inl (fun _ => 0))), (q49_5, .inr (8, [.ref q5_1, .ref la_61, .ref tb_61, .ref tc_61, .ref q38_4, .int 0, .null, .int 0, .null, .int 0, .int 0, .int 0])), (la_61, .inr (3, [.int 0, .ref e0, .int 0])), (tb_61, .inr (13, [.int 3, .ref qb_61, .int 0])), (qb_61, .inl ((k 0), 90, .inl (fun _ => 0))), (tc_61, .inr (13, [.int 2, .ref qc_61, .int 0])), (qc_61, .inl ((k 0), 60, .inl (fun _ => 0))), (q68_6, .inr (4, [.ref q16_2, .ref q5_1, .ref tnodes_80, .int 0, .ref tvariables_80, .ref tcells_80, .ref tlists_80, .ref trow_80, .int 0, .ref tbindings_80, .ref tlevels_80, .ref twork_80, .int 0, .int 0, .int 0])), (tnodes_80, .inr (13, [.int 5, .ref qnodes_80, .int 0])), (qnodes_80, .inl ((k 0), 320, .inl (fun _ => 0))), (tvariables_80, .inr (13, [.int 1, .ref qvariables_80, .int 0])), (qvariables_80, .inl ((k 0), 64, .inl (fun _ => 0))), (tcells_80, .inr (13, [.int 3, .ref qcells_80, .int 0])), (qcells_80, .inl ((k 0), 192, .inl (fun _ => 0))), (tlists_80, .inr (13, [.int 4, .ref qlists_80, .int 0])), (qlists_80, .inl ((k 0), 256, .inl (fun _ => 0))), (trow_80, .inr (13, [.int 6, .ref qrow_80, .int 0])), (qrow_80, .inl ((k 0), 384, .inl (fun _ => 0))), (tbindings_80, .inr (13, [.int 2, .ref qbindings_80, .int 0])), (qbindings_80, .inl ((k 0), 128, .inl (fun _ => 0))), (tlevels_80, .inr (13, [.int 4, .ref qlevels_80, .int 0])), (qlevels_80, .inl ((k 0), 32, .inl (fun _ => 0))), (twork_80, .inr (13, [.int 3, .ref qwork_80, .int 0])), (qwork_80, .inl ((k 0), 192, .inl (fun _ => 0)))] := hD
  refine lv_aload_n hx hb dX11_init_96 rfl (lv_at hl 0 rfl) ?_
  refine lv_lconst (v := 0) hx hb dX11_init_97 (by decide) ?_
  refine va_put (D := D) (ci := 15) (v := .long 0) (ty := .long) (C := RX11) (T := TX11) (N := 9) hx hb hts iw_X11_init_X11 tyX11 tyX11_ok nmX11 hown hK hP hD hS 0 rfl rfl 8 (by decide) (hts (.fieldLink RX11 59 "ModedMill" "stepSum" "J") (by decide +kernel)) (fun _ h9 => h9) rfl (by decide +kernel) rfl rfl (Nat.le_of_ble_eq_true rfl) dX11_init_98 (fun H locs hP hD hS => ?_)
  have hP : va_P D vwCl [(h0, .inr (15, [.ref q5_1, .ref q16_2, .ref q49_5, .ref q68_6, .ref q27_3, .ref q38_4, .int 0, .int 0, .long 0])), (q5_1, .inr (14, [.int 0, .ref ta_9, .ref tb_9, .ref tc_9, .ref td_9])), (ta_9, .inr (13, [.int 3, .ref qa_9, .int 0])), (qa_9, .inl ((k 0), 30, .inl (fun _ => 0))), (tb_9, .inr (13, [.int 4, .ref qb_9, .int 0])), (qb_9, .inl ((k 0), 800, .inl (fun _ => 0))), (tc_9, .inr (13, [.int 1, .ref qc_9, .int 64])), (qc_9, .inl ((k 0), 64, .inl fc_9)), (td_9, .inl ((k 1), 200, .inr (.inl (fun _ => 0)))), (q16_2, .inr (11, [.ref la_20, .ref lb_20, .ref lc_20])), (la_20, .inr (3, [.int 0, .ref e0, .int 0])), (lb_20, .inr (3, [.int 0, .ref e0, .int 0])), (lc_20, .inr (3, [.int 0, .ref e0, .int 0])), (q27_3, .inr (12, [.null, .ref ta_31, .ref tb_31, .ref tc_31, .int 0, .int 0, .int 0, .int 101, .int 0, .int 0])), (ta_31, .inr (13, [.int 1, .ref qa_31, .int 0])), (qa_31, .inl ((k 0), 3, .inl (fun _ => 0))), (tb_31, .inr (13, [.int 3, .ref qb_31, .int 0])), (qb_31, .inl ((k 0), 150, .inl (fun _ => 0))), (tc_31, .inr (13, [.int 2, .ref qc_31, .int 0])), (qc_31, .inl ((k 0), 160, .inl (fun _ => 0))), (q38_4, .inr (12, [.null, .ref ta_42, .ref tb_42, .ref tc_42, .int 0, .int 0, .int 0, .int 101, .int 0, .int 0])), (ta_42, .inr (13, [.int 1, .ref qa_42, .int 0])), (qa_42, .inl ((k 0), 3, .inl (fun _ => 0))), (tb_42, .inr (13, [.int 3, .ref qb_42, .int 0])), (qb_42, .inl ((k 0), 150, .inl (fun _ => 0))), (tc_42, .inr (13, [.int 2, .ref qc_42, .int 0])), (qc_42, .inl ((k 0), 160, .inl (fun _ => 0))), (q49_5, .inr (8, [.ref q5_1, .ref la_61, .ref tb_61, .ref tc_61, .ref q38_4, .int 0, .null, .int 0, .null, .int 0, .int 0, .int 0])), (la_61, .inr (3, [.int 0, .ref e0, .int 0])), (tb_61, .inr (13, [.int 3, .ref qb_61, .int 0])), (qb_61, .inl ((k 0), 90, .inl (fun _ => 0))), (tc_61, .inr (13, [.int 2, .ref qc_61, .int 0])), (qc_61, .inl ((k 0), 60, .inl (fun _ => 0))), (q68_6, .inr (4, [.ref q16_2, .ref q5_1, .ref tnodes_80, .int 0, .ref tvariables_80, .ref tcells_80, .ref tlists_80, .ref trow_80, .int 0, .ref tbindings_80, .ref tlevels_80, .ref twork_80, .int 0, .int 0, .int 0])), (tnodes_80, .inr (13, [.int 5, .ref qnodes_80, .int 0])), (qnodes_80, .inl ((k 0), 320, .inl (fun _ => 0))), (tvariables_80, .inr (13, [.int 1, .ref qvariables_80, .int 0])), (qvariables_80, .inl ((k 0), 64, .inl (fun _ => 0))), (tcells_80, .inr (13, [.int 3, .ref qcells_80, .int 0])), (qcells_80, .inl ((k 0), 192, .inl (fun _ => 0))), (tlists_80, .inr (13, [.int 4, .ref qlists_80, .int 0])), (qlists_80, .inl ((k 0), 256, .inl (fun _ => 0))), (trow_80, .inr (13, [.int 6, .ref qrow_80, .int 0])), (qrow_80, .inl ((k 0), 384, .inl (fun _ => 0))), (tbindings_80, .inr (13, [.int 2, .ref qbindings_80, .int 0])), (qbindings_80, .inl ((k 0), 128, .inl (fun _ => 0))), (tlevels_80, .inr (13, [.int 4, .ref qlevels_80, .int 0])), (qlevels_80, .inl ((k 0), 32, .inl (fun _ => 0))), (twork_80, .inr (13, [.int 3, .ref qwork_80, .int 0])), (qwork_80, .inl ((k 0), 192, .inl (fun _ => 0)))] H := hP
  have hD : va_D A [(h0, .inr (15, [.ref q5_1, .ref q16_2, .ref q49_5, .ref q68_6, .ref q27_3, .ref q38_4, .int 0, .int 0, .long 0])), (q5_1, .inr (14, [.int 0, .ref ta_9, .ref tb_9, .ref tc_9, .ref td_9])), (ta_9, .inr (13, [.int 3, .ref qa_9, .int 0])), (qa_9, .inl ((k 0), 30, .inl (fun _ => 0))), (tb_9, .inr (13, [.int 4, .ref qb_9, .int 0])), (qb_9, .inl ((k 0), 800, .inl (fun _ => 0))), (tc_9, .inr (13, [.int 1, .ref qc_9, .int 64])), (qc_9, .inl ((k 0), 64, .inl fc_9)), (td_9, .inl ((k 1), 200, .inr (.inl (fun _ => 0)))), (q16_2, .inr (11, [.ref la_20, .ref lb_20, .ref lc_20])), (la_20, .inr (3, [.int 0, .ref e0, .int 0])), (lb_20, .inr (3, [.int 0, .ref e0, .int 0])), (lc_20, .inr (3, [.int 0, .ref e0, .int 0])), (q27_3, .inr (12, [.null, .ref ta_31, .ref tb_31, .ref tc_31, .int 0, .int 0, .int 0, .int 101, .int 0, .int 0])), (ta_31, .inr (13, [.int 1, .ref qa_31, .int 0])), (qa_31, .inl ((k 0), 3, .inl (fun _ => 0))), (tb_31, .inr (13, [.int 3, .ref qb_31, .int 0])), (qb_31, .inl ((k 0), 150, .inl (fun _ => 0))), (tc_31, .inr (13, [.int 2, .ref qc_31, .int 0])), (qc_31, .inl ((k 0), 160, .inl (fun _ => 0))), (q38_4, .inr (12, [.null, .ref ta_42, .ref tb_42, .ref tc_42, .int 0, .int 0, .int 0, .int 101, .int 0, .int 0])), (ta_42, .inr (13, [.int 1, .ref qa_42, .int 0])), (qa_42, .inl ((k 0), 3, .inl (fun _ => 0))), (tb_42, .inr (13, [.int 3, .ref qb_42, .int 0])), (qb_42, .inl ((k 0), 150, .inl (fun _ => 0))), (tc_42, .inr (13, [.int 2, .ref qc_42, .int 0])), (qc_42, .inl ((k 0), 160, .inl (fun _ => 0))), (q49_5, .inr (8, [.ref q5_1, .ref la_61, .ref tb_61, .ref tc_61, .ref q38_4, .int 0, .null, .int 0, .null, .int 0, .int 0, .int 0])), (la_61, .inr (3, [.int 0, .ref e0, .int 0])), (tb_61, .inr (13, [.int 3, .ref qb_61, .int 0])), (qb_61, .inl ((k 0), 90, .inl (fun _ => 0))), (tc_61, .inr (13, [.int 2, .ref qc_61, .int 0])), (qc_61, .inl ((k 0), 60, .inl (fun _ => 0))), (q68_6, .inr (4, [.ref q16_2, .ref q5_1, .ref tnodes_80, .int 0, .ref tvariables_80, .ref tcells_80, .ref tlists_80, .ref trow_80, .int 0, .ref tbindings_80, .ref tlevels_80, .ref twork_80, .int 0, .int 0, .int 0])), (tnodes_80, .inr (13, [.int 5, .ref qnodes_80, .int 0])), (qnodes_80, .inl ((k 0), 320, .inl (fun _ => 0))), (tvariables_80, .inr (13, [.int 1, .ref qvariables_80, .int 0])), (qvariables_80, .inl ((k 0), 64, .inl (fun _ => 0))), (tcells_80, .inr (13, [.int 3, .ref qcells_80, .int 0])), (qcells_80, .inl ((k 0), 192, .inl (fun _ => 0))), (tlists_80, .inr (13, [.int 4, .ref qlists_80, .int 0])), (qlists_80, .inl ((k 0), 256, .inl (fun _ => 0))), (trow_80, .inr (13, [.int 6, .ref qrow_80, .int 0])), (qrow_80, .inl ((k 0), 384, .inl (fun _ => 0))), (tbindings_80, .inr (13, [.int 2, .ref qbindings_80, .int 0])), (qbindings_80, .inl ((k 0), 128, .inl (fun _ => 0))), (tlevels_80, .inr (13, [.int 4, .ref qlevels_80, .int 0])), (qlevels_80, .inl ((k 0), 32, .inl (fun _ => 0))), (twork_80, .inr (13, [.int 3, .ref qwork_80, .int 0])), (qwork_80, .inl ((k 0), 192, .inl (fun _ => 0)))] := hD
  exact ov_ret hx hb hr hlocks (q5_1, ta_9, qa_9, tb_9, qb_9, tc_9, qc_9, td_9, q16_2, la_20, lb_20, lc_20, q27_3, ta_31, qa_31, tb_31, qb_31, tc_31, qc_31, q38_4, ta_42, qa_42, tb_42, qb_42, tc_42, qc_42, q49_5, la_61, tb_61, qb_61, tc_61, qc_61, q68_6, tnodes_80, qnodes_80, tvariables_80, qvariables_80, tcells_80, qcells_80, tlists_80, qlists_80, trow_80, qrow_80, tbindings_80, qbindings_80, tlevels_80, qlevels_80, twork_80, qwork_80, fc_9) (trivial) hK (hP.sub [0, 1, 2, 3, 4, 5, 6, 7, 8, 9, 10, 11, 12, 13, 14, 15, 16, 17, 18, 19, 20, 21, 22, 23, 24, 25, 26, 27, 28, 29, 30, 31, 32, 33, 34, 35, 36, 37, 38, 39, 40, 41, 42, 43, 44, 45, 46, 47, 48, 49] rfl) (hD.sub [0, 1, 2, 3, 4, 5, 6, 7, 8, 9, 10, 11, 12, 13, 14, 15, 16, 17, 18, 19, 20, 21, 22, 23, 24, 25, 26, 27, 28, 29, 30, 31, 32, 33, 34, 35, 36, 37, 38, 39, 40, 41, 42, 43, 44, 45, 46, 47, 48, 49] (by decide) rfl) hS (Nat.le_of_ble_eq_true rfl) (Nat.le_of_ble_eq_true rfl) dX11_init_101
end
