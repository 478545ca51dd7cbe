section
-- ===== PART A: goes FIRST, ahead of the names: the tables' words, and 'selects' of the private methods out of them =====
/-- a private method of a class that the tables say can be made, by its rows of tables_1 -/
def lw_okq (q : MethodName × Nat) : Prop := (q.1.cls ≠ "java/lang/invoke/MethodHandle" ∧ q.1.cls ≠ "java/lang/invoke/VarHandle") ∧ Cond.instantiable q.1.cls q.2 ∈ tables_1 ∧ Cond.privateMethod q.1 ∈ tables_1 ∧ Cond.instanceMethod q.1 ∈ tables_1
theorem lw_p0 : lw_okq (⟨"GooseShares", "followNow", "(I)V"⟩, 11) := ⟨⟨by decide +kernel, by decide +kernel⟩, List.mem_of_getElem? (i := 21) (by decide +kernel), List.mem_of_getElem? (i := 571) (by decide +kernel), List.mem_of_getElem? (i := 572) (by decide +kernel)⟩
theorem lw_p1 : lw_okq (⟨"GooseShares", "flightsOver", "(I)I"⟩, 11) := ⟨⟨by decide +kernel, by decide +kernel⟩, List.mem_of_getElem? (i := 21) (by decide +kernel), List.mem_of_getElem? (i := 634) (by decide +kernel), List.mem_of_getElem? (i := 635) (by decide +kernel)⟩
theorem lw_p2 : lw_okq (⟨"GooseShares", "geeseWithin", "(II)I"⟩, 11) := ⟨⟨by decide +kernel, by decide +kernel⟩, List.mem_of_getElem? (i := 21) (by decide +kernel), List.mem_of_getElem? (i := 642) (by decide +kernel), List.mem_of_getElem? (i := 643) (by decide +kernel)⟩
theorem lw_p3 : lw_okq (⟨"GooseShares", "passNow", "()V"⟩, 11) := ⟨⟨by decide +kernel, by decide +kernel⟩, List.mem_of_getElem? (i := 21) (by decide +kernel), List.mem_of_getElem? (i := 663) (by decide +kernel), List.mem_of_getElem? (i := 664) (by decide +kernel)⟩
theorem lw_p4 : lw_okq (⟨"GooseShares", "servedUnder", "(II)I"⟩, 11) := ⟨⟨by decide +kernel, by decide +kernel⟩, List.mem_of_getElem? (i := 21) (by decide +kernel), List.mem_of_getElem? (i := 696) (by decide +kernel), List.mem_of_getElem? (i := 697) (by decide +kernel)⟩
theorem lw_p5 : lw_okq (⟨"GooseShares", "incomeUnder", "(II)I"⟩, 11) := ⟨⟨by decide +kernel, by decide +kernel⟩, List.mem_of_getElem? (i := 21) (by decide +kernel), List.mem_of_getElem? (i := 713) (by decide +kernel), List.mem_of_getElem? (i := 714) (by decide +kernel)⟩
theorem lw_p6 : lw_okq (⟨"GooseShares", "unpaidBits", "()I"⟩, 11) := ⟨⟨by decide +kernel, by decide +kernel⟩, List.mem_of_getElem? (i := 21) (by decide +kernel), List.mem_of_getElem? (i := 726) (by decide +kernel), List.mem_of_getElem? (i := 727) (by decide +kernel)⟩
theorem lw_p7 : lw_okq (⟨"GooseShares", "earshotOfUnpaid", "()I"⟩, 11) := ⟨⟨by decide +kernel, by decide +kernel⟩, List.mem_of_getElem? (i := 21) (by decide +kernel), List.mem_of_getElem? (i := 746) (by decide +kernel), List.mem_of_getElem? (i := 747) (by decide +kernel)⟩
theorem lw_p8 : lw_okq (⟨"GooseShares", "bestChange", "(I)I"⟩, 11) := ⟨⟨by decide +kernel, by decide +kernel⟩, List.mem_of_getElem? (i := 21) (by decide +kernel), List.mem_of_getElem? (i := 872) (by decide +kernel), List.mem_of_getElem? (i := 873) (by decide +kernel)⟩
theorem lw_p9 : lw_okq (⟨"GooseShares", "sightRefusal", "(I)I"⟩, 11) := ⟨⟨by decide +kernel, by decide +kernel⟩, List.mem_of_getElem? (i := 21) (by decide +kernel), List.mem_of_getElem? (i := 892) (by decide +kernel), List.mem_of_getElem? (i := 893) (by decide +kernel)⟩
theorem lw_p10 : lw_okq (⟨"GooseShares", "rowRefusal", "(I)I"⟩, 11) := ⟨⟨by decide +kernel, by decide +kernel⟩, List.mem_of_getElem? (i := 21) (by decide +kernel), List.mem_of_getElem? (i := 896) (by decide +kernel), List.mem_of_getElem? (i := 897) (by decide +kernel)⟩
theorem lw_p11 : lw_okq (⟨"GooseShares", "reportRefusal", "(I)I"⟩, 11) := ⟨⟨by decide +kernel, by decide +kernel⟩, List.mem_of_getElem? (i := 21) (by decide +kernel), List.mem_of_getElem? (i := 946) (by decide +kernel), List.mem_of_getElem? (i := 947) (by decide +kernel)⟩
theorem lw_p12 : lw_okq (⟨"GooseShares", "areTwo", "(II)Z"⟩, 11) := ⟨⟨by decide +kernel, by decide +kernel⟩, List.mem_of_getElem? (i := 21) (by decide +kernel), List.mem_of_getElem? (i := 1111) (by decide +kernel), List.mem_of_getElem? (i := 1112) (by decide +kernel)⟩
theorem lw_p13 : lw_okq (⟨"GooseShares", "atRest", "(IIII)Z"⟩, 11) := ⟨⟨by decide +kernel, by decide +kernel⟩, List.mem_of_getElem? (i := 21) (by decide +kernel), List.mem_of_getElem? (i := 1115) (by decide +kernel), List.mem_of_getElem? (i := 1116) (by decide +kernel)⟩
theorem lw_p14 : lw_okq (⟨"GooseShares", "gain", "(IIII)I"⟩, 11) := ⟨⟨by decide +kernel, by decide +kernel⟩, List.mem_of_getElem? (i := 21) (by decide +kernel), List.mem_of_getElem? (i := 1119) (by decide +kernel), List.mem_of_getElem? (i := 1120) (by decide +kernel)⟩
theorem lw_p15 : lw_okq (⟨"GooseShares", "rowsHad", "()I"⟩, 11) := ⟨⟨by decide +kernel, by decide +kernel⟩, List.mem_of_getElem? (i := 21) (by decide +kernel), List.mem_of_getElem? (i := 1238) (by decide +kernel), List.mem_of_getElem? (i := 1239) (by decide +kernel)⟩
def lw_privs_1 : List (MethodName × Nat) := [(⟨"GooseShares", "followNow", "(I)V"⟩, 11), (⟨"GooseShares", "flightsOver", "(I)I"⟩, 11), (⟨"GooseShares", "geeseWithin", "(II)I"⟩, 11), (⟨"GooseShares", "passNow", "()V"⟩, 11), (⟨"GooseShares", "servedUnder", "(II)I"⟩, 11), (⟨"GooseShares", "incomeUnder", "(II)I"⟩, 11), (⟨"GooseShares", "unpaidBits", "()I"⟩, 11), (⟨"GooseShares", "earshotOfUnpaid", "()I"⟩, 11), (⟨"GooseShares", "bestChange", "(I)I"⟩, 11), (⟨"GooseShares", "sightRefusal", "(I)I"⟩, 11), (⟨"GooseShares", "rowRefusal", "(I)I"⟩, 11), (⟨"GooseShares", "reportRefusal", "(I)I"⟩, 11), (⟨"GooseShares", "areTwo", "(II)Z"⟩, 11), (⟨"GooseShares", "atRest", "(IIII)Z"⟩, 11), (⟨"GooseShares", "gain", "(IIII)I"⟩, 11), (⟨"GooseShares", "rowsHad", "()I"⟩, 11)]
theorem lw_r1 : ∀ q ∈ lw_privs_1, lw_okq q := List.forall_mem_cons.mpr ⟨lw_p0, List.forall_mem_cons.mpr ⟨lw_p1, List.forall_mem_cons.mpr ⟨lw_p2, List.forall_mem_cons.mpr ⟨lw_p3, List.forall_mem_cons.mpr ⟨lw_p4, List.forall_mem_cons.mpr ⟨lw_p5, List.forall_mem_cons.mpr ⟨lw_p6, List.forall_mem_cons.mpr ⟨lw_p7, List.forall_mem_cons.mpr ⟨lw_p8, List.forall_mem_cons.mpr ⟨lw_p9, List.forall_mem_cons.mpr ⟨lw_p10, List.forall_mem_cons.mpr ⟨lw_p11, List.forall_mem_cons.mpr ⟨lw_p12, List.forall_mem_cons.mpr ⟨lw_p13, List.forall_mem_cons.mpr ⟨lw_p14, List.forall_mem_cons.mpr ⟨lw_p15, fun _ h => absurd h List.not_mem_nil⟩⟩⟩⟩⟩⟩⟩⟩⟩⟩⟩⟩⟩⟩⟩⟩
theorem lw_p16 : lw_okq (⟨"GooseSharesModel", "four", "(I)V"⟩, 48) := ⟨⟨by decide +kernel, by decide +kernel⟩, List.mem_of_getElem? (i := 1278) (by decide +kernel), List.mem_of_getElem? (i := 1455) (by decide +kernel), List.mem_of_getElem? (i := 1456) (by decide +kernel)⟩
theorem lw_p17 : lw_okq (⟨"GooseSharesModel", "clears", "()V"⟩, 48) := ⟨⟨by decide +kernel, by decide +kernel⟩, List.mem_of_getElem? (i := 1278) (by decide +kernel), List.mem_of_getElem? (i := 1471) (by decide +kernel), List.mem_of_getElem? (i := 1472) (by decide +kernel)⟩
theorem lw_p18 : lw_okq (⟨"GooseSharesModel", "tells", "(II)V"⟩, 48) := ⟨⟨by decide +kernel, by decide +kernel⟩, List.mem_of_getElem? (i := 1278) (by decide +kernel), List.mem_of_getElem? (i := 1475) (by decide +kernel), List.mem_of_getElem? (i := 1476) (by decide +kernel)⟩
theorem lw_p19 : lw_okq (⟨"GooseSharesModel", "begins", "()V"⟩, 48) := ⟨⟨by decide +kernel, by decide +kernel⟩, List.mem_of_getElem? (i := 1278) (by decide +kernel), List.mem_of_getElem? (i := 1479) (by decide +kernel), List.mem_of_getElem? (i := 1480) (by decide +kernel)⟩
theorem lw_p20 : lw_okq (⟨"GooseSharesModel", "next", "()V"⟩, 48) := ⟨⟨by decide +kernel, by decide +kernel⟩, List.mem_of_getElem? (i := 1278) (by decide +kernel), List.mem_of_getElem? (i := 1483) (by decide +kernel), List.mem_of_getElem? (i := 1484) (by decide +kernel)⟩
theorem lw_p21 : lw_okq (⟨"GooseSharesModel", "isByte", "(III)Z"⟩, 48) := ⟨⟨by decide +kernel, by decide +kernel⟩, List.mem_of_getElem? (i := 1278) (by decide +kernel), List.mem_of_getElem? (i := 1487) (by decide +kernel), List.mem_of_getElem? (i := 1488) (by decide +kernel)⟩
theorem lw_p22 : lw_okq (⟨"GooseSharesModel", "isGood", "()Z"⟩, 48) := ⟨⟨by decide +kernel, by decide +kernel⟩, List.mem_of_getElem? (i := 1278) (by decide +kernel), List.mem_of_getElem? (i := 1496) (by decide +kernel), List.mem_of_getElem? (i := 1497) (by decide +kernel)⟩
theorem lw_p23 : lw_okq (⟨"GooseSharesModel", "landLine", "()V"⟩, 48) := ⟨⟨by decide +kernel, by decide +kernel⟩, List.mem_of_getElem? (i := 1278) (by decide +kernel), List.mem_of_getElem? (i := 1500) (by decide +kernel), List.mem_of_getElem? (i := 1501) (by decide +kernel)⟩
theorem lw_p24 : lw_okq (⟨"GooseSharesModel", "asks", "(J)V"⟩, 48) := ⟨⟨by decide +kernel, by decide +kernel⟩, List.mem_of_getElem? (i := 1278) (by decide +kernel), List.mem_of_getElem? (i := 1505) (by decide +kernel), List.mem_of_getElem? (i := 1506) (by decide +kernel)⟩
theorem lw_p25 : lw_okq (⟨"GooseSharesModel", "takes", "(J)Z"⟩, 48) := ⟨⟨by decide +kernel, by decide +kernel⟩, List.mem_of_getElem? (i := 1278) (by decide +kernel), List.mem_of_getElem? (i := 1509) (by decide +kernel), List.mem_of_getElem? (i := 1510) (by decide +kernel)⟩
theorem lw_p26 : lw_okq (⟨"GooseSharesModel", "is", "(J)Z"⟩, 48) := ⟨⟨by decide +kernel, by decide +kernel⟩, List.mem_of_getElem? (i := 1278) (by decide +kernel), List.mem_of_getElem? (i := 1513) (by decide +kernel), List.mem_of_getElem? (i := 1514) (by decide +kernel)⟩
theorem lw_p27 : lw_okq (⟨"GooseSharesModel", "fails", "(I)V"⟩, 48) := ⟨⟨by decide +kernel, by decide +kernel⟩, List.mem_of_getElem? (i := 1278) (by decide +kernel), List.mem_of_getElem? (i := 1517) (by decide +kernel), List.mem_of_getElem? (i := 1518) (by decide +kernel)⟩
theorem lw_p28 : lw_okq (⟨"GooseSharesModel", "number", "(JII)I"⟩, 48) := ⟨⟨by decide +kernel, by decide +kernel⟩, List.mem_of_getElem? (i := 1278) (by decide +kernel), List.mem_of_getElem? (i := 1522) (by decide +kernel), List.mem_of_getElem? (i := 1523) (by decide +kernel)⟩
theorem lw_p29 : lw_okq (⟨"GooseSharesModel", "number", "(II)I"⟩, 48) := ⟨⟨by decide +kernel, by decide +kernel⟩, List.mem_of_getElem? (i := 1278) (by decide +kernel), List.mem_of_getElem? (i := 1526) (by decide +kernel), List.mem_of_getElem? (i := 1527) (by decide +kernel)⟩
theorem lw_p30 : lw_okq (⟨"GooseSharesModel", "line", "()V"⟩, 48) := ⟨⟨by decide +kernel, by decide +kernel⟩, List.mem_of_getElem? (i := 1278) (by decide +kernel), List.mem_of_getElem? (i := 1534) (by decide +kernel), List.mem_of_getElem? (i := 1535) (by decide +kernel)⟩
theorem lw_p31 : lw_okq (⟨"GooseSharesModel", "isRoom", "(ZII)Z"⟩, 48) := ⟨⟨by decide +kernel, by decide +kernel⟩, List.mem_of_getElem? (i := 1278) (by decide +kernel), List.mem_of_getElem? (i := 1539) (by decide +kernel), List.mem_of_getElem? (i := 1540) (by decide +kernel)⟩
def lw_privs_2 : List (MethodName × Nat) := [(⟨"GooseSharesModel", "four", "(I)V"⟩, 48), (⟨"GooseSharesModel", "clears", "()V"⟩, 48), (⟨"GooseSharesModel", "tells", "(II)V"⟩, 48), (⟨"GooseSharesModel", "begins", "()V"⟩, 48), (⟨"GooseSharesModel", "next", "()V"⟩, 48), (⟨"GooseSharesModel", "isByte", "(III)Z"⟩, 48), (⟨"GooseSharesModel", "isGood", "()Z"⟩, 48), (⟨"GooseSharesModel", "landLine", "()V"⟩, 48), (⟨"GooseSharesModel", "asks", "(J)V"⟩, 48), (⟨"GooseSharesModel", "takes", "(J)Z"⟩, 48), (⟨"GooseSharesModel", "is", "(J)Z"⟩, 48), (⟨"GooseSharesModel", "fails", "(I)V"⟩, 48), (⟨"GooseSharesModel", "number", "(JII)I"⟩, 48), (⟨"GooseSharesModel", "number", "(II)I"⟩, 48), (⟨"GooseSharesModel", "line", "()V"⟩, 48), (⟨"GooseSharesModel", "isRoom", "(ZII)Z"⟩, 48)]
theorem lw_r2 : ∀ q ∈ lw_privs_2, lw_okq q := List.forall_mem_cons.mpr ⟨lw_p16, List.forall_mem_cons.mpr ⟨lw_p17, List.forall_mem_cons.mpr ⟨lw_p18, List.forall_mem_cons.mpr ⟨lw_p19, List.forall_mem_cons.mpr ⟨lw_p20, List.forall_mem_cons.mpr ⟨lw_p21, List.forall_mem_cons.mpr ⟨lw_p22, List.forall_mem_cons.mpr ⟨lw_p23, List.forall_mem_cons.mpr ⟨lw_p24, List.forall_mem_cons.mpr ⟨lw_p25, List.forall_mem_cons.mpr ⟨lw_p26, List.forall_mem_cons.mpr ⟨lw_p27, List.forall_mem_cons.mpr ⟨lw_p28, List.forall_mem_cons.mpr ⟨lw_p29, List.forall_mem_cons.mpr ⟨lw_p30, List.forall_mem_cons.mpr ⟨lw_p31, fun _ h => absurd h List.not_mem_nil⟩⟩⟩⟩⟩⟩⟩⟩⟩⟩⟩⟩⟩⟩⟩⟩
theorem lw_p32 : lw_okq (⟨"GooseSharesModel", "hasRead", "(I)I"⟩, 48) := ⟨⟨by decide +kernel, by decide +kernel⟩, List.mem_of_getElem? (i := 1278) (by decide +kernel), List.mem_of_getElem? (i := 1543) (by decide +kernel), List.mem_of_getElem? (i := 1544) (by decide +kernel)⟩
theorem lw_p33 : lw_okq (⟨"GooseSharesModel", "flightLine", "()V"⟩, 48) := ⟨⟨by decide +kernel, by decide +kernel⟩, List.mem_of_getElem? (i := 1278) (by decide +kernel), List.mem_of_getElem? (i := 1547) (by decide +kernel), List.mem_of_getElem? (i := 1548) (by decide +kernel)⟩
theorem lw_p34 : lw_okq (⟨"GooseSharesModel", "cellHere", "()I"⟩, 48) := ⟨⟨by decide +kernel, by decide +kernel⟩, List.mem_of_getElem? (i := 1278) (by decide +kernel), List.mem_of_getElem? (i := 1551) (by decide +kernel), List.mem_of_getElem? (i := 1552) (by decide +kernel)⟩
theorem lw_p35 : lw_okq (⟨"GooseSharesModel", "memberLine", "()V"⟩, 48) := ⟨⟨by decide +kernel, by decide +kernel⟩, List.mem_of_getElem? (i := 1278) (by decide +kernel), List.mem_of_getElem? (i := 1559) (by decide +kernel), List.mem_of_getElem? (i := 1560) (by decide +kernel)⟩
theorem lw_p36 : lw_okq (⟨"GooseSharesModel", "ends", "()V"⟩, 48) := ⟨⟨by decide +kernel, by decide +kernel⟩, List.mem_of_getElem? (i := 1278) (by decide +kernel), List.mem_of_getElem? (i := 1566) (by decide +kernel), List.mem_of_getElem? (i := 1567) (by decide +kernel)⟩
theorem lw_p37 : lw_okq (⟨"GooseSharesModel", "isOver", "()V"⟩, 48) := ⟨⟨by decide +kernel, by decide +kernel⟩, List.mem_of_getElem? (i := 1278) (by decide +kernel), List.mem_of_getElem? (i := 1570) (by decide +kernel), List.mem_of_getElem? (i := 1571) (by decide +kernel)⟩
theorem lw_p38 : lw_okq (⟨"GooseSharesModel", "copyLand", "(II)V"⟩, 48) := ⟨⟨by decide +kernel, by decide +kernel⟩, List.mem_of_getElem? (i := 1278) (by decide +kernel), List.mem_of_getElem? (i := 1574) (by decide +kernel), List.mem_of_getElem? (i := 1575) (by decide +kernel)⟩
theorem lw_p39 : lw_okq (⟨"GooseSharesModel", "isFlight", "(J)Z"⟩, 48) := ⟨⟨by decide +kernel, by decide +kernel⟩, List.mem_of_getElem? (i := 1278) (by decide +kernel), List.mem_of_getElem? (i := 1585) (by decide +kernel), List.mem_of_getElem? (i := 1586) (by decide +kernel)⟩
theorem lw_p40 : lw_okq (⟨"GooseSharesModel", "flights", "()I"⟩, 48) := ⟨⟨by decide +kernel, by decide +kernel⟩, List.mem_of_getElem? (i := 1278) (by decide +kernel), List.mem_of_getElem? (i := 1589) (by decide +kernel), List.mem_of_getElem? (i := 1590) (by decide +kernel)⟩
theorem lw_p41 : lw_okq (⟨"GooseSharesModel", "lays", "()V"⟩, 48) := ⟨⟨by decide +kernel, by decide +kernel⟩, List.mem_of_getElem? (i := 1278) (by decide +kernel), List.mem_of_getElem? (i := 1594) (by decide +kernel), List.mem_of_getElem? (i := 1595) (by decide +kernel)⟩
theorem lw_p42 : lw_okq (⟨"GooseSharesModel", "isMember", "(J)Z"⟩, 48) := ⟨⟨by decide +kernel, by decide +kernel⟩, List.mem_of_getElem? (i := 1278) (by decide +kernel), List.mem_of_getElem? (i := 1602) (by decide +kernel), List.mem_of_getElem? (i := 1603) (by decide +kernel)⟩
theorem lw_p43 : lw_okq (⟨"GooseSharesModel", "members", "()I"⟩, 48) := ⟨⟨by decide +kernel, by decide +kernel⟩, List.mem_of_getElem? (i := 1278) (by decide +kernel), List.mem_of_getElem? (i := 1606) (by decide +kernel), List.mem_of_getElem? (i := 1607) (by decide +kernel)⟩
theorem lw_p44 : lw_okq (⟨"GooseSharesModel", "isLand", "()Z"⟩, 48) := ⟨⟨by decide +kernel, by decide +kernel⟩, List.mem_of_getElem? (i := 1278) (by decide +kernel), List.mem_of_getElem? (i := 1614) (by decide +kernel), List.mem_of_getElem? (i := 1615) (by decide +kernel)⟩
theorem lw_p45 : lw_okq (⟨"GooseSharesModel", "laysNow", "()V"⟩, 48) := ⟨⟨by decide +kernel, by decide +kernel⟩, List.mem_of_getElem? (i := 1278) (by decide +kernel), List.mem_of_getElem? (i := 1626) (by decide +kernel), List.mem_of_getElem? (i := 1627) (by decide +kernel)⟩
theorem lw_p46 : lw_okq (⟨"GooseSharesModel", "runs", "()V"⟩, 48) := ⟨⟨by decide +kernel, by decide +kernel⟩, List.mem_of_getElem? (i := 1278) (by decide +kernel), List.mem_of_getElem? (i := 1630) (by decide +kernel), List.mem_of_getElem? (i := 1631) (by decide +kernel)⟩
theorem lw_p47 : lw_okq (⟨"GooseSharesModel", "flies", "(III)V"⟩, 48) := ⟨⟨by decide +kernel, by decide +kernel⟩, List.mem_of_getElem? (i := 1278) (by decide +kernel), List.mem_of_getElem? (i := 1634) (by decide +kernel), List.mem_of_getElem? (i := 1635) (by decide +kernel)⟩
def lw_privs_3 : List (MethodName × Nat) := [(⟨"GooseSharesModel", "hasRead", "(I)I"⟩, 48), (⟨"GooseSharesModel", "flightLine", "()V"⟩, 48), (⟨"GooseSharesModel", "cellHere", "()I"⟩, 48), (⟨"GooseSharesModel", "memberLine", "()V"⟩, 48), (⟨"GooseSharesModel", "ends", "()V"⟩, 48), (⟨"GooseSharesModel", "isOver", "()V"⟩, 48), (⟨"GooseSharesModel", "copyLand", "(II)V"⟩, 48), (⟨"GooseSharesModel", "isFlight", "(J)Z"⟩, 48), (⟨"GooseSharesModel", "flights", "()I"⟩, 48), (⟨"GooseSharesModel", "lays", "()V"⟩, 48), (⟨"GooseSharesModel", "isMember", "(J)Z"⟩, 48), (⟨"GooseSharesModel", "members", "()I"⟩, 48), (⟨"GooseSharesModel", "isLand", "()Z"⟩, 48), (⟨"GooseSharesModel", "laysNow", "()V"⟩, 48), (⟨"GooseSharesModel", "runs", "()V"⟩, 48), (⟨"GooseSharesModel", "flies", "(III)V"⟩, 48)]
theorem lw_r3 : ∀ q ∈ lw_privs_3, lw_okq q := List.forall_mem_cons.mpr ⟨lw_p32, List.forall_mem_cons.mpr ⟨lw_p33, List.forall_mem_cons.mpr ⟨lw_p34, List.forall_mem_cons.mpr ⟨lw_p35, List.forall_mem_cons.mpr ⟨lw_p36, List.forall_mem_cons.mpr ⟨lw_p37, List.forall_mem_cons.mpr ⟨lw_p38, List.forall_mem_cons.mpr ⟨lw_p39, List.forall_mem_cons.mpr ⟨lw_p40, List.forall_mem_cons.mpr ⟨lw_p41, List.forall_mem_cons.mpr ⟨lw_p42, List.forall_mem_cons.mpr ⟨lw_p43, List.forall_mem_cons.mpr ⟨lw_p44, List.forall_mem_cons.mpr ⟨lw_p45, List.forall_mem_cons.mpr ⟨lw_p46, List.forall_mem_cons.mpr ⟨lw_p47, fun _ h => absurd h List.not_mem_nil⟩⟩⟩⟩⟩⟩⟩⟩⟩⟩⟩⟩⟩⟩⟩⟩
theorem lw_p48 : lw_okq (⟨"GooseSharesModel", "turned", "(II)I"⟩, 48) := ⟨⟨by decide +kernel, by decide +kernel⟩, List.mem_of_getElem? (i := 1278) (by decide +kernel), List.mem_of_getElem? (i := 1641) (by decide +kernel), List.mem_of_getElem? (i := 1642) (by decide +kernel)⟩
theorem lw_p49 : lw_okq (⟨"GooseSharesModel", "beside", "(II)I"⟩, 48) := ⟨⟨by decide +kernel, by decide +kernel⟩, List.mem_of_getElem? (i := 1278) (by decide +kernel), List.mem_of_getElem? (i := 1645) (by decide +kernel), List.mem_of_getElem? (i := 1646) (by decide +kernel)⟩
theorem lw_p50 : lw_okq (⟨"GooseSharesModel", "hearsAll", "()V"⟩, 48) := ⟨⟨by decide +kernel, by decide +kernel⟩, List.mem_of_getElem? (i := 1278) (by decide +kernel), List.mem_of_getElem? (i := 1649) (by decide +kernel), List.mem_of_getElem? (i := 1650) (by decide +kernel)⟩
theorem lw_p51 : lw_okq (⟨"GooseSharesModel", "cellsAll", "()I"⟩, 48) := ⟨⟨by decide +kernel, by decide +kernel⟩, List.mem_of_getElem? (i := 1278) (by decide +kernel), List.mem_of_getElem? (i := 1653) (by decide +kernel), List.mem_of_getElem? (i := 1654) (by decide +kernel)⟩
theorem lw_p52 : lw_okq (⟨"GooseSharesModel", "hearsOf", "(II)I"⟩, 48) := ⟨⟨by decide +kernel, by decide +kernel⟩, List.mem_of_getElem? (i := 1278) (by decide +kernel), List.mem_of_getElem? (i := 1657) (by decide +kernel), List.mem_of_getElem? (i := 1658) (by decide +kernel)⟩
theorem lw_p53 : lw_okq (⟨"GooseSharesModel", "isHeard", "(III)Z"⟩, 48) := ⟨⟨by decide +kernel, by decide +kernel⟩, List.mem_of_getElem? (i := 1278) (by decide +kernel), List.mem_of_getElem? (i := 1661) (by decide +kernel), List.mem_of_getElem? (i := 1662) (by decide +kernel)⟩
theorem lw_p54 : lw_okq (⟨"GooseSharesModel", "far", "(II)I"⟩, 48) := ⟨⟨by decide +kernel, by decide +kernel⟩, List.mem_of_getElem? (i := 1278) (by decide +kernel), List.mem_of_getElem? (i := 1665) (by decide +kernel), List.mem_of_getElem? (i := 1666) (by decide +kernel)⟩
theorem lw_p55 : lw_okq (⟨"GooseSharesModel", "outOf", "(I)I"⟩, 48) := ⟨⟨by decide +kernel, by decide +kernel⟩, List.mem_of_getElem? (i := 1278) (by decide +kernel), List.mem_of_getElem? (i := 1677) (by decide +kernel), List.mem_of_getElem? (i := 1678) (by decide +kernel)⟩
theorem lw_p56 : lw_okq (⟨"GooseSharesModel", "wayOf", "(I)I"⟩, 48) := ⟨⟨by decide +kernel, by decide +kernel⟩, List.mem_of_getElem? (i := 1278) (by decide +kernel), List.mem_of_getElem? (i := 1689) (by decide +kernel), List.mem_of_getElem? (i := 1690) (by decide +kernel)⟩
theorem lw_p57 : lw_okq (⟨"GooseSharesModel", "isCell", "(J)Z"⟩, 48) := ⟨⟨by decide +kernel, by decide +kernel⟩, List.mem_of_getElem? (i := 1278) (by decide +kernel), List.mem_of_getElem? (i := 1697) (by decide +kernel), List.mem_of_getElem? (i := 1698) (by decide +kernel)⟩
theorem lw_p58 : lw_okq (⟨"GooseSharesModel", "heardOf", "(I)I"⟩, 48) := ⟨⟨by decide +kernel, by decide +kernel⟩, List.mem_of_getElem? (i := 1278) (by decide +kernel), List.mem_of_getElem? (i := 1713) (by decide +kernel), List.mem_of_getElem? (i := 1714) (by decide +kernel)⟩
theorem lw_p59 : lw_okq (⟨"GooseSharesModel", "servedNow", "()I"⟩, 48) := ⟨⟨by decide +kernel, by decide +kernel⟩, List.mem_of_getElem? (i := 1278) (by decide +kernel), List.mem_of_getElem? (i := 1733) (by decide +kernel), List.mem_of_getElem? (i := 1734) (by decide +kernel)⟩
theorem lw_p60 : lw_okq (⟨"GooseSharesModel", "isServedIn", "(II)Z"⟩, 48) := ⟨⟨by decide +kernel, by decide +kernel⟩, List.mem_of_getElem? (i := 1278) (by decide +kernel), List.mem_of_getElem? (i := 1737) (by decide +kernel), List.mem_of_getElem? (i := 1738) (by decide +kernel)⟩
theorem lw_p61 : lw_okq (⟨"GooseSharesModel", "wantsOf", "(I)I"⟩, 48) := ⟨⟨by decide +kernel, by decide +kernel⟩, List.mem_of_getElem? (i := 1278) (by decide +kernel), List.mem_of_getElem? (i := 1741) (by decide +kernel), List.mem_of_getElem? (i := 1742) (by decide +kernel)⟩
theorem lw_p62 : lw_okq (⟨"GooseSharesModel", "incomeNow", "()I"⟩, 48) := ⟨⟨by decide +kernel, by decide +kernel⟩, List.mem_of_getElem? (i := 1278) (by decide +kernel), List.mem_of_getElem? (i := 1749) (by decide +kernel), List.mem_of_getElem? (i := 1750) (by decide +kernel)⟩
theorem lw_p63 : lw_okq (⟨"GooseSharesModel", "paysOf", "(I)I"⟩, 48) := ⟨⟨by decide +kernel, by decide +kernel⟩, List.mem_of_getElem? (i := 1278) (by decide +kernel), List.mem_of_getElem? (i := 1753) (by decide +kernel), List.mem_of_getElem? (i := 1754) (by decide +kernel)⟩
def lw_privs_4 : List (MethodName × Nat) := [(⟨"GooseSharesModel", "turned", "(II)I"⟩, 48), (⟨"GooseSharesModel", "beside", "(II)I"⟩, 48), (⟨"GooseSharesModel", "hearsAll", "()V"⟩, 48), (⟨"GooseSharesModel", "cellsAll", "()I"⟩, 48), (⟨"GooseSharesModel", "hearsOf", "(II)I"⟩, 48), (⟨"GooseSharesModel", "isHeard", "(III)Z"⟩, 48), (⟨"GooseSharesModel", "far", "(II)I"⟩, 48), (⟨"GooseSharesModel", "outOf", "(I)I"⟩, 48), (⟨"GooseSharesModel", "wayOf", "(I)I"⟩, 48), (⟨"GooseSharesModel", "isCell", "(J)Z"⟩, 48), (⟨"GooseSharesModel", "heardOf", "(I)I"⟩, 48), (⟨"GooseSharesModel", "servedNow", "()I"⟩, 48), (⟨"GooseSharesModel", "isServedIn", "(II)Z"⟩, 48), (⟨"GooseSharesModel", "wantsOf", "(I)I"⟩, 48), (⟨"GooseSharesModel", "incomeNow", "()I"⟩, 48), (⟨"GooseSharesModel", "paysOf", "(I)I"⟩, 48)]
theorem lw_r4 : ∀ q ∈ lw_privs_4, lw_okq q := List.forall_mem_cons.mpr ⟨lw_p48, List.forall_mem_cons.mpr ⟨lw_p49, List.forall_mem_cons.mpr ⟨lw_p50, List.forall_mem_cons.mpr ⟨lw_p51, List.forall_mem_cons.mpr ⟨lw_p52, List.forall_mem_cons.mpr ⟨lw_p53, List.forall_mem_cons.mpr ⟨lw_p54, List.forall_mem_cons.mpr ⟨lw_p55, List.forall_mem_cons.mpr ⟨lw_p56, List.forall_mem_cons.mpr ⟨lw_p57, List.forall_mem_cons.mpr ⟨lw_p58, List.forall_mem_cons.mpr ⟨lw_p59, List.forall_mem_cons.mpr ⟨lw_p60, List.forall_mem_cons.mpr ⟨lw_p61, List.forall_mem_cons.mpr ⟨lw_p62, List.forall_mem_cons.mpr ⟨lw_p63, fun _ h => absurd h List.not_mem_nil⟩⟩⟩⟩⟩⟩⟩⟩⟩⟩⟩⟩⟩⟩⟩⟩
theorem lw_p64 : lw_okq (⟨"GooseSharesModel", "unpaidNow", "()I"⟩, 48) := ⟨⟨by decide +kernel, by decide +kernel⟩, List.mem_of_getElem? (i := 1278) (by decide +kernel), List.mem_of_getElem? (i := 1761) (by decide +kernel), List.mem_of_getElem? (i := 1762) (by decide +kernel)⟩
theorem lw_p65 : lw_okq (⟨"GooseSharesModel", "isSet", "(I)Z"⟩, 48) := ⟨⟨by decide +kernel, by decide +kernel⟩, List.mem_of_getElem? (i := 1278) (by decide +kernel), List.mem_of_getElem? (i := 1801) (by decide +kernel), List.mem_of_getElem? (i := 1802) (by decide +kernel)⟩
theorem lw_p66 : lw_okq (⟨"GooseSharesModel", "laysLamps", "()V"⟩, 48) := ⟨⟨by decide +kernel, by decide +kernel⟩, List.mem_of_getElem? (i := 1278) (by decide +kernel), List.mem_of_getElem? (i := 1805) (by decide +kernel), List.mem_of_getElem? (i := 1806) (by decide +kernel)⟩
theorem lw_p67 : lw_okq (⟨"GooseSharesModel", "lampsFrom", "(II)V"⟩, 48) := ⟨⟨by decide +kernel, by decide +kernel⟩, List.mem_of_getElem? (i := 1278) (by decide +kernel), List.mem_of_getElem? (i := 1809) (by decide +kernel), List.mem_of_getElem? (i := 1810) (by decide +kernel)⟩
theorem lw_p68 : lw_okq (⟨"GooseSharesModel", "lampsAre", "(I)V"⟩, 48) := ⟨⟨by decide +kernel, by decide +kernel⟩, List.mem_of_getElem? (i := 1278) (by decide +kernel), List.mem_of_getElem? (i := 1813) (by decide +kernel), List.mem_of_getElem? (i := 1814) (by decide +kernel)⟩
theorem lw_p69 : lw_okq (⟨"GooseSharesModel", "isMany", "(I)Z"⟩, 48) := ⟨⟨by decide +kernel, by decide +kernel⟩, List.mem_of_getElem? (i := 1278) (by decide +kernel), List.mem_of_getElem? (i := 1828) (by decide +kernel), List.mem_of_getElem? (i := 1829) (by decide +kernel)⟩
theorem lw_p70 : lw_okq (⟨"GooseSharesModel", "otherwise", "(Z)I"⟩, 48) := ⟨⟨by decide +kernel, by decide +kernel⟩, List.mem_of_getElem? (i := 1278) (by decide +kernel), List.mem_of_getElem? (i := 1844) (by decide +kernel), List.mem_of_getElem? (i := 1845) (by decide +kernel)⟩
theorem lw_p71 : lw_okq (⟨"GooseSharesModel", "isLaw", "(I)Z"⟩, 48) := ⟨⟨by decide +kernel, by decide +kernel⟩, List.mem_of_getElem? (i := 1278) (by decide +kernel), List.mem_of_getElem? (i := 1856) (by decide +kernel), List.mem_of_getElem? (i := 1857) (by decide +kernel)⟩
theorem lw_p72 : lw_okq (⟨"GooseSharesModel", "incomeBy", "(I)I"⟩, 48) := ⟨⟨by decide +kernel, by decide +kernel⟩, List.mem_of_getElem? (i := 1278) (by decide +kernel), List.mem_of_getElem? (i := 1860) (by decide +kernel), List.mem_of_getElem? (i := 1861) (by decide +kernel)⟩
theorem lw_p73 : lw_okq (⟨"GooseSharesModel", "whyNotLaws", "(I)I"⟩, 48) := ⟨⟨by decide +kernel, by decide +kernel⟩, List.mem_of_getElem? (i := 1278) (by decide +kernel), List.mem_of_getElem? (i := 1872) (by decide +kernel), List.mem_of_getElem? (i := 1873) (by decide +kernel)⟩
theorem lw_p74 : lw_okq (⟨"GooseSharesModel", "lawsOf", "(I)I"⟩, 48) := ⟨⟨by decide +kernel, by decide +kernel⟩, List.mem_of_getElem? (i := 1278) (by decide +kernel), List.mem_of_getElem? (i := 1876) (by decide +kernel), List.mem_of_getElem? (i := 1877) (by decide +kernel)⟩
theorem lw_p75 : lw_okq (⟨"GooseSharesModel", "isByLaw", "(II)Z"⟩, 48) := ⟨⟨by decide +kernel, by decide +kernel⟩, List.mem_of_getElem? (i := 1278) (by decide +kernel), List.mem_of_getElem? (i := 1880) (by decide +kernel), List.mem_of_getElem? (i := 1881) (by decide +kernel)⟩
theorem lw_p76 : lw_okq (⟨"GooseSharesModel", "whyNotBegan", "(I)I"⟩, 48) := ⟨⟨by decide +kernel, by decide +kernel⟩, List.mem_of_getElem? (i := 1278) (by decide +kernel), List.mem_of_getElem? (i := 1892) (by decide +kernel), List.mem_of_getElem? (i := 1893) (by decide +kernel)⟩
theorem lw_p77 : lw_okq (⟨"GooseSharesModel", "laysBegan", "(I)V"⟩, 48) := ⟨⟨by decide +kernel, by decide +kernel⟩, List.mem_of_getElem? (i := 1278) (by decide +kernel), List.mem_of_getElem? (i := 1896) (by decide +kernel), List.mem_of_getElem? (i := 1897) (by decide +kernel)⟩
theorem lw_p78 : lw_okq (⟨"GooseSharesModel", "hasHeard", "(I)Z"⟩, 48) := ⟨⟨by decide +kernel, by decide +kernel⟩, List.mem_of_getElem? (i := 1278) (by decide +kernel), List.mem_of_getElem? (i := 1900) (by decide +kernel), List.mem_of_getElem? (i := 1901) (by decide +kernel)⟩
theorem lw_p79 : lw_okq (⟨"GooseSharesModel", "laysWho", "(I)V"⟩, 48) := ⟨⟨by decide +kernel, by decide +kernel⟩, List.mem_of_getElem? (i := 1278) (by decide +kernel), List.mem_of_getElem? (i := 1912) (by decide +kernel), List.mem_of_getElem? (i := 1913) (by decide +kernel)⟩
def lw_privs_5 : List (MethodName × Nat) := [(⟨"GooseSharesModel", "unpaidNow", "()I"⟩, 48), (⟨"GooseSharesModel", "isSet", "(I)Z"⟩, 48), (⟨"GooseSharesModel", "laysLamps", "()V"⟩, 48), (⟨"GooseSharesModel", "lampsFrom", "(II)V"⟩, 48), (⟨"GooseSharesModel", "lampsAre", "(I)V"⟩, 48), (⟨"GooseSharesModel", "isMany", "(I)Z"⟩, 48), (⟨"GooseSharesModel", "otherwise", "(Z)I"⟩, 48), (⟨"GooseSharesModel", "isLaw", "(I)Z"⟩, 48), (⟨"GooseSharesModel", "incomeBy", "(I)I"⟩, 48), (⟨"GooseSharesModel", "whyNotLaws", "(I)I"⟩, 48), (⟨"GooseSharesModel", "lawsOf", "(I)I"⟩, 48), (⟨"GooseSharesModel", "isByLaw", "(II)Z"⟩, 48), (⟨"GooseSharesModel", "whyNotBegan", "(I)I"⟩, 48), (⟨"GooseSharesModel", "laysBegan", "(I)V"⟩, 48), (⟨"GooseSharesModel", "hasHeard", "(I)Z"⟩, 48), (⟨"GooseSharesModel", "laysWho", "(I)V"⟩, 48)]
theorem lw_r5 : ∀ q ∈ lw_privs_5, lw_okq q := List.forall_mem_cons.mpr ⟨lw_p64, List.forall_mem_cons.mpr ⟨lw_p65, List.forall_mem_cons.mpr ⟨lw_p66, List.forall_mem_cons.mpr ⟨lw_p67, List.forall_mem_cons.mpr ⟨lw_p68, List.forall_mem_cons.mpr ⟨lw_p69, List.forall_mem_cons.mpr ⟨lw_p70, List.forall_mem_cons.mpr ⟨lw_p71, List.forall_mem_cons.mpr ⟨lw_p72, List.forall_mem_cons.mpr ⟨lw_p73, List.forall_mem_cons.mpr ⟨lw_p74, List.forall_mem_cons.mpr ⟨lw_p75, List.forall_mem_cons.mpr ⟨lw_p76, List.forall_mem_cons.mpr ⟨lw_p77, List.forall_mem_cons.mpr ⟨lw_p78, List.forall_mem_cons.mpr ⟨lw_p79, fun _ h => absurd h List.not_mem_nil⟩⟩⟩⟩⟩⟩⟩⟩⟩⟩⟩⟩⟩⟩⟩⟩
theorem lw_p80 : lw_okq (⟨"GooseSharesModel", "laysHomes", "()V"⟩, 48) := ⟨⟨by decide +kernel, by decide +kernel⟩, List.mem_of_getElem? (i := 1278) (by decide +kernel), List.mem_of_getElem? (i := 1937) (by decide +kernel), List.mem_of_getElem? (i := 1938) (by decide +kernel)⟩
theorem lw_p81 : lw_okq (⟨"GooseSharesModel", "homesFrom", "(III)V"⟩, 48) := ⟨⟨by decide +kernel, by decide +kernel⟩, List.mem_of_getElem? (i := 1278) (by decide +kernel), List.mem_of_getElem? (i := 1941) (by decide +kernel), List.mem_of_getElem? (i := 1942) (by decide +kernel)⟩
theorem lw_p82 : lw_okq (⟨"GooseSharesModel", "isLess", "()Z"⟩, 48) := ⟨⟨by decide +kernel, by decide +kernel⟩, List.mem_of_getElem? (i := 1278) (by decide +kernel), List.mem_of_getElem? (i := 1945) (by decide +kernel), List.mem_of_getElem? (i := 1946) (by decide +kernel)⟩
theorem lw_p83 : lw_okq (⟨"GooseSharesModel", "swapsOf", "()I"⟩, 48) := ⟨⟨by decide +kernel, by decide +kernel⟩, List.mem_of_getElem? (i := 1278) (by decide +kernel), List.mem_of_getElem? (i := 1957) (by decide +kernel), List.mem_of_getElem? (i := 1958) (by decide +kernel)⟩
theorem lw_p84 : lw_okq (⟨"GooseSharesModel", "wantedAt", "(I)I"⟩, 48) := ⟨⟨by decide +kernel, by decide +kernel⟩, List.mem_of_getElem? (i := 1278) (by decide +kernel), List.mem_of_getElem? (i := 1970) (by decide +kernel), List.mem_of_getElem? (i := 1971) (by decide +kernel)⟩
theorem lw_p85 : lw_okq (⟨"GooseSharesModel", "cutsFrom", "(III)V"⟩, 48) := ⟨⟨by decide +kernel, by decide +kernel⟩, List.mem_of_getElem? (i := 1278) (by decide +kernel), List.mem_of_getElem? (i := 1978) (by decide +kernel), List.mem_of_getElem? (i := 1979) (by decide +kernel)⟩
theorem lw_p86 : lw_okq (⟨"GooseSharesModel", "areTwo", "(II)Z"⟩, 48) := ⟨⟨by decide +kernel, by decide +kernel⟩, List.mem_of_getElem? (i := 1278) (by decide +kernel), List.mem_of_getElem? (i := 1989) (by decide +kernel), List.mem_of_getElem? (i := 1990) (by decide +kernel)⟩
theorem lw_p87 : lw_okq (⟨"GooseSharesModel", "hasBy", "(IIIII)I"⟩, 48) := ⟨⟨by decide +kernel, by decide +kernel⟩, List.mem_of_getElem? (i := 1278) (by decide +kernel), List.mem_of_getElem? (i := 1993) (by decide +kernel), List.mem_of_getElem? (i := 1994) (by decide +kernel)⟩
theorem lw_p88 : lw_okq (⟨"GooseSharesModel", "fogs", "(I)I"⟩, 48) := ⟨⟨by decide +kernel, by decide +kernel⟩, List.mem_of_getElem? (i := 1278) (by decide +kernel), List.mem_of_getElem? (i := 2005) (by decide +kernel), List.mem_of_getElem? (i := 2006) (by decide +kernel)⟩
theorem lw_p89 : lw_okq (⟨"GooseSharesModel", "fogWeight", "(I)I"⟩, 48) := ⟨⟨by decide +kernel, by decide +kernel⟩, List.mem_of_getElem? (i := 1278) (by decide +kernel), List.mem_of_getElem? (i := 2009) (by decide +kernel), List.mem_of_getElem? (i := 2010) (by decide +kernel)⟩
theorem lw_p90 : lw_okq (⟨"GooseSharesModel", "fogAll", "()I"⟩, 48) := ⟨⟨by decide +kernel, by decide +kernel⟩, List.mem_of_getElem? (i := 1278) (by decide +kernel), List.mem_of_getElem? (i := 2013) (by decide +kernel), List.mem_of_getElem? (i := 2014) (by decide +kernel)⟩
theorem lw_p91 : lw_okq (⟨"GooseSharesModel", "laysDrawn", "(J)V"⟩, 48) := ⟨⟨by decide +kernel, by decide +kernel⟩, List.mem_of_getElem? (i := 1278) (by decide +kernel), List.mem_of_getElem? (i := 2034) (by decide +kernel), List.mem_of_getElem? (i := 2035) (by decide +kernel)⟩
theorem lw_p92 : lw_okq (⟨"GooseSharesModel", "drawnFog", "(J)I"⟩, 48) := ⟨⟨by decide +kernel, by decide +kernel⟩, List.mem_of_getElem? (i := 1278) (by decide +kernel), List.mem_of_getElem? (i := 2038) (by decide +kernel), List.mem_of_getElem? (i := 2039) (by decide +kernel)⟩
theorem lw_p93 : lw_okq (⟨"GooseSharesModel", "acts", "(III)V"⟩, 48) := ⟨⟨by decide +kernel, by decide +kernel⟩, List.mem_of_getElem? (i := 1278) (by decide +kernel), List.mem_of_getElem? (i := 2056) (by decide +kernel), List.mem_of_getElem? (i := 2057) (by decide +kernel)⟩
def lw_privs_6 : List (MethodName × Nat) := [(⟨"GooseSharesModel", "laysHomes", "()V"⟩, 48), (⟨"GooseSharesModel", "homesFrom", "(III)V"⟩, 48), (⟨"GooseSharesModel", "isLess", "()Z"⟩, 48), (⟨"GooseSharesModel", "swapsOf", "()I"⟩, 48), (⟨"GooseSharesModel", "wantedAt", "(I)I"⟩, 48), (⟨"GooseSharesModel", "cutsFrom", "(III)V"⟩, 48), (⟨"GooseSharesModel", "areTwo", "(II)Z"⟩, 48), (⟨"GooseSharesModel", "hasBy", "(IIIII)I"⟩, 48), (⟨"GooseSharesModel", "fogs", "(I)I"⟩, 48), (⟨"GooseSharesModel", "fogWeight", "(I)I"⟩, 48), (⟨"GooseSharesModel", "fogAll", "()I"⟩, 48), (⟨"GooseSharesModel", "laysDrawn", "(J)V"⟩, 48), (⟨"GooseSharesModel", "drawnFog", "(J)I"⟩, 48), (⟨"GooseSharesModel", "acts", "(III)V"⟩, 48)]
theorem lw_r6 : ∀ q ∈ lw_privs_6, lw_okq q := List.forall_mem_cons.mpr ⟨lw_p80, List.forall_mem_cons.mpr ⟨lw_p81, List.forall_mem_cons.mpr ⟨lw_p82, List.forall_mem_cons.mpr ⟨lw_p83, List.forall_mem_cons.mpr ⟨lw_p84, List.forall_mem_cons.mpr ⟨lw_p85, List.forall_mem_cons.mpr ⟨lw_p86, List.forall_mem_cons.mpr ⟨lw_p87, List.forall_mem_cons.mpr ⟨lw_p88, List.forall_mem_cons.mpr ⟨lw_p89, List.forall_mem_cons.mpr ⟨lw_p90, List.forall_mem_cons.mpr ⟨lw_p91, List.forall_mem_cons.mpr ⟨lw_p92, List.forall_mem_cons.mpr ⟨lw_p93, fun _ h => absurd h List.not_mem_nil⟩⟩⟩⟩⟩⟩⟩⟩⟩⟩⟩⟩⟩⟩
def lw_privs : List (MethodName × Nat) := lw_privs_1 ++ (lw_privs_2 ++ (lw_privs_3 ++ (lw_privs_4 ++ (lw_privs_5 ++ (lw_privs_6)))))
def lw_tbl : List Cond := k2_sels lw_privs ++ tables_1
theorem lw_privs_ok : ∀ q ∈ lw_privs, lw_okq q := by
  show ∀ q ∈ lw_privs_1 ++ (lw_privs_2 ++ (lw_privs_3 ++ (lw_privs_4 ++ (lw_privs_5 ++ (lw_privs_6))))), lw_okq q
  exact List.forall_mem_append.mpr ⟨lw_r1, List.forall_mem_append.mpr ⟨lw_r2, List.forall_mem_append.mpr ⟨lw_r3, List.forall_mem_append.mpr ⟨lw_r4, List.forall_mem_append.mpr ⟨lw_r5, lw_r6⟩⟩⟩⟩⟩
end
section
/-! names: printed by TURN, those that are used; the words of the tables by their places -/
def RX0 : String := "GooseShares$Clues"
def TX0 : u_T := fun k => match k with
  | 0 => ("GooseShares$Clues", "land", "LGooseShares$Land;", true)
  | 1 => ("GooseShares$Clues", "sky", "LGooseShares$Sky;", true)
  | 2 => ("GooseShares$Clues", "hearers", "[I", true)
  | _ => ("GooseShares$Clues", "outs", "[I", true)
def tyX0 : Nat → FieldType := fun k => match k with
  | 0 => .object "GooseShares$Land"
  | 1 => .object "GooseShares$Sky"
  | 2 => .array .int
  | _ => .array .int
theorem nmX0 : ∀ a, a < 4 → ∀ b, b < 4 → a ≠ b → (TX0 a).2.1 ≠ (TX0 b).2.1 := by decide +kernel
theorem tyX0_ok : ∀ k, k < 4 → parseFieldDescriptor (TX0 k).2.2.1 = some (tyX0 k) := by decide +kernel
abbrev cX0_init : ByteArray := prog_2_method_1_code
def yX0_init : MethodName := ⟨RX0, "<init>", "(LGooseShares$Land;LGooseShares$Sky;)V"⟩
abbrev cX0_areSights : ByteArray := prog_2_method_2_code
def yX0_areSights : MethodName := ⟨RX0, "areSights", "(LGooseShares$Row;)Z"⟩
abbrev cX0_areReports : ByteArray := prog_2_method_3_code
def yX0_areReports : MethodName := ⟨RX0, "areReports", "(LGooseShares$Row;)Z"⟩
abbrev cX0_isWithin : ByteArray := prog_2_method_4_code
def yX0_isWithin : MethodName := ⟨RX0, "isWithin", "(JII)Z"⟩
abbrev cX0_lawsFitting : ByteArray := prog_2_method_5_code
def yX0_lawsFitting : MethodName := ⟨RX0, "lawsFitting", "(LGooseShares$Row;)I"⟩
abbrev cX0_allSeen : ByteArray := prog_2_method_6_code
def yX0_allSeen : MethodName := ⟨RX0, "allSeen", "(LGooseShares$Row;)Z"⟩
abbrev cX0_flightToAsk : ByteArray := prog_2_method_7_code
def yX0_flightToAsk : MethodName := ⟨RX0, "flightToAsk", "(I)I"⟩
abbrev cX0_worstLaws : ByteArray := prog_2_method_8_code
def yX0_worstLaws : MethodName := ⟨RX0, "worstLaws", "(II)I"⟩
abbrev cX0_sift : ByteArray := prog_2_method_9_code
def yX0_sift : MethodName := ⟨RX0, "sift", "(LGooseShares$Row;)I"⟩
abbrev cX0_pairs : ByteArray := prog_2_method_10_code
def yX0_pairs : MethodName := ⟨RX0, "pairs", "()I"⟩
abbrev cX0_hearersOf : ByteArray := prog_2_method_11_code
def yX0_hearersOf : MethodName := ⟨RX0, "hearersOf", "(I)I"⟩
abbrev cX0_allReported : ByteArray := prog_2_method_12_code
def yX0_allReported : MethodName := ⟨RX0, "allReported", "(LGooseShares$Row;I)Z"⟩
abbrev cX0_cellBits : ByteArray := prog_2_method_13_code
def yX0_cellBits : MethodName := ⟨RX0, "cellBits", "()I"⟩
abbrev cX0_heardOf : ByteArray := prog_2_method_14_code
def yX0_heardOf : MethodName := ⟨RX0, "heardOf", "(I)I"⟩
abbrev cX0_worstLeft : ByteArray := prog_2_method_15_code
def yX0_worstLeft : MethodName := ⟨RX0, "worstLeft", "(II)I"⟩
abbrev cX0_memberToAsk : ByteArray := prog_2_method_16_code
def yX0_memberToAsk : MethodName := ⟨RX0, "memberToAsk", "(I)I"⟩
def RX1 : String := "GooseShares$Fog"
def TX1 : u_T := fun k => match k with
  | 0 => ("GooseShares$Fog", "land", "LGooseShares$Land;", true)
  | _ => ("GooseShares$Fog", "sky", "LGooseShares$Sky;", true)
def tyX1 : Nat → FieldType := fun k => match k with
  | 0 => .object "GooseShares$Land"
  | _ => .object "GooseShares$Sky"
theorem nmX1 : ∀ a, a < 2 → ∀ b, b < 2 → a ≠ b → (TX1 a).2.1 ≠ (TX1 b).2.1 := by decide +kernel
theorem tyX1_ok : ∀ k, k < 2 → parseFieldDescriptor (TX1 k).2.2.1 = some (tyX1 k) := by decide +kernel
abbrev cX1_init : ByteArray := prog_3_method_1_code
def yX1_init : MethodName := ⟨RX1, "<init>", "(LGooseShares$Land;LGooseShares$Sky;)V"⟩
abbrev cX1_allWeight : ByteArray := prog_3_method_2_code
def yX1_allWeight : MethodName := ⟨RX1, "allWeight", "()I"⟩
abbrev cX1_weightOf : ByteArray := prog_3_method_3_code
def yX1_weightOf : MethodName := ⟨RX1, "weightOf", "(I)I"⟩
abbrev cX1_servedIn : ByteArray := prog_3_method_4_code
def yX1_servedIn : MethodName := ⟨RX1, "servedIn", "(I)I"⟩
abbrev cX1_servedWeight : ByteArray := prog_3_method_5_code
def yX1_servedWeight : MethodName := ⟨RX1, "servedWeight", "(I)I"⟩
abbrev cX1_paidWeight : ByteArray := prog_3_method_6_code
def yX1_paidWeight : MethodName := ⟨RX1, "paidWeight", "()I"⟩
abbrev cX1_clearWeight : ByteArray := prog_3_method_7_code
def yX1_clearWeight : MethodName := ⟨RX1, "clearWeight", "(I)I"⟩
abbrev cX1_drawFrom : ByteArray := prog_3_method_8_code
def yX1_drawFrom : MethodName := ⟨RX1, "drawFrom", "(I)I"⟩
def RX2 : String := "GooseShares$Houses"
def TX2 : u_T := fun k => match k with
  | 0 => ("GooseShares$Houses", "land", "LGooseShares$Land;", true)
  | 1 => ("GooseShares$Houses", "sky", "LGooseShares$Sky;", true)
  | 2 => ("GooseShares$Houses", "loudness", "[I", true)
  | _ => ("GooseShares$Houses", "greatest", "[I", true)
def tyX2 : Nat → FieldType := fun k => match k with
  | 0 => .object "GooseShares$Land"
  | 1 => .object "GooseShares$Sky"
  | 2 => .array .int
  | _ => .array .int
theorem nmX2 : ∀ a, a < 4 → ∀ b, b < 4 → a ≠ b → (TX2 a).2.1 ≠ (TX2 b).2.1 := by decide +kernel
theorem tyX2_ok : ∀ k, k < 4 → parseFieldDescriptor (TX2 k).2.2.1 = some (tyX2 k) := by decide +kernel
abbrev cX2_init : ByteArray := prog_4_method_1_code
def yX2_init : MethodName := ⟨RX2, "<init>", "(LGooseShares$Land;LGooseShares$Sky;)V"⟩
abbrev cX2_listen : ByteArray := prog_4_method_2_code
def yX2_listen : MethodName := ⟨RX2, "listen", "()V"⟩
abbrev cX2_isServed : ByteArray := prog_4_method_3_code
def yX2_isServed : MethodName := ⟨RX2, "isServed", "(II)Z"⟩
abbrev cX2_weigh : ByteArray := prog_4_method_4_code
def yX2_weigh : MethodName := ⟨RX2, "weigh", "()V"⟩
abbrev cX2_paidWith : ByteArray := prog_4_method_5_code
def yX2_paidWith : MethodName := ⟨RX2, "paidWith", "(II)I"⟩
abbrev cX2_cellOf : ByteArray := prog_4_method_6_code
def yX2_cellOf : MethodName := ⟨RX2, "cellOf", "(I)I"⟩
abbrev cX2_leastHouse : ByteArray := prog_4_method_7_code
def yX2_leastHouse : MethodName := ⟨RX2, "leastHouse", "(I)I"⟩
abbrev cX2_isGoodSwap : ByteArray := prog_4_method_8_code
def yX2_isGoodSwap : MethodName := ⟨RX2, "isGoodSwap", "(II)Z"⟩
abbrev cX2_goodSwaps : ByteArray := prog_4_method_9_code
def yX2_goodSwaps : MethodName := ⟨RX2, "goodSwaps", "()I"⟩
abbrev cX2_firstSwap : ByteArray := prog_4_method_10_code
def yX2_firstSwap : MethodName := ⟨RX2, "firstSwap", "()I"⟩
def RX3 : String := "GooseShares$Land"
def TX3 : u_T := fun k => match k with
  | 0 => ("GooseShares$Land", "lines", "I", false)
  | 1 => ("GooseShares$Land", "wide", "I", false)
  | 2 => ("GooseShares$Land", "high", "I", false)
  | 3 => ("GooseShares$Land", "law", "I", false)
  | 4 => ("GooseShares$Land", "ear", "I", false)
  | 5 => ("GooseShares$Land", "odds", "I", false)
  | 6 => ("GooseShares$Land", "flights", "I", false)
  | 7 => ("GooseShares$Land", "members", "I", false)
  | 8 => ("GooseShares$Land", "lit", "I", false)
  | 9 => ("GooseShares$Land", "acts", "I", false)
  | 10 => ("GooseShares$Land", "starts", "[I", true)
  | 11 => ("GooseShares$Land", "headings", "[I", true)
  | 12 => ("GooseShares$Land", "flocks", "[I", true)
  | 13 => ("GooseShares$Land", "houses", "[I", true)
  | 14 => ("GooseShares$Land", "wants", "[I", true)
  | 15 => ("GooseShares$Land", "pays", "[I", true)
  | 16 => ("GooseShares$Land", "actPlaces", "[I", true)
  | 17 => ("GooseShares$Land", "actWere", "[I", true)
  | 18 => ("GooseShares$Land", "within", "[I", true)
  | _ => ("GooseShares$Land", "beside", "[I", true)
def tyX3 : Nat → FieldType := fun k => match k with
  | 0 => .int
  | 1 => .int
  | 2 => .int
  | 3 => .int
  | 4 => .int
  | 5 => .int
  | 6 => .int
  | 7 => .int
  | 8 => .int
  | 9 => .int
  | 10 => .array .int
  | 11 => .array .int
  | 12 => .array .int
  | 13 => .array .int
  | 14 => .array .int
  | 15 => .array .int
  | 16 => .array .int
  | 17 => .array .int
  | 18 => .array .int
  | _ => .array .int
theorem nmX3 : ∀ a, a < 20 → ∀ b, b < 20 → a ≠ b → (TX3 a).2.1 ≠ (TX3 b).2.1 := by decide +kernel
theorem tyX3_ok : ∀ k, k < 20 → parseFieldDescriptor (TX3 k).2.2.1 = some (tyX3 k) := by decide +kernel
abbrev cX3_init : ByteArray := prog_5_method_1_code
def yX3_init : MethodName := ⟨RX3, "<init>", "()V"⟩
abbrev cX3_clear : ByteArray := prog_5_method_2_code
def yX3_clear : MethodName := ⟨RX3, "clear", "()V"⟩
abbrev cX3_become : ByteArray := prog_5_method_3_code
def yX3_become : MethodName := ⟨RX3, "become", "(LGooseShares$Land;)V"⟩
abbrev cX3_survey : ByteArray := prog_5_method_4_code
def yX3_survey : MethodName := ⟨RX3, "survey", "()V"⟩
abbrev cX3_neighbour : ByteArray := prog_5_method_5_code
def yX3_neighbour : MethodName := ⟨RX3, "neighbour", "(II)I"⟩
abbrev cX3_rowOf : ByteArray := prog_5_method_6_code
def yX3_rowOf : MethodName := ⟨RX3, "rowOf", "(I)I"⟩
abbrev cX3_distance : ByteArray := prog_5_method_7_code
def yX3_distance : MethodName := ⟨RX3, "distance", "(II)I"⟩
abbrev cX3_isNone : ByteArray := prog_5_method_8_code
def yX3_isNone : MethodName := ⟨RX3, "isNone", "()Z"⟩
abbrev cX3_cells : ByteArray := prog_5_method_9_code
def yX3_cells : MethodName := ⟨RX3, "cells", "()I"⟩
abbrev cX3_allCells : ByteArray := prog_5_method_10_code
def yX3_allCells : MethodName := ⟨RX3, "allCells", "()I"⟩
abbrev cX3_allMembers : ByteArray := prog_5_method_11_code
def yX3_allMembers : MethodName := ⟨RX3, "allMembers", "()I"⟩
abbrev cX3_hasFlight : ByteArray := prog_5_method_12_code
def yX3_hasFlight : MethodName := ⟨RX3, "hasFlight", "(I)Z"⟩
abbrev cX3_hasMember : ByteArray := prog_5_method_13_code
def yX3_hasMember : MethodName := ⟨RX3, "hasMember", "(I)Z"⟩
abbrev cX3_hasCell : ByteArray := prog_5_method_14_code
def yX3_hasCell : MethodName := ⟨RX3, "hasCell", "(I)Z"⟩
abbrev cX3_hasSet : ByteArray := prog_5_method_15_code
def yX3_hasSet : MethodName := ⟨RX3, "hasSet", "(I)Z"⟩
abbrev cX3_earshot : ByteArray := prog_5_method_16_code
def yX3_earshot : MethodName := ⟨RX3, "earshot", "(I)I"⟩
abbrev cX3_wanters : ByteArray := prog_5_method_17_code
def yX3_wanters : MethodName := ⟨RX3, "wanters", "()I"⟩
abbrev cX3_paidBy : ByteArray := prog_5_method_18_code
def yX3_paidBy : MethodName := ⟨RX3, "paidBy", "(I)I"⟩
abbrev cX3_wantedAt : ByteArray := prog_5_method_19_code
def yX3_wantedAt : MethodName := ⟨RX3, "wantedAt", "(I)I"⟩
abbrev cX3_putLamp : ByteArray := prog_5_method_20_code
def yX3_putLamp : MethodName := ⟨RX3, "putLamp", "(II)I"⟩
abbrev cX3_putHeading : ByteArray := prog_5_method_21_code
def yX3_putHeading : MethodName := ⟨RX3, "putHeading", "(II)I"⟩
abbrev cX3_keepAct : ByteArray := prog_5_method_22_code
def yX3_keepAct : MethodName := ⟨RX3, "keepAct", "(II)V"⟩
abbrev cX3_setLamp : ByteArray := prog_5_method_23_code
def yX3_setLamp : MethodName := ⟨RX3, "setLamp", "(II)V"⟩
abbrev cX3_takeBack : ByteArray := prog_5_method_24_code
def yX3_takeBack : MethodName := ⟨RX3, "takeBack", "()V"⟩
def RX4 : String := "GooseShares$Lanterns"
def TX4 : u_T := fun k => match k with
  | 0 => ("GooseShares$Lanterns", "land", "LGooseShares$Land;", true)
  | 1 => ("GooseShares$Lanterns", "sky", "LGooseShares$Sky;", true)
  | 2 => ("GooseShares$Lanterns", "fewestFor", "[I", true)
  | 3 => ("GooseShares$Lanterns", "leastFor", "[I", true)
  | _ => ("GooseShares$Lanterns", "known", "Z", false)
def tyX4 : Nat → FieldType := fun k => match k with
  | 0 => .object "GooseShares$Land"
  | 1 => .object "GooseShares$Sky"
  | 2 => .array .int
  | 3 => .array .int
  | _ => .boolean
theorem nmX4 : ∀ a, a < 5 → ∀ b, b < 5 → a ≠ b → (TX4 a).2.1 ≠ (TX4 b).2.1 := by decide +kernel
theorem tyX4_ok : ∀ k, k < 5 → parseFieldDescriptor (TX4 k).2.2.1 = some (tyX4 k) := by decide +kernel
abbrev cX4_init : ByteArray := prog_6_method_1_code
def yX4_init : MethodName := ⟨RX4, "<init>", "(LGooseShares$Land;LGooseShares$Sky;)V"⟩
abbrev cX4_forget : ByteArray := prog_6_method_2_code
def yX4_forget : MethodName := ⟨RX4, "forget", "()V"⟩
abbrev cX4_learn : ByteArray := prog_6_method_3_code
def yX4_learn : MethodName := ⟨RX4, "learn", "()V"⟩
abbrev cX4_tryLamps : ByteArray := prog_6_method_4_code
def yX4_tryLamps : MethodName := ⟨RX4, "tryLamps", "(II)V"⟩
abbrev cX4_isCheaper : ByteArray := prog_6_method_5_code
def yX4_isCheaper : MethodName := ⟨RX4, "isCheaper", "(II)Z"⟩
abbrev cX4_cheapest : ByteArray := prog_6_method_6_code
def yX4_cheapest : MethodName := ⟨RX4, "cheapest", "(I)I"⟩
abbrev cX4_richest : ByteArray := prog_6_method_7_code
def yX4_richest : MethodName := ⟨RX4, "richest", "(I)I"⟩
abbrev cX4_isRicher : ByteArray := prog_6_method_8_code
def yX4_isRicher : MethodName := ⟨RX4, "isRicher", "(II)Z"⟩
abbrev cX4_mostServed : ByteArray := prog_6_method_9_code
def yX4_mostServed : MethodName := ⟨RX4, "mostServed", "(I)I"⟩
abbrev cX4_costOf : ByteArray := prog_6_method_10_code
def yX4_costOf : MethodName := ⟨RX4, "costOf", "(I)I"⟩
abbrev cX4_orders : ByteArray := prog_6_method_11_code
def yX4_orders : MethodName := ⟨RX4, "orders", "()I"⟩
abbrev cX4_borneBy : ByteArray := prog_6_method_12_code
def yX4_borneBy : MethodName := ⟨RX4, "borneBy", "(I)I"⟩
def RX5 : String := "GooseShares$Reader"
def TX5 : u_T := fun k => match k with
  | 0 => ("GooseShares$Reader", "tape", "LGooseShares$Tape;", true)
  | 1 => ("GooseShares$Reader", "draft", "LGooseShares$Land;", true)
  | 2 => ("GooseShares$Reader", "kind", "I", false)
  | 3 => ("GooseShares$Reader", "start", "I", false)
  | 4 => ("GooseShares$Reader", "stop", "I", false)
  | 5 => ("GooseShares$Reader", "trouble", "I", false)
  | _ => ("GooseShares$Reader", "where", "I", false)
def tyX5 : Nat → FieldType := fun k => match k with
  | 0 => .object "GooseShares$Tape"
  | 1 => .object "GooseShares$Land"
  | 2 => .int
  | 3 => .int
  | 4 => .int
  | 5 => .int
  | _ => .int
theorem nmX5 : ∀ a, a < 7 → ∀ b, b < 7 → a ≠ b → (TX5 a).2.1 ≠ (TX5 b).2.1 := by decide +kernel
theorem tyX5_ok : ∀ k, k < 7 → parseFieldDescriptor (TX5 k).2.2.1 = some (tyX5 k) := by decide +kernel
abbrev cX5_init : ByteArray := prog_7_method_1_code
def yX5_init : MethodName := ⟨RX5, "<init>", "(LGooseShares$Tape;LGooseShares$Land;)V"⟩
abbrev cX5_readTape : ByteArray := prog_7_method_2_code
def yX5_readTape : MethodName := ⟨RX5, "readTape", "()Z"⟩
abbrev cX5_readLine : ByteArray := prog_7_method_3_code
def yX5_readLine : MethodName := ⟨RX5, "readLine", "()V"⟩
abbrev cX5_readHeadLine : ByteArray := prog_7_method_4_code
def yX5_readHeadLine : MethodName := ⟨RX5, "readHeadLine", "()V"⟩
abbrev cX5_readFlightLine : ByteArray := prog_7_method_5_code
def yX5_readFlightLine : MethodName := ⟨RX5, "readFlightLine", "()V"⟩
abbrev cX5_readMemberLine : ByteArray := prog_7_method_6_code
def yX5_readMemberLine : MethodName := ⟨RX5, "readMemberLine", "()V"⟩
abbrev cX5_readField : ByteArray := prog_7_method_7_code
def yX5_readField : MethodName := ⟨RX5, "readField", "(Ljava/lang/String;II)I"⟩
abbrev cX5_refuse : ByteArray := prog_7_method_8_code
def yX5_refuse : MethodName := ⟨RX5, "refuse", "(I)V"⟩
abbrev cX5_advance : ByteArray := prog_7_method_9_code
def yX5_advance : MethodName := ⟨RX5, "advance", "()V"⟩
abbrev cX5_kindOf : ByteArray := prog_7_method_10_code
def yX5_kindOf : MethodName := ⟨RX5, "kindOf", "(I)I"⟩
abbrev cX5_isWord : ByteArray := prog_7_method_11_code
def yX5_isWord : MethodName := ⟨RX5, "isWord", "(Ljava/lang/String;)Z"⟩
abbrev cX5_numberRead : ByteArray := prog_7_method_12_code
def yX5_numberRead : MethodName := ⟨RX5, "numberRead", "()I"⟩
def RX6 : String := "GooseShares$Row"
def TX6 : u_T := fun k => match k with
  | 0 => ("GooseShares$Row", "numbers", "[J", true)
  | 1 => ("GooseShares$Row", "width", "I", false)
  | _ => ("GooseShares$Row", "length", "I", false)
def tyX6 : Nat → FieldType := fun k => match k with
  | 0 => .array .long
  | 1 => .int
  | _ => .int
theorem nmX6 : ∀ a, a < 3 → ∀ b, b < 3 → a ≠ b → (TX6 a).2.1 ≠ (TX6 b).2.1 := by decide +kernel
theorem tyX6_ok : ∀ k, k < 3 → parseFieldDescriptor (TX6 k).2.2.1 = some (tyX6 k) := by decide +kernel
abbrev cX6_init : ByteArray := prog_8_method_1_code
def yX6_init : MethodName := ⟨RX6, "<init>", "()V"⟩
abbrev cX6_isNothing : ByteArray := prog_8_method_2_code
def yX6_isNothing : MethodName := ⟨RX6, "isNothing", "()Z"⟩
abbrev cX6_begin : ByteArray := prog_8_method_3_code
def yX6_begin : MethodName := ⟨RX6, "begin", "(II)V"⟩
abbrev cX6_put : ByteArray := prog_8_method_4_code
def yX6_put : MethodName := ⟨RX6, "put", "(IJ)V"⟩
abbrev cX6_reaches : ByteArray := prog_8_method_5_code
def yX6_reaches : MethodName := ⟨RX6, "reaches", "(II)Z"⟩
def RX7 : String := "GooseShares$Sky"
def TX7 : u_T := fun k => match k with
  | 0 => ("GooseShares$Sky", "land", "LGooseShares$Land;", true)
  | 1 => ("GooseShares$Sky", "track", "[I", true)
  | 2 => ("GooseShares$Sky", "facing", "[I", true)
  | 3 => ("GooseShares$Sky", "kept", "[I", true)
  | 4 => ("GooseShares$Sky", "geeseOver", "[I", true)
  | 5 => ("GooseShares$Sky", "lit", "I", false)
  | 6 => ("GooseShares$Sky", "law", "I", false)
  | 7 => ("GooseShares$Sky", "stay", "I", false)
  | 8 => ("GooseShares$Sky", "keptStay", "I", false)
  | _ => ("GooseShares$Sky", "turns", "I", false)
def tyX7 : Nat → FieldType := fun k => match k with
  | 0 => .object "GooseShares$Land"
  | 1 => .array .int
  | 2 => .array .int
  | 3 => .array .int
  | 4 => .array .int
  | 5 => .int
  | 6 => .int
  | 7 => .int
  | 8 => .int
  | _ => .int
theorem nmX7 : ∀ a, a < 10 → ∀ b, b < 10 → a ≠ b → (TX7 a).2.1 ≠ (TX7 b).2.1 := by decide +kernel
theorem tyX7_ok : ∀ k, k < 10 → parseFieldDescriptor (TX7 k).2.2.1 = some (tyX7 k) := by decide +kernel
abbrev cX7_init : ByteArray := prog_9_method_1_code
def yX7_init : MethodName := ⟨RX7, "<init>", "(LGooseShares$Land;)V"⟩
abbrev cX7_under : ByteArray := prog_9_method_2_code
def yX7_under : MethodName := ⟨RX7, "under", "(II)V"⟩
abbrev cX7_follow : ByteArray := prog_9_method_3_code
def yX7_follow : MethodName := ⟨RX7, "follow", "(I)V"⟩
abbrev cX7_trace : ByteArray := prog_9_method_4_code
def yX7_trace : MethodName := ⟨RX7, "trace", "(II)V"⟩
abbrev cX7_turned : ByteArray := prog_9_method_5_code
def yX7_turned : MethodName := ⟨RX7, "turned", "(II)I"⟩
abbrev cX7_cellAt : ByteArray := prog_9_method_6_code
def yX7_cellAt : MethodName := ⟨RX7, "cellAt", "(I)I"⟩
abbrev cX7_headingAt : ByteArray := prog_9_method_7_code
def yX7_headingAt : MethodName := ⟨RX7, "headingAt", "(I)I"⟩
abbrev cX7_outStep : ByteArray := prog_9_method_8_code
def yX7_outStep : MethodName := ⟨RX7, "outStep", "()I"⟩
abbrev cX7_wayBits : ByteArray := prog_9_method_9_code
def yX7_wayBits : MethodName := ⟨RX7, "wayBits", "()I"⟩
abbrev cX7_stepsWithin : ByteArray := prog_9_method_10_code
def yX7_stepsWithin : MethodName := ⟨RX7, "stepsWithin", "(I)I"⟩
abbrev cX7_firstWithin : ByteArray := prog_9_method_11_code
def yX7_firstWithin : MethodName := ⟨RX7, "firstWithin", "(I)I"⟩
abbrev cX7_keepTrack : ByteArray := prog_9_method_12_code
def yX7_keepTrack : MethodName := ⟨RX7, "keepTrack", "()V"⟩
abbrev cX7_firstMeeting : ByteArray := prog_9_method_13_code
def yX7_firstMeeting : MethodName := ⟨RX7, "firstMeeting", "()I"⟩
abbrev cX7_pass : ByteArray := prog_9_method_14_code
def yX7_pass : MethodName := ⟨RX7, "pass", "(I)V"⟩
abbrev cX7_heardIn : ByteArray := prog_9_method_15_code
def yX7_heardIn : MethodName := ⟨RX7, "heardIn", "(I)I"⟩
abbrev cX7_wouldServe : ByteArray := prog_9_method_16_code
def yX7_wouldServe : MethodName := ⟨RX7, "wouldServe", "(II)Z"⟩
abbrev cX7_servedBits : ByteArray := prog_9_method_17_code
def yX7_servedBits : MethodName := ⟨RX7, "servedBits", "()I"⟩
abbrev cX7_deafBits : ByteArray := prog_9_method_18_code
def yX7_deafBits : MethodName := ⟨RX7, "deafBits", "()I"⟩
def RX8 : String := "GooseShares$Tape"
def TX8 : u_T := fun k => match k with
  | 0 => ("GooseShares$Tape", "bytes", "[B", true)
  | _ => ("GooseShares$Tape", "length", "I", false)
def tyX8 : Nat → FieldType := fun k => match k with
  | 0 => .array .byte
  | _ => .int
theorem nmX8 : ∀ a, a < 2 → ∀ b, b < 2 → a ≠ b → (TX8 a).2.1 ≠ (TX8 b).2.1 := by decide +kernel
theorem tyX8_ok : ∀ k, k < 2 → parseFieldDescriptor (TX8 k).2.2.1 = some (tyX8 k) := by decide +kernel
abbrev cX8_init : ByteArray := prog_10_method_1_code
def yX8_init : MethodName := ⟨RX8, "<init>", "()V"⟩
abbrev cX8_append : ByteArray := prog_10_method_2_code
def yX8_append : MethodName := ⟨RX8, "append", "(I)V"⟩
def RX9 : String := "GooseShares"
def TX9 : u_T := fun k => match k with
  | 0 => ("GooseShares", "tape", "LGooseShares$Tape;", true)
  | 1 => ("GooseShares", "now", "LGooseShares$Land;", true)
  | 2 => ("GooseShares", "reader", "LGooseShares$Reader;", true)
  | 3 => ("GooseShares", "images", "[LGooseShares$Land;", true)
  | 4 => ("GooseShares", "rows", "[LGooseShares$Row;", true)
  | 5 => ("GooseShares", "sky", "LGooseShares$Sky;", true)
  | 6 => ("GooseShares", "lanterns", "LGooseShares$Lanterns;", true)
  | 7 => ("GooseShares", "clues", "LGooseShares$Clues;", true)
  | 8 => ("GooseShares", "houses", "LGooseShares$Houses;", true)
  | 9 => ("GooseShares", "fog", "LGooseShares$Fog;", true)
  | _ => ("GooseShares", "imaged", "[Z", true)
def tyX9 : Nat → FieldType := fun k => match k with
  | 0 => .object "GooseShares$Tape"
  | 1 => .object "GooseShares$Land"
  | 2 => .object "GooseShares$Reader"
  | 3 => .array (.object "GooseShares$Land")
  | 4 => .array (.object "GooseShares$Row")
  | 5 => .object "GooseShares$Sky"
  | 6 => .object "GooseShares$Lanterns"
  | 7 => .object "GooseShares$Clues"
  | 8 => .object "GooseShares$Houses"
  | 9 => .object "GooseShares$Fog"
  | _ => .array .boolean
theorem nmX9 : ∀ a, a < 11 → ∀ b, b < 11 → a ≠ b → (TX9 a).2.1 ≠ (TX9 b).2.1 := by decide +kernel
theorem tyX9_ok : ∀ k, k < 11 → parseFieldDescriptor (TX9 k).2.2.1 = some (tyX9 k) := by decide +kernel
abbrev cX9_init : ByteArray := prog_1_method_1_code
def yX9_init : MethodName := ⟨RX9, "<init>", "()V"⟩
abbrev cX9_feed : ByteArray := prog_1_method_2_code
def yX9_feed : MethodName := ⟨RX9, "feed", "(IIIII)I"⟩
abbrev cX9_end : ByteArray := prog_1_method_3_code
def yX9_end : MethodName := ⟨RX9, "end", "(I)I"⟩
abbrev cX9_land : ByteArray := prog_1_method_4_code
def yX9_land : MethodName := ⟨RX9, "land", "()I"⟩
abbrev cX9_fault : ByteArray := prog_1_method_5_code
def yX9_fault : MethodName := ⟨RX9, "fault", "(I)I"⟩
abbrev cX9_flight : ByteArray := prog_1_method_6_code
def yX9_flight : MethodName := ⟨RX9, "flight", "(II)I"⟩
abbrev cX9_member : ByteArray := prog_1_method_7_code
def yX9_member : MethodName := ⟨RX9, "member", "(II)I"⟩
abbrev cX9_lamps : ByteArray := prog_1_method_8_code
def yX9_lamps : MethodName := ⟨RX9, "lamps", "()I"⟩
abbrev cX9_at : ByteArray := prog_1_method_9_code
def yX9_at : MethodName := ⟨RX9, "at", "(II)I"⟩
abbrev cX9_heads : ByteArray := prog_1_method_10_code
def yX9_heads : MethodName := ⟨RX9, "heads", "(II)I"⟩
abbrev cX9_out : ByteArray := prog_1_method_11_code
def yX9_out : MethodName := ⟨RX9, "out", "(I)I"⟩
abbrev cX9_bends : ByteArray := prog_1_method_12_code
def yX9_bends : MethodName := ⟨RX9, "bends", "(I)I"⟩
abbrev cX9_way : ByteArray := prog_1_method_13_code
def yX9_way : MethodName := ⟨RX9, "way", "(I)I"⟩
abbrev cX9_over : ByteArray := prog_1_method_14_code
def yX9_over : MethodName := ⟨RX9, "over", "(I)I"⟩
abbrev cX9_geese : ByteArray := prog_1_method_15_code
def yX9_geese : MethodName := ⟨RX9, "geese", "(II)I"⟩
abbrev cX9_hears : ByteArray := prog_1_method_16_code
def yX9_hears : MethodName := ⟨RX9, "hears", "(II)I"⟩
abbrev cX9_heard : ByteArray := prog_1_method_17_code
def yX9_heard : MethodName := ⟨RX9, "heard", "(I)I"⟩
abbrev cX9_ears : ByteArray := prog_1_method_18_code
def yX9_ears : MethodName := ⟨RX9, "ears", "(I)I"⟩
abbrev cX9_loud : ByteArray := prog_1_method_19_code
def yX9_loud : MethodName := ⟨RX9, "loud", "()I"⟩
abbrev cX9_quiet : ByteArray := prog_1_method_20_code
def yX9_quiet : MethodName := ⟨RX9, "quiet", "()I"⟩
abbrev cX9_served : ByteArray := prog_1_method_21_code
def yX9_served : MethodName := ⟨RX9, "served", "()I"⟩
abbrev cX9_income : ByteArray := prog_1_method_22_code
def yX9_income : MethodName := ⟨RX9, "income", "()I"⟩
abbrev cX9_unpaid : ByteArray := prog_1_method_23_code
def yX9_unpaid : MethodName := ⟨RX9, "unpaid", "()I"⟩
abbrev cX9_first : ByteArray := prog_1_method_24_code
def yX9_first : MethodName := ⟨RX9, "first", "()I"⟩
abbrev cX9_lacks : ByteArray := prog_1_method_25_code
def yX9_lacks : MethodName := ⟨RX9, "lacks", "()I"⟩
abbrev cX9_near : ByteArray := prog_1_method_26_code
def yX9_near : MethodName := ⟨RX9, "near", "(I)I"⟩
abbrev cX9_lone : ByteArray := prog_1_method_27_code
def yX9_lone : MethodName := ⟨RX9, "lone", "()I"⟩
abbrev cX9_meets : ByteArray := prog_1_method_28_code
def yX9_meets : MethodName := ⟨RX9, "meets", "(II)I"⟩
abbrev cX9_spare : ByteArray := prog_1_method_29_code
def yX9_spare : MethodName := ⟨RX9, "spare", "()I"⟩
abbrev cX9_calls : ByteArray := prog_1_method_30_code
def yX9_calls : MethodName := ⟨RX9, "calls", "(I)I"⟩
abbrev cX9_farthest : ByteArray := prog_1_method_31_code
def yX9_farthest : MethodName := ⟨RX9, "farthest", "(I)I"⟩
abbrev cX9_fewest : ByteArray := prog_1_method_32_code
def yX9_fewest : MethodName := ⟨RX9, "fewest", "(I)I"⟩
abbrev cX9_lights : ByteArray := prog_1_method_33_code
def yX9_lights : MethodName := ⟨RX9, "lights", "(I)I"⟩
abbrev cX9_best : ByteArray := prog_1_method_34_code
def yX9_best : MethodName := ⟨RX9, "best", "(I)I"⟩
abbrev cX9_bests : ByteArray := prog_1_method_35_code
def yX9_bests : MethodName := ⟨RX9, "bests", "(I)I"⟩
abbrev cX9_most : ByteArray := prog_1_method_36_code
def yX9_most : MethodName := ⟨RX9, "most", "(I)I"⟩
abbrev cX9_more : ByteArray := prog_1_method_37_code
def yX9_more : MethodName := ⟨RX9, "more", "()I"⟩
abbrev cX9_less : ByteArray := prog_1_method_38_code
def yX9_less : MethodName := ⟨RX9, "less", "()I"⟩
abbrev cX9_by : ByteArray := prog_1_method_39_code
def yX9_by : MethodName := ⟨RX9, "by", "(I)I"⟩
abbrev cX9_law : ByteArray := prog_1_method_40_code
def yX9_law : MethodName := ⟨RX9, "law", "()I"⟩
abbrev cX9_laws : ByteArray := prog_1_method_41_code
def yX9_laws : MethodName := ⟨RX9, "laws", "(I)I"⟩
abbrev cX9_ask : ByteArray := prog_1_method_42_code
def yX9_ask : MethodName := ⟨RX9, "ask", "(I)I"⟩
abbrev cX9_began : ByteArray := prog_1_method_43_code
def yX9_began : MethodName := ⟨RX9, "began", "(I)I"⟩
abbrev cX9_spots : ByteArray := prog_1_method_44_code
def yX9_spots : MethodName := ⟨RX9, "spots", "(I)I"⟩
abbrev cX9_who : ByteArray := prog_1_method_45_code
def yX9_who : MethodName := ⟨RX9, "who", "(I)I"⟩
abbrev cX9_leaves : ByteArray := prog_1_method_46_code
def yX9_leaves : MethodName := ⟨RX9, "leaves", "(I)I"⟩
abbrev cX9_odds : ByteArray := prog_1_method_47_code
def yX9_odds : MethodName := ⟨RX9, "odds", "(III)I"⟩
abbrev cX9_homes : ByteArray := prog_1_method_48_code
def yX9_homes : MethodName := ⟨RX9, "homes", "()I"⟩
abbrev cX9_home : ByteArray := prog_1_method_49_code
def yX9_home : MethodName := ⟨RX9, "home", "(I)I"⟩
abbrev cX9_swaps : ByteArray := prog_1_method_50_code
def yX9_swaps : MethodName := ⟨RX9, "swaps", "()I"⟩
abbrev cX9_swap : ByteArray := prog_1_method_51_code
def yX9_swap : MethodName := ⟨RX9, "swap", "()I"⟩
abbrev cX9_price : ByteArray := prog_1_method_52_code
def yX9_price : MethodName := ⟨RX9, "price", "(I)I"⟩
abbrev cX9_cut : ByteArray := prog_1_method_53_code
def yX9_cut : MethodName := ⟨RX9, "cut", "(II)I"⟩
abbrev cX9_rests : ByteArray := prog_1_method_54_code
def yX9_rests : MethodName := ⟨RX9, "rests", "(II)I"⟩
abbrev cX9_has : ByteArray := prog_1_method_55_code
def yX9_has : MethodName := ⟨RX9, "has", "(IIII)I"⟩
abbrev cX9_chance : ByteArray := prog_1_method_56_code
def yX9_chance : MethodName := ⟨RX9, "chance", "(II)I"⟩
abbrev cX9_mean : ByteArray := prog_1_method_57_code
def yX9_mean : MethodName := ⟨RX9, "mean", "(I)I"⟩
abbrev cX9_flown : ByteArray := prog_1_method_58_code
def yX9_flown : MethodName := ⟨RX9, "flown", "(II)I"⟩
abbrev cX9_light : ByteArray := prog_1_method_59_code
def yX9_light : MethodName := ⟨RX9, "light", "(II)I"⟩
abbrev cX9_turn : ByteArray := prog_1_method_60_code
def yX9_turn : MethodName := ⟨RX9, "turn", "(II)I"⟩
abbrev cX9_undo : ByteArray := prog_1_method_61_code
def yX9_undo : MethodName := ⟨RX9, "undo", "()I"⟩
abbrev cX9_anew : ByteArray := prog_1_method_62_code
def yX9_anew : MethodName := ⟨RX9, "anew", "()I"⟩
abbrev cX9_drawn : ByteArray := prog_1_method_63_code
def yX9_drawn : MethodName := ⟨RX9, "drawn", "(II)I"⟩
abbrev cX9_luck : ByteArray := prog_1_method_64_code
def yX9_luck : MethodName := ⟨RX9, "luck", "(III)I"⟩
abbrev cX9_rate : ByteArray := prog_1_method_65_code
def yX9_rate : MethodName := ⟨RX9, "rate", "(II)I"⟩
abbrev cX9_count : ByteArray := prog_1_method_66_code
def yX9_count : MethodName := ⟨RX9, "count", "(I)I"⟩
abbrev cX9_image : ByteArray := prog_1_method_67_code
def yX9_image : MethodName := ⟨RX9, "image", "(I)I"⟩
abbrev cX9_back : ByteArray := prog_1_method_68_code
def yX9_back : MethodName := ⟨RX9, "back", "(I)I"⟩
abbrev cX9_row : ByteArray := prog_1_method_69_code
def yX9_row : MethodName := ⟨RX9, "row", "(III)I"⟩
abbrev cX9_write : ByteArray := prog_1_method_70_code
def yX9_write : MethodName := ⟨RX9, "write", "(IIJ)I"⟩
abbrev cX9_paste : ByteArray := prog_1_method_71_code
def yX9_paste : MethodName := ⟨RX9, "paste", "(IIIII)I"⟩
abbrev cX9_hasBit : ByteArray := prog_1_method_72_code
def yX9_hasBit : MethodName := ⟨RX9, "hasBit", "(II)Z"⟩
abbrev cX9_isStep : ByteArray := prog_1_method_73_code
def yX9_isStep : MethodName := ⟨RX9, "isStep", "(I)Z"⟩
abbrev cX9_isLampCount : ByteArray := prog_1_method_74_code
def yX9_isLampCount : MethodName := ⟨RX9, "isLampCount", "(I)Z"⟩
abbrev cX9_isFractionPart : ByteArray := prog_1_method_75_code
def yX9_isFractionPart : MethodName := ⟨RX9, "isFractionPart", "(I)Z"⟩
abbrev cX9_isChoice : ByteArray := prog_1_method_76_code
def yX9_isChoice : MethodName := ⟨RX9, "isChoice", "(I)Z"⟩
abbrev cX9_isSeed : ByteArray := prog_1_method_77_code
def yX9_isSeed : MethodName := ⟨RX9, "isSeed", "(I)Z"⟩
abbrev cX9_isSlot : ByteArray := prog_1_method_78_code
def yX9_isSlot : MethodName := ⟨RX9, "isSlot", "(I)Z"⟩
abbrev cX9_commonDivisor : ByteArray := prog_1_method_79_code
def yX9_commonDivisor : MethodName := ⟨RX9, "commonDivisor", "(II)I"⟩
abbrev cX9_partOf : ByteArray := prog_1_method_80_code
def yX9_partOf : MethodName := ⟨RX9, "partOf", "(III)I"⟩
abbrev cX9_areTwo : ByteArray := prog_1_method_81_code
def yX9_areTwo : MethodName := ⟨RX9, "areTwo", "(II)Z"⟩
abbrev cX9_rowsHad : ByteArray := prog_1_method_82_code
def yX9_rowsHad : MethodName := ⟨RX9, "rowsHad", "()I"⟩
abbrev cX9_followNow : ByteArray := prog_1_method_83_code
def yX9_followNow : MethodName := ⟨RX9, "followNow", "(I)V"⟩
abbrev cX9_passNow : ByteArray := prog_1_method_84_code
def yX9_passNow : MethodName := ⟨RX9, "passNow", "()V"⟩
abbrev cX9_servedUnder : ByteArray := prog_1_method_85_code
def yX9_servedUnder : MethodName := ⟨RX9, "servedUnder", "(II)I"⟩
abbrev cX9_incomeUnder : ByteArray := prog_1_method_86_code
def yX9_incomeUnder : MethodName := ⟨RX9, "incomeUnder", "(II)I"⟩
abbrev cX9_earshotOfUnpaid : ByteArray := prog_1_method_87_code
def yX9_earshotOfUnpaid : MethodName := ⟨RX9, "earshotOfUnpaid", "()I"⟩
abbrev cX9_unpaidBits : ByteArray := prog_1_method_88_code
def yX9_unpaidBits : MethodName := ⟨RX9, "unpaidBits", "()I"⟩
abbrev cX9_flightsOver : ByteArray := prog_1_method_89_code
def yX9_flightsOver : MethodName := ⟨RX9, "flightsOver", "(I)I"⟩
abbrev cX9_geeseWithin : ByteArray := prog_1_method_90_code
def yX9_geeseWithin : MethodName := ⟨RX9, "geeseWithin", "(II)I"⟩
abbrev cX9_bestChange : ByteArray := prog_1_method_91_code
def yX9_bestChange : MethodName := ⟨RX9, "bestChange", "(I)I"⟩
abbrev cX9_rowRefusal : ByteArray := prog_1_method_92_code
def yX9_rowRefusal : MethodName := ⟨RX9, "rowRefusal", "(I)I"⟩
abbrev cX9_sightRefusal : ByteArray := prog_1_method_93_code
def yX9_sightRefusal : MethodName := ⟨RX9, "sightRefusal", "(I)I"⟩
abbrev cX9_reportRefusal : ByteArray := prog_1_method_94_code
def yX9_reportRefusal : MethodName := ⟨RX9, "reportRefusal", "(I)I"⟩
abbrev cX9_gain : ByteArray := prog_1_method_95_code
def yX9_gain : MethodName := ⟨RX9, "gain", "(IIII)I"⟩
abbrev cX9_atRest : ByteArray := prog_1_method_96_code
def yX9_atRest : MethodName := ⟨RX9, "atRest", "(IIII)Z"⟩
def RX10 : String := "GooseSharesModel"
def TX10 : u_T := fun k => match k with
  | 0 => ("GooseSharesModel", "thrown", "I", false)
  | 1 => ("GooseSharesModel", "width", "[I", true)
  | 2 => ("GooseSharesModel", "many", "[I", true)
  | 3 => ("GooseSharesModel", "cells", "[J", true)
  | 4 => ("GooseSharesModel", "moved", "[J", true)
  | 5 => ("GooseSharesModel", "tape", "[B", true)
  | 6 => ("GooseSharesModel", "taped", "I", false)
  | 7 => ("GooseSharesModel", "spot", "I", false)
  | 8 => ("GooseSharesModel", "token", "I", false)
  | 9 => ("GooseSharesModel", "place", "I", false)
  | 10 => ("GooseSharesModel", "value", "I", false)
  | 11 => ("GooseSharesModel", "word", "J", false)
  | 12 => ("GooseSharesModel", "bad", "I", false)
  | 13 => ("GooseSharesModel", "badPlace", "I", false)
  | 14 => ("GooseSharesModel", "fault", "I", false)
  | 15 => ("GooseSharesModel", "faultPlace", "I", false)
  | 16 => ("GooseSharesModel", "lines", "[I", true)
  | 17 => ("GooseSharesModel", "has", "[I", true)
  | 18 => ("GooseSharesModel", "flight", "[I", true)
  | 19 => ("GooseSharesModel", "member", "[I", true)
  | 20 => ("GooseSharesModel", "act", "[I", true)
  | 21 => ("GooseSharesModel", "isKept", "[Z", true)
  | 22 => ("GooseSharesModel", "lit", "I", false)
  | 23 => ("GooseSharesModel", "law", "I", false)
  | 24 => ("GooseSharesModel", "fog", "I", false)
  | 25 => ("GooseSharesModel", "headsAt", "[I", true)
  | 26 => ("GooseSharesModel", "cellAt", "[I", true)
  | 27 => ("GooseSharesModel", "headAt", "[I", true)
  | 28 => ("GooseSharesModel", "turnsOf", "[I", true)
  | 29 => ("GooseSharesModel", "heardAt", "[I", true)
  | 30 => ("GooseSharesModel", "fewest", "[I", true)
  | 31 => ("GooseSharesModel", "fewestSet", "[I", true)
  | 32 => ("GooseSharesModel", "income", "[I", true)
  | 33 => ("GooseSharesModel", "incomeSet", "[I", true)
  | 34 => ("GooseSharesModel", "most", "[I", true)
  | 35 => ("GooseSharesModel", "often", "[I", true)
  | 36 => ("GooseSharesModel", "beganMany", "I", false)
  | 37 => ("GooseSharesModel", "beganCells", "I", false)
  | 38 => ("GooseSharesModel", "beganHeard", "[I", true)
  | 39 => ("GooseSharesModel", "whoBest", "I", false)
  | 40 => ("GooseSharesModel", "whoLeaves", "I", false)
  | 41 => ("GooseSharesModel", "house", "[I", true)
  | 42 => ("GooseSharesModel", "bestHouse", "[I", true)
  | 43 => ("GooseSharesModel", "homesMost", "I", false)
  | 44 => ("GooseSharesModel", "swapFirst", "I", false)
  | 45 => ("GooseSharesModel", "cutSum", "I", false)
  | 46 => ("GooseSharesModel", "cutMany", "I", false)
  | _ => ("GooseSharesModel", "wanting", "I", false)
def tyX10 : Nat → FieldType := fun k => match k with
  | 0 => .int
  | 1 => .array .int
  | 2 => .array .int
  | 3 => .array .long
  | 4 => .array .long
  | 5 => .array .byte
  | 6 => .int
  | 7 => .int
  | 8 => .int
  | 9 => .int
  | 10 => .int
  | 11 => .long
  | 12 => .int
  | 13 => .int
  | 14 => .int
  | 15 => .int
  | 16 => .array .int
  | 17 => .array .int
  | 18 => .array .int
  | 19 => .array .int
  | 20 => .array .int
  | 21 => .array .boolean
  | 22 => .int
  | 23 => .int
  | 24 => .int
  | 25 => .array .int
  | 26 => .array .int
  | 27 => .array .int
  | 28 => .array .int
  | 29 => .array .int
  | 30 => .array .int
  | 31 => .array .int
  | 32 => .array .int
  | 33 => .array .int
  | 34 => .array .int
  | 35 => .array .int
  | 36 => .int
  | 37 => .int
  | 38 => .array .int
  | 39 => .int
  | 40 => .int
  | 41 => .array .int
  | 42 => .array .int
  | 43 => .int
  | 44 => .int
  | 45 => .int
  | 46 => .int
  | _ => .int
theorem nmX10 : ∀ a, a < 48 → ∀ b, b < 48 → a ≠ b → (TX10 a).2.1 ≠ (TX10 b).2.1 := by decide +kernel
theorem tyX10_ok : ∀ k, k < 48 → parseFieldDescriptor (TX10 k).2.2.1 = some (tyX10 k) := by decide +kernel
abbrev cX10_init : ByteArray := prog_12_method_1_code
def yX10_init : MethodName := ⟨RX10, "<init>", "()V"⟩
abbrev cX10_in : ByteArray := prog_12_method_3_code
def yX10_in : MethodName := ⟨RX10, "in", "(JJJ)Z"⟩
abbrev cX10_isSlot : ByteArray := prog_12_method_4_code
def yX10_isSlot : MethodName := ⟨RX10, "isSlot", "(I)Z"⟩
abbrev cX10_row : ByteArray := prog_12_method_5_code
def yX10_row : MethodName := ⟨RX10, "row", "(III)I"⟩
abbrev cX10_cut : ByteArray := prog_12_method_6_code
def yX10_cut : MethodName := ⟨RX10, "cut", "(JI)J"⟩
abbrev cX10_write : ByteArray := prog_12_method_7_code
def yX10_write : MethodName := ⟨RX10, "write", "(IIJ)I"⟩
abbrev cX10_paste : ByteArray := prog_12_method_8_code
def yX10_paste : MethodName := ⟨RX10, "paste", "(IIIII)I"⟩
abbrev cX10_feed : ByteArray := prog_12_method_9_code
def yX10_feed : MethodName := ⟨RX10, "feed", "(IIIII)I"⟩
abbrev cX10_four : ByteArray := prog_12_method_10_code
def yX10_four : MethodName := ⟨RX10, "four", "(I)V"⟩
abbrev cX10_end : ByteArray := prog_12_method_11_code
def yX10_end : MethodName := ⟨RX10, "end", "(I)I"⟩
abbrev cX10_isByte : ByteArray := prog_12_method_12_code
def yX10_isByte : MethodName := ⟨RX10, "isByte", "(III)Z"⟩
abbrev cX10_next : ByteArray := prog_12_method_13_code
def yX10_next : MethodName := ⟨RX10, "next", "()V"⟩
abbrev cX10_isGood : ByteArray := prog_12_method_14_code
def yX10_isGood : MethodName := ⟨RX10, "isGood", "()Z"⟩
abbrev cX10_fails : ByteArray := prog_12_method_15_code
def yX10_fails : MethodName := ⟨RX10, "fails", "(I)V"⟩
abbrev cX10_is : ByteArray := prog_12_method_16_code
def yX10_is : MethodName := ⟨RX10, "is", "(J)Z"⟩
abbrev cX10_takes : ByteArray := prog_12_method_17_code
def yX10_takes : MethodName := ⟨RX10, "takes", "(J)Z"⟩
abbrev cX10_asks : ByteArray := prog_12_method_18_code
def yX10_asks : MethodName := ⟨RX10, "asks", "(J)V"⟩
abbrev cX10_number : ByteArray := prog_12_method_19_code
def yX10_number : MethodName := ⟨RX10, "number", "(II)I"⟩
abbrev cX10_number_ : ByteArray := prog_12_method_20_code
def yX10_number_ : MethodName := ⟨RX10, "number", "(JII)I"⟩
abbrev cX10_ends : ByteArray := prog_12_method_21_code
def yX10_ends : MethodName := ⟨RX10, "ends", "()V"⟩
abbrev cX10_begins : ByteArray := prog_12_method_22_code
def yX10_begins : MethodName := ⟨RX10, "begins", "()V"⟩
abbrev cX10_isOver : ByteArray := prog_12_method_23_code
def yX10_isOver : MethodName := ⟨RX10, "isOver", "()V"⟩
abbrev cX10_fault : ByteArray := prog_12_method_24_code
def yX10_fault : MethodName := ⟨RX10, "fault", "(I)I"⟩
abbrev cX10_hasRead : ByteArray := prog_12_method_25_code
def yX10_hasRead : MethodName := ⟨RX10, "hasRead", "(I)I"⟩
abbrev cX10_tells : ByteArray := prog_12_method_26_code
def yX10_tells : MethodName := ⟨RX10, "tells", "(II)V"⟩
abbrev cX10_cellHere : ByteArray := prog_12_method_27_code
def yX10_cellHere : MethodName := ⟨RX10, "cellHere", "()I"⟩
abbrev cX10_flightLine : ByteArray := prog_12_method_28_code
def yX10_flightLine : MethodName := ⟨RX10, "flightLine", "()V"⟩
abbrev cX10_memberLine : ByteArray := prog_12_method_29_code
def yX10_memberLine : MethodName := ⟨RX10, "memberLine", "()V"⟩
abbrev cX10_isRoom : ByteArray := prog_12_method_30_code
def yX10_isRoom : MethodName := ⟨RX10, "isRoom", "(ZII)Z"⟩
abbrev cX10_line : ByteArray := prog_12_method_31_code
def yX10_line : MethodName := ⟨RX10, "line", "()V"⟩
abbrev cX10_clears : ByteArray := prog_12_method_32_code
def yX10_clears : MethodName := ⟨RX10, "clears", "()V"⟩
abbrev cX10_landLine : ByteArray := prog_12_method_33_code
def yX10_landLine : MethodName := ⟨RX10, "landLine", "()V"⟩
abbrev cX10_land : ByteArray := prog_12_method_34_code
def yX10_land : MethodName := ⟨RX10, "land", "()I"⟩
abbrev cX10_copyRow : ByteArray := prog_12_method_35_code
def yX10_copyRow : MethodName := ⟨RX10, "copyRow", "([IIII)V"⟩
abbrev cX10_copyLand : ByteArray := prog_12_method_36_code
def yX10_copyLand : MethodName := ⟨RX10, "copyLand", "(II)V"⟩
abbrev cX10_isLand : ByteArray := prog_12_method_37_code
def yX10_isLand : MethodName := ⟨RX10, "isLand", "()Z"⟩
abbrev cX10_cellsAll : ByteArray := prog_12_method_38_code
def yX10_cellsAll : MethodName := ⟨RX10, "cellsAll", "()I"⟩
abbrev cX10_flights : ByteArray := prog_12_method_39_code
def yX10_flights : MethodName := ⟨RX10, "flights", "()I"⟩
abbrev cX10_members : ByteArray := prog_12_method_40_code
def yX10_members : MethodName := ⟨RX10, "members", "()I"⟩
abbrev cX10_isCell : ByteArray := prog_12_method_41_code
def yX10_isCell : MethodName := ⟨RX10, "isCell", "(J)Z"⟩
abbrev cX10_isFlight : ByteArray := prog_12_method_42_code
def yX10_isFlight : MethodName := ⟨RX10, "isFlight", "(J)Z"⟩
abbrev cX10_isMember : ByteArray := prog_12_method_43_code
def yX10_isMember : MethodName := ⟨RX10, "isMember", "(J)Z"⟩
abbrev cX10_areTwo : ByteArray := prog_12_method_44_code
def yX10_areTwo : MethodName := ⟨RX10, "areTwo", "(II)Z"⟩
abbrev cX10_isStep : ByteArray := prog_12_method_45_code
def yX10_isStep : MethodName := ⟨RX10, "isStep", "(I)Z"⟩
abbrev cX10_isMany : ByteArray := prog_12_method_46_code
def yX10_isMany : MethodName := ⟨RX10, "isMany", "(I)Z"⟩
abbrev cX10_isLaw : ByteArray := prog_12_method_47_code
def yX10_isLaw : MethodName := ⟨RX10, "isLaw", "(I)Z"⟩
abbrev cX10_isHalf : ByteArray := prog_12_method_48_code
def yX10_isHalf : MethodName := ⟨RX10, "isHalf", "(I)Z"⟩
abbrev cX10_isBit : ByteArray := prog_12_method_49_code
def yX10_isBit : MethodName := ⟨RX10, "isBit", "(II)Z"⟩
abbrev cX10_sizeOf : ByteArray := prog_12_method_50_code
def yX10_sizeOf : MethodName := ⟨RX10, "sizeOf", "(I)I"⟩
abbrev cX10_wantsOf : ByteArray := prog_12_method_51_code
def yX10_wantsOf : MethodName := ⟨RX10, "wantsOf", "(I)I"⟩
abbrev cX10_paysOf : ByteArray := prog_12_method_52_code
def yX10_paysOf : MethodName := ⟨RX10, "paysOf", "(I)I"⟩
abbrev cX10_far : ByteArray := prog_12_method_53_code
def yX10_far : MethodName := ⟨RX10, "far", "(II)I"⟩
abbrev cX10_lays : ByteArray := prog_12_method_54_code
def yX10_lays : MethodName := ⟨RX10, "lays", "()V"⟩
abbrev cX10_turned : ByteArray := prog_12_method_55_code
def yX10_turned : MethodName := ⟨RX10, "turned", "(II)I"⟩
abbrev cX10_beside : ByteArray := prog_12_method_56_code
def yX10_beside : MethodName := ⟨RX10, "beside", "(II)I"⟩
abbrev cX10_flies : ByteArray := prog_12_method_57_code
def yX10_flies : MethodName := ⟨RX10, "flies", "(III)V"⟩
abbrev cX10_isHeard : ByteArray := prog_12_method_58_code
def yX10_isHeard : MethodName := ⟨RX10, "isHeard", "(III)Z"⟩
abbrev cX10_hearsOf : ByteArray := prog_12_method_59_code
def yX10_hearsOf : MethodName := ⟨RX10, "hearsOf", "(II)I"⟩
abbrev cX10_runs : ByteArray := prog_12_method_60_code
def yX10_runs : MethodName := ⟨RX10, "runs", "()V"⟩
abbrev cX10_hearsAll : ByteArray := prog_12_method_61_code
def yX10_hearsAll : MethodName := ⟨RX10, "hearsAll", "()V"⟩
abbrev cX10_laysNow : ByteArray := prog_12_method_62_code
def yX10_laysNow : MethodName := ⟨RX10, "laysNow", "()V"⟩
abbrev cX10_heardOf : ByteArray := prog_12_method_63_code
def yX10_heardOf : MethodName := ⟨RX10, "heardOf", "(I)I"⟩
abbrev cX10_isServedIn : ByteArray := prog_12_method_64_code
def yX10_isServedIn : MethodName := ⟨RX10, "isServedIn", "(II)Z"⟩
abbrev cX10_servedNow : ByteArray := prog_12_method_65_code
def yX10_servedNow : MethodName := ⟨RX10, "servedNow", "()I"⟩
abbrev cX10_incomeNow : ByteArray := prog_12_method_66_code
def yX10_incomeNow : MethodName := ⟨RX10, "incomeNow", "()I"⟩
abbrev cX10_flight : ByteArray := prog_12_method_67_code
def yX10_flight : MethodName := ⟨RX10, "flight", "(II)I"⟩
abbrev cX10_member : ByteArray := prog_12_method_68_code
def yX10_member : MethodName := ⟨RX10, "member", "(II)I"⟩
abbrev cX10_lamps : ByteArray := prog_12_method_69_code
def yX10_lamps : MethodName := ⟨RX10, "lamps", "()I"⟩
abbrev cX10_at : ByteArray := prog_12_method_70_code
def yX10_at : MethodName := ⟨RX10, "at", "(II)I"⟩
abbrev cX10_heads : ByteArray := prog_12_method_71_code
def yX10_heads : MethodName := ⟨RX10, "heads", "(II)I"⟩
abbrev cX10_outOf : ByteArray := prog_12_method_72_code
def yX10_outOf : MethodName := ⟨RX10, "outOf", "(I)I"⟩
abbrev cX10_out : ByteArray := prog_12_method_73_code
def yX10_out : MethodName := ⟨RX10, "out", "(I)I"⟩
abbrev cX10_bends : ByteArray := prog_12_method_74_code
def yX10_bends : MethodName := ⟨RX10, "bends", "(I)I"⟩
abbrev cX10_wayOf : ByteArray := prog_12_method_75_code
def yX10_wayOf : MethodName := ⟨RX10, "wayOf", "(I)I"⟩
abbrev cX10_way : ByteArray := prog_12_method_76_code
def yX10_way : MethodName := ⟨RX10, "way", "(I)I"⟩
abbrev cX10_over : ByteArray := prog_12_method_77_code
def yX10_over : MethodName := ⟨RX10, "over", "(I)I"⟩
abbrev cX10_geese : ByteArray := prog_12_method_78_code
def yX10_geese : MethodName := ⟨RX10, "geese", "(II)I"⟩
abbrev cX10_hears : ByteArray := prog_12_method_79_code
def yX10_hears : MethodName := ⟨RX10, "hears", "(II)I"⟩
abbrev cX10_heard : ByteArray := prog_12_method_80_code
def yX10_heard : MethodName := ⟨RX10, "heard", "(I)I"⟩
abbrev cX10_ears : ByteArray := prog_12_method_81_code
def yX10_ears : MethodName := ⟨RX10, "ears", "(I)I"⟩
abbrev cX10_loud : ByteArray := prog_12_method_82_code
def yX10_loud : MethodName := ⟨RX10, "loud", "()I"⟩
abbrev cX10_quiet : ByteArray := prog_12_method_83_code
def yX10_quiet : MethodName := ⟨RX10, "quiet", "()I"⟩
abbrev cX10_served : ByteArray := prog_12_method_84_code
def yX10_served : MethodName := ⟨RX10, "served", "()I"⟩
abbrev cX10_income : ByteArray := prog_12_method_85_code
def yX10_income : MethodName := ⟨RX10, "income", "()I"⟩
abbrev cX10_unpaidNow : ByteArray := prog_12_method_86_code
def yX10_unpaidNow : MethodName := ⟨RX10, "unpaidNow", "()I"⟩
abbrev cX10_unpaid : ByteArray := prog_12_method_87_code
def yX10_unpaid : MethodName := ⟨RX10, "unpaid", "()I"⟩
abbrev cX10_first : ByteArray := prog_12_method_88_code
def yX10_first : MethodName := ⟨RX10, "first", "()I"⟩
abbrev cX10_lacks : ByteArray := prog_12_method_89_code
def yX10_lacks : MethodName := ⟨RX10, "lacks", "()I"⟩
abbrev cX10_near : ByteArray := prog_12_method_90_code
def yX10_near : MethodName := ⟨RX10, "near", "(I)I"⟩
abbrev cX10_lone : ByteArray := prog_12_method_91_code
def yX10_lone : MethodName := ⟨RX10, "lone", "()I"⟩
abbrev cX10_meets : ByteArray := prog_12_method_92_code
def yX10_meets : MethodName := ⟨RX10, "meets", "(II)I"⟩
abbrev cX10_spare : ByteArray := prog_12_method_93_code
def yX10_spare : MethodName := ⟨RX10, "spare", "()I"⟩
abbrev cX10_calls : ByteArray := prog_12_method_94_code
def yX10_calls : MethodName := ⟨RX10, "calls", "(I)I"⟩
abbrev cX10_farthest : ByteArray := prog_12_method_95_code
def yX10_farthest : MethodName := ⟨RX10, "farthest", "(I)I"⟩
abbrev cX10_lampsAre : ByteArray := prog_12_method_96_code
def yX10_lampsAre : MethodName := ⟨RX10, "lampsAre", "(I)V"⟩
abbrev cX10_lampsFrom : ByteArray := prog_12_method_97_code
def yX10_lampsFrom : MethodName := ⟨RX10, "lampsFrom", "(II)V"⟩
abbrev cX10_laysLamps : ByteArray := prog_12_method_98_code
def yX10_laysLamps : MethodName := ⟨RX10, "laysLamps", "()V"⟩
abbrev cX10_isSet : ByteArray := prog_12_method_99_code
def yX10_isSet : MethodName := ⟨RX10, "isSet", "(I)Z"⟩
abbrev cX10_fewest : ByteArray := prog_12_method_100_code
def yX10_fewest : MethodName := ⟨RX10, "fewest", "(I)I"⟩
abbrev cX10_lights : ByteArray := prog_12_method_101_code
def yX10_lights : MethodName := ⟨RX10, "lights", "(I)I"⟩
abbrev cX10_best : ByteArray := prog_12_method_102_code
def yX10_best : MethodName := ⟨RX10, "best", "(I)I"⟩
abbrev cX10_bests : ByteArray := prog_12_method_103_code
def yX10_bests : MethodName := ⟨RX10, "bests", "(I)I"⟩
abbrev cX10_most : ByteArray := prog_12_method_104_code
def yX10_most : MethodName := ⟨RX10, "most", "(I)I"⟩
abbrev cX10_otherwise : ByteArray := prog_12_method_105_code
def yX10_otherwise : MethodName := ⟨RX10, "otherwise", "(Z)I"⟩
abbrev cX10_more : ByteArray := prog_12_method_106_code
def yX10_more : MethodName := ⟨RX10, "more", "()I"⟩
abbrev cX10_less : ByteArray := prog_12_method_107_code
def yX10_less : MethodName := ⟨RX10, "less", "()I"⟩
abbrev cX10_incomeBy : ByteArray := prog_12_method_108_code
def yX10_incomeBy : MethodName := ⟨RX10, "incomeBy", "(I)I"⟩
abbrev cX10_by : ByteArray := prog_12_method_109_code
def yX10_by : MethodName := ⟨RX10, "by", "(I)I"⟩
abbrev cX10_law : ByteArray := prog_12_method_110_code
def yX10_law : MethodName := ⟨RX10, "law", "()I"⟩
abbrev cX10_whyNotLaws : ByteArray := prog_12_method_111_code
def yX10_whyNotLaws : MethodName := ⟨RX10, "whyNotLaws", "(I)I"⟩
abbrev cX10_isByLaw : ByteArray := prog_12_method_112_code
def yX10_isByLaw : MethodName := ⟨RX10, "isByLaw", "(II)Z"⟩
abbrev cX10_lawsOf : ByteArray := prog_12_method_113_code
def yX10_lawsOf : MethodName := ⟨RX10, "lawsOf", "(I)I"⟩
abbrev cX10_laws : ByteArray := prog_12_method_114_code
def yX10_laws : MethodName := ⟨RX10, "laws", "(I)I"⟩
abbrev cX10_ask : ByteArray := prog_12_method_115_code
def yX10_ask : MethodName := ⟨RX10, "ask", "(I)I"⟩
abbrev cX10_whyNotBegan : ByteArray := prog_12_method_116_code
def yX10_whyNotBegan : MethodName := ⟨RX10, "whyNotBegan", "(I)I"⟩
abbrev cX10_hasHeard : ByteArray := prog_12_method_117_code
def yX10_hasHeard : MethodName := ⟨RX10, "hasHeard", "(I)Z"⟩
abbrev cX10_laysBegan : ByteArray := prog_12_method_118_code
def yX10_laysBegan : MethodName := ⟨RX10, "laysBegan", "(I)V"⟩
abbrev cX10_began : ByteArray := prog_12_method_119_code
def yX10_began : MethodName := ⟨RX10, "began", "(I)I"⟩
abbrev cX10_spots : ByteArray := prog_12_method_120_code
def yX10_spots : MethodName := ⟨RX10, "spots", "(I)I"⟩
abbrev cX10_laysWho : ByteArray := prog_12_method_121_code
def yX10_laysWho : MethodName := ⟨RX10, "laysWho", "(I)V"⟩
abbrev cX10_who : ByteArray := prog_12_method_122_code
def yX10_who : MethodName := ⟨RX10, "who", "(I)I"⟩
abbrev cX10_leaves : ByteArray := prog_12_method_123_code
def yX10_leaves : MethodName := ⟨RX10, "leaves", "(I)I"⟩
abbrev cX10_common : ByteArray := prog_12_method_124_code
def yX10_common : MethodName := ⟨RX10, "common", "(II)I"⟩
abbrev cX10_part : ByteArray := prog_12_method_125_code
def yX10_part : MethodName := ⟨RX10, "part", "(III)I"⟩
abbrev cX10_odds : ByteArray := prog_12_method_126_code
def yX10_odds : MethodName := ⟨RX10, "odds", "(III)I"⟩
abbrev cX10_isLess : ByteArray := prog_12_method_127_code
def yX10_isLess : MethodName := ⟨RX10, "isLess", "()Z"⟩
abbrev cX10_homesFrom : ByteArray := prog_12_method_128_code
def yX10_homesFrom : MethodName := ⟨RX10, "homesFrom", "(III)V"⟩
abbrev cX10_laysHomes : ByteArray := prog_12_method_129_code
def yX10_laysHomes : MethodName := ⟨RX10, "laysHomes", "()V"⟩
abbrev cX10_homes : ByteArray := prog_12_method_130_code
def yX10_homes : MethodName := ⟨RX10, "homes", "()I"⟩
abbrev cX10_home : ByteArray := prog_12_method_131_code
def yX10_home : MethodName := ⟨RX10, "home", "(I)I"⟩
abbrev cX10_swapsOf : ByteArray := prog_12_method_132_code
def yX10_swapsOf : MethodName := ⟨RX10, "swapsOf", "()I"⟩
abbrev cX10_swaps : ByteArray := prog_12_method_133_code
def yX10_swaps : MethodName := ⟨RX10, "swaps", "()I"⟩
abbrev cX10_swap : ByteArray := prog_12_method_134_code
def yX10_swap : MethodName := ⟨RX10, "swap", "()I"⟩
abbrev cX10_price : ByteArray := prog_12_method_135_code
def yX10_price : MethodName := ⟨RX10, "price", "(I)I"⟩
abbrev cX10_wantedAt : ByteArray := prog_12_method_136_code
def yX10_wantedAt : MethodName := ⟨RX10, "wantedAt", "(I)I"⟩
abbrev cX10_cutsFrom : ByteArray := prog_12_method_137_code
def yX10_cutsFrom : MethodName := ⟨RX10, "cutsFrom", "(III)V"⟩
abbrev cX10_waysOf : ByteArray := prog_12_method_138_code
def yX10_waysOf : MethodName := ⟨RX10, "waysOf", "(I)I"⟩
abbrev cX10_cut_ : ByteArray := prog_12_method_139_code
def yX10_cut_ : MethodName := ⟨RX10, "cut", "(II)I"⟩
abbrev cX10_hasBy : ByteArray := prog_12_method_140_code
def yX10_hasBy : MethodName := ⟨RX10, "hasBy", "(IIIII)I"⟩
abbrev cX10_rests : ByteArray := prog_12_method_141_code
def yX10_rests : MethodName := ⟨RX10, "rests", "(II)I"⟩
abbrev cX10_has : ByteArray := prog_12_method_142_code
def yX10_has : MethodName := ⟨RX10, "has", "(IIII)I"⟩
abbrev cX10_fogAll : ByteArray := prog_12_method_143_code
def yX10_fogAll : MethodName := ⟨RX10, "fogAll", "()I"⟩
abbrev cX10_fogWeight : ByteArray := prog_12_method_144_code
def yX10_fogWeight : MethodName := ⟨RX10, "fogWeight", "(I)I"⟩
abbrev cX10_fogs : ByteArray := prog_12_method_145_code
def yX10_fogs : MethodName := ⟨RX10, "fogs", "(I)I"⟩
abbrev cX10_chance : ByteArray := prog_12_method_146_code
def yX10_chance : MethodName := ⟨RX10, "chance", "(II)I"⟩
abbrev cX10_mean : ByteArray := prog_12_method_147_code
def yX10_mean : MethodName := ⟨RX10, "mean", "(I)I"⟩
abbrev cX10_flown : ByteArray := prog_12_method_148_code
def yX10_flown : MethodName := ⟨RX10, "flown", "(II)I"⟩
abbrev cX10_drawnFog : ByteArray := prog_12_method_149_code
def yX10_drawnFog : MethodName := ⟨RX10, "drawnFog", "(J)I"⟩
abbrev cX10_laysDrawn : ByteArray := prog_12_method_150_code
def yX10_laysDrawn : MethodName := ⟨RX10, "laysDrawn", "(J)V"⟩
abbrev cX10_isSeed : ByteArray := prog_12_method_151_code
def yX10_isSeed : MethodName := ⟨RX10, "isSeed", "(I)Z"⟩
abbrev cX10_drawn : ByteArray := prog_12_method_152_code
def yX10_drawn : MethodName := ⟨RX10, "drawn", "(II)I"⟩
abbrev cX10_luck : ByteArray := prog_12_method_153_code
def yX10_luck : MethodName := ⟨RX10, "luck", "(III)I"⟩
abbrev cX10_acts : ByteArray := prog_12_method_154_code
def yX10_acts : MethodName := ⟨RX10, "acts", "(III)V"⟩
abbrev cX10_light : ByteArray := prog_12_method_155_code
def yX10_light : MethodName := ⟨RX10, "light", "(II)I"⟩
abbrev cX10_turn : ByteArray := prog_12_method_156_code
def yX10_turn : MethodName := ⟨RX10, "turn", "(II)I"⟩
abbrev cX10_undo : ByteArray := prog_12_method_157_code
def yX10_undo : MethodName := ⟨RX10, "undo", "()I"⟩
abbrev cX10_anew : ByteArray := prog_12_method_158_code
def yX10_anew : MethodName := ⟨RX10, "anew", "()I"⟩
abbrev cX10_rate : ByteArray := prog_12_method_159_code
def yX10_rate : MethodName := ⟨RX10, "rate", "(II)I"⟩
abbrev cX10_count : ByteArray := prog_12_method_160_code
def yX10_count : MethodName := ⟨RX10, "count", "(I)I"⟩
abbrev cX10_image : ByteArray := prog_12_method_161_code
def yX10_image : MethodName := ⟨RX10, "image", "(I)I"⟩
abbrev cX10_back : ByteArray := prog_12_method_162_code
def yX10_back : MethodName := ⟨RX10, "back", "(I)I"⟩
def RJx145de : String := "java/io/Serializable"
def RJx9f9b0 : String := "java/lang/CharSequence"
def RJxb160c : String := "java/lang/Comparable"
def RJ6 : String := "java/lang/Integer"
abbrev cJ6_bitCount_0f7a4 : ByteArray := prog_13_method_49_code
def yJ6_bitCount_0f7a4 : MethodName := ⟨RJ6, "bitCount", "(I)I"⟩
def RJ9 : String := "java/lang/Math"
abbrev cJ9_abs_0f7a4 : ByteArray := prog_14_method_59_code
def yJ9_abs_0f7a4 : MethodName := ⟨RJ9, "abs", "(I)I"⟩
abbrev cJ9_max_7cf53 : ByteArray := prog_14_method_65_code
def yJ9_max_7cf53 : MethodName := ⟨RJ9, "max", "(II)I"⟩
abbrev cJ9_min_7cf53 : ByteArray := prog_14_method_69_code
def yJ9_min_7cf53 : MethodName := ⟨RJ9, "min", "(II)I"⟩
def RJ0 : String := "java/lang/String"
abbrev cJ0_length_8abf5 : ByteArray := prog_15_method_54_code
def yJ0_length_8abf5 : MethodName := ⟨RJ0, "length", "()I"⟩
abbrev cJ0_charAt_5068e : ByteArray := prog_15_method_56_code
def yJ0_charAt_5068e : MethodName := ⟨RJ0, "charAt", "(I)C"⟩
abbrev cJ0_coder_7d493 : ByteArray := prog_15_method_152_code
def yJ0_coder_7d493 : MethodName := ⟨RJ0, "coder", "()B"⟩
abbrev cJ0_isLatin1_aae02 : ByteArray := prog_15_method_154_code
def yJ0_isLatin1_aae02 : MethodName := ⟨RJ0, "isLatin1", "()Z"⟩
abbrev cJ0_checkIndex_df160 : ByteArray := prog_15_method_155_code
def yJ0_checkIndex_df160 : MethodName := ⟨RJ0, "checkIndex", "(II)V"⟩
def RJ1 : String := "java/lang/StringLatin1"
abbrev cJ1_charAt_3b067 : ByteArray := prog_16_method_2_code
def yJ1_charAt_3b067 : MethodName := ⟨RJ1, "charAt", "([BI)C"⟩
def RJ2 : String := "java/lang/StringUTF16"
abbrev cJ2_getChar_3b067 : ByteArray := prog_17_method_5_code
def yJ2_getChar_3b067 : MethodName := ⟨RJ2, "getChar", "([BI)C"⟩
abbrev cJ2_length_9d52b : ByteArray := prog_17_method_6_code
def yJ2_length_9d52b : MethodName := ⟨RJ2, "length", "([B)I"⟩
abbrev cJ2_charAt_3b067 : ByteArray := prog_17_method_83_code
def yJ2_charAt_3b067 : MethodName := ⟨RJ2, "charAt", "([BI)C"⟩
abbrev cJ2_checkIndex_2214a : ByteArray := prog_17_method_91_code
def yJ2_checkIndex_2214a : MethodName := ⟨RJ2, "checkIndex", "(I[B)V"⟩
def RJ10 : String := "java/lang/System"
def RJxfd54e : String := "java/lang/constant/Constable"
def RJx3cf43 : String := "java/lang/constant/ConstantDesc"
def RJ7 : String := "java/util/Arrays"
abbrev cJ7_fill_d0a16 : ByteArray := prog_19_method_101_code
def yJ7_fill_d0a16 : MethodName := ⟨RJ7, "fill", "([JJ)V"⟩
abbrev cJ7_fill_53178 : ByteArray := prog_19_method_103_code
def yJ7_fill_53178 : MethodName := ⟨RJ7, "fill", "([II)V"⟩
def RJ3 : String := "jdk/internal/util/Preconditions"
abbrev cJ3_checkIndex_8e157 : ByteArray := prog_20_method_11_code
def yJ3_checkIndex_8e157 : MethodName := ⟨RJ3, "checkIndex", "(IILjava/util/function/BiFunction;)I"⟩
def RL : String := "GooseSharesLaw"
abbrev cL_law : ByteArray := code
def yL_law : MethodName := ⟨RL, "law", "([I)Z"⟩
abbrev vwCl : List vw_C := [(RX0, TX0, 4), (RX1, TX1, 2), (RX2, TX2, 4), (RX3, TX3, 20), (RX4, TX4, 5), (RX5, TX5, 7), (RX6, TX6, 3), (RX7, TX7, 10), (RX8, TX8, 2), (RX9, TX9, 11), (RX10, TX10, 48)]
def gW : List Cond := lw_tbl.filter goodWord
theorem gW_good : ∀ w ∈ gW, (w.onTables && w.keeps) = true ∨ ∃ ty, w = .arrayClass ty := fun w h => good_of_word (List.mem_filter.mp h).2
theorem gm {w : Cond} (h : w ∈ lw_tbl) (g : goodWord w = true) : w ∈ gW := List.mem_filter.mpr ⟨h, g⟩
theorem tm_1 {w : Cond} (i : Nat) (h : tables_1_1[i]? = some w) : w ∈ lw_tbl := List.mem_append_right _ (show w ∈ tables_1 from List.mem_append_left _ (List.mem_of_getElem? h))
theorem tm_2 {w : Cond} (i : Nat) (h : tables_1_2[i]? = some w) : w ∈ lw_tbl := List.mem_append_right _ (show w ∈ tables_1 from List.mem_append_right _ (List.mem_append_left _ (List.mem_of_getElem? h)))
theorem tm_3 {w : Cond} (i : Nat) (h : tables_1_3[i]? = some w) : w ∈ lw_tbl := List.mem_append_right _ (show w ∈ tables_1 from List.mem_append_right _ (List.mem_append_right _ (List.mem_append_left _ (List.mem_of_getElem? h))))
theorem tm_4 {w : Cond} (i : Nat) (h : tables_1_4[i]? = some w) : w ∈ lw_tbl := List.mem_append_right _ (show w ∈ tables_1 from List.mem_append_right _ (List.mem_append_right _ (List.mem_append_right _ (List.mem_append_left _ (List.mem_of_getElem? h)))))
theorem tm_5 {w : Cond} (i : Nat) (h : tables_1_5[i]? = some w) : w ∈ lw_tbl := List.mem_append_right _ (show w ∈ tables_1 from List.mem_append_right _ (List.mem_append_right _ (List.mem_append_right _ (List.mem_append_right _ (List.mem_append_left _ (List.mem_of_getElem? h))))))
theorem tm_6 {w : Cond} (i : Nat) (h : tables_1_6[i]? = some w) : w ∈ lw_tbl := List.mem_append_right _ (show w ∈ tables_1 from List.mem_append_right _ (List.mem_append_right _ (List.mem_append_right _ (List.mem_append_right _ (List.mem_append_right _ (List.mem_append_left _ (List.mem_of_getElem? h)))))))
theorem tm_7 {w : Cond} (i : Nat) (h : tables_1_7[i]? = some w) : w ∈ lw_tbl := List.mem_append_right _ (show w ∈ tables_1 from List.mem_append_right _ (List.mem_append_right _ (List.mem_append_right _ (List.mem_append_right _ (List.mem_append_right _ (List.mem_append_right _ (List.mem_append_left _ (List.mem_of_getElem? h))))))))
theorem tm_8 {w : Cond} (i : Nat) (h : tables_1_8[i]? = some w) : w ∈ lw_tbl := List.mem_append_right _ (show w ∈ tables_1 from List.mem_append_right _ (List.mem_append_right _ (List.mem_append_right _ (List.mem_append_right _ (List.mem_append_right _ (List.mem_append_right _ (List.mem_append_right _ (List.mem_append_left _ (List.mem_of_getElem? h)))))))))
theorem tm_9 {w : Cond} (i : Nat) (h : tables_1_9[i]? = some w) : w ∈ lw_tbl := List.mem_append_right _ (show w ∈ tables_1 from List.mem_append_right _ (List.mem_append_right _ (List.mem_append_right _ (List.mem_append_right _ (List.mem_append_right _ (List.mem_append_right _ (List.mem_append_right _ (List.mem_append_right _ (List.mem_of_getElem? h)))))))))
theorem gmP {w : Cond} (i : Nat) (h : (k2_sels lw_privs)[i]? = some w) : w ∈ lw_tbl := List.mem_append_left _ (List.mem_of_getElem? h)
def gNest : List (String × Nat × MethodName × String) := [(RX9, 9, yX8_init, "GooseShares"), (RX9, 18, yX3_init, "GooseShares"), (RX9, 85, yX6_init, "GooseShares"), (RX0, 85, yX9_hasBit, "GooseShares"), (RX1, 25, yX9_hasBit, "GooseShares"), (RX2, 66, yX9_hasBit, "GooseShares"), (RX3, 106, yX9_hasBit, "GooseShares"), (RX4, 99, yX9_hasBit, "GooseShares"), (RX7, 53, yX9_hasBit, "GooseShares")]
theorem gInr {big : List Cond} (ws : List Cond) (ps : List Nat) (hp : ws = ps.filterMap (fun i => big[i]?)) : ∀ w ∈ ws, w ∈ big := by
  intro w hw
  rw [hp] at hw
  obtain ⟨i, -, hi⟩ := List.mem_filterMap.mp hw
  exact List.mem_of_getElem? hi
theorem iX0 : ∀ w ∈ u_ws RX0 TX0 4, w ∈ gW := fun w h => gm (gInr (u_ws RX0 TX0 4) [368, 370, 372, 374] (by decide +kernel) w h) (List.all_eq_true.mp (by decide +kernel : (u_ws RX0 TX0 4).all goodWord = true) w h)
theorem iX1 : ∀ w ∈ u_ws RX1 TX1 2, w ∈ gW := fun w h => gm (gInr (u_ws RX1 TX1 2) [405, 407] (by decide +kernel) w h) (List.all_eq_true.mp (by decide +kernel : (u_ws RX1 TX1 2).all goodWord = true) w h)
theorem iX2 : ∀ w ∈ u_ws RX2 TX2 4, w ∈ gW := fun w h => gm (gInr (u_ws RX2 TX2 4) [388, 390, 392, 394] (by decide +kernel) w h) (List.all_eq_true.mp (by decide +kernel : (u_ws RX2 TX2 4).all goodWord = true) w h)
theorem iX3 : ∀ w ∈ u_ws RX3 TX3 20, w ∈ gW := fun w h => gm (gInr (u_ws RX3 TX3 20) [220, 222, 224, 226, 228, 230, 232, 234, 236, 238, 240, 242, 244, 246, 248, 250, 252, 254, 256, 258] (by decide +kernel) w h) (List.all_eq_true.mp (by decide +kernel : (u_ws RX3 TX3 20).all goodWord = true) w h)
theorem iX4 : ∀ w ∈ u_ws RX4 TX4 5, w ∈ gW := fun w h => gm (gInr (u_ws RX4 TX4 5) [347, 349, 351, 353, 355] (by decide +kernel) w h) (List.all_eq_true.mp (by decide +kernel : (u_ws RX4 TX4 5).all goodWord = true) w h)
theorem iX5 : ∀ w ∈ u_ws RX5 TX5 7, w ∈ gW := fun w h => gm (gInr (u_ws RX5 TX5 7) [278, 280, 282, 284, 286, 288, 290] (by decide +kernel) w h) (List.all_eq_true.mp (by decide +kernel : (u_ws RX5 TX5 7).all goodWord = true) w h)
theorem iX6 : ∀ w ∈ u_ws RX6 TX6 3, w ∈ gW := fun w h => gm (gInr (u_ws RX6 TX6 3) [423, 425, 427] (by decide +kernel) w h) (List.all_eq_true.mp (by decide +kernel : (u_ws RX6 TX6 3).all goodWord = true) w h)
theorem iX7 : ∀ w ∈ u_ws RX7 TX7 10, w ∈ gW := fun w h => gm (gInr (u_ws RX7 TX7 10) [313, 315, 317, 319, 321, 323, 325, 327, 329, 331] (by decide +kernel) w h) (List.all_eq_true.mp (by decide +kernel : (u_ws RX7 TX7 10).all goodWord = true) w h)
theorem iX8 : ∀ w ∈ u_ws RX8 TX8 2, w ∈ gW := fun w h => gm (gInr (u_ws RX8 TX8 2) [133, 135] (by decide +kernel) w h) (List.all_eq_true.mp (by decide +kernel : (u_ws RX8 TX8 2).all goodWord = true) w h)
theorem iX9 : ∀ w ∈ u_ws RX9 TX9 11, w ∈ gW := fun w h => gm (gInr (u_ws RX9 TX9 11) [443, 445, 447, 449, 451, 453, 455, 457, 459, 461, 463] (by decide +kernel) w h) (List.all_eq_true.mp (by decide +kernel : (u_ws RX9 TX9 11).all goodWord = true) w h)
theorem iX10 : ∀ w ∈ u_ws RX10 TX10 48, w ∈ gW := fun w h => gm (gInr (u_ws RX10 TX10 48) [1425, 1427, 1429, 1431, 1433, 1435, 1437, 1439, 1441, 1443, 1445, 1447, 1449, 1451, 1453, 1455, 1457, 1459, 1461, 1463, 1465, 1467, 1469, 1471, 1473, 1475, 1477, 1479, 1481, 1483, 1485, 1487, 1489, 1491, 1493, 1495, 1497, 1499, 1501, 1503, 1505, 1507, 1509, 1511, 1513, 1515, 1517, 1519] (by decide +kernel) w h) (List.all_eq_true.mp (by decide +kernel : (u_ws RX10 TX10 48).all goodWord = true) w h)
theorem dvX0 : ∀ j, j < 4 → defaultValue (tyX0 j) = vp_V [.null, .null, .null, .null] j := by decide +kernel
theorem dvX1 : ∀ j, j < 2 → defaultValue (tyX1 j) = vp_V [.null, .null] j := by decide +kernel
theorem dvX2 : ∀ j, j < 4 → defaultValue (tyX2 j) = vp_V [.null, .null, .null, .null] j := by decide +kernel
theorem dvX3 : ∀ j, j < 20 → defaultValue (tyX3 j) = vp_V [.int (0 : Int32), .int (0 : Int32), .int (0 : Int32), .int (0 : Int32), .int (0 : Int32), .int (0 : Int32), .int (0 : Int32), .int (0 : Int32), .int (0 : Int32), .int (0 : Int32), .null, .null, .null, .null, .null, .null, .null, .null, .null, .null] j := by decide +kernel
theorem dvX4 : ∀ j, j < 5 → defaultValue (tyX4 j) = vp_V [.null, .null, .null, .null, .int (0 : Int32)] j := by decide +kernel
theorem dvX5 : ∀ j, j < 7 → defaultValue (tyX5 j) = vp_V [.null, .null, .int (0 : Int32), .int (0 : Int32), .int (0 : Int32), .int (0 : Int32), .int (0 : Int32)] j := by decide +kernel
theorem dvX6 : ∀ j, j < 3 → defaultValue (tyX6 j) = vp_V [.null, .int (0 : Int32), .int (0 : Int32)] j := by decide +kernel
theorem dvX7 : ∀ j, j < 10 → defaultValue (tyX7 j) = vp_V [.null, .null, .null, .null, .null, .int (0 : Int32), .int (0 : Int32), .int (0 : Int32), .int (0 : Int32), .int (0 : Int32)] j := by decide +kernel
theorem dvX8 : ∀ j, j < 2 → defaultValue (tyX8 j) = vp_V [.null, .int (0 : Int32)] j := by decide +kernel
theorem dvX9 : ∀ j, j < 11 → defaultValue (tyX9 j) = vp_V [.null, .null, .null, .null, .null, .null, .null, .null, .null, .null, .null] j := by decide +kernel
theorem dvX10 : ∀ j, j < 48 → defaultValue (tyX10 j) = vp_V [.int (0 : Int32), .null, .null, .null, .null, .null, .int (0 : Int32), .int (0 : Int32), .int (0 : Int32), .int (0 : Int32), .int (0 : Int32), .long (0 : Int64), .int (0 : Int32), .int (0 : Int32), .int (0 : Int32), .int (0 : Int32), .null, .null, .null, .null, .null, .null, .int (0 : Int32), .int (0 : Int32), .int (0 : Int32), .null, .null, .null, .null, .null, .null, .null, .null, .null, .null, .null, .int (0 : Int32), .int (0 : Int32), .null, .int (0 : Int32), .int (0 : Int32), .null, .null, .int (0 : Int32), .int (0 : Int32), .int (0 : Int32), .int (0 : Int32), .int (0 : Int32)] j := by decide +kernel
end
section
/-! plain facts on numbers and arrays, to paste: each family by itself; over the kit's rows on nI and upd -/
/-! ===== order of ints, in all its forms, and through longs ===== -/
theorem fa_lt (a b : Int32) : a < b ↔ a.toInt < b.toInt := Int32.lt_iff_toInt_lt
theorem fa_le (a b : Int32) : a ≤ b ↔ a.toInt ≤ b.toInt := Int32.le_iff_toInt_le
theorem fa_eq (a b : Int32) : a = b ↔ a.toInt = b.toInt := Int32.toInt_inj.symm
theorem fa_lt64 (a b : Int64) : a < b ↔ a.toInt < b.toInt := Int64.lt_iff_toInt_lt
theorem fa_le64 (a b : Int64) : a ≤ b ↔ a.toInt ≤ b.toInt := Int64.le_iff_toInt_le
theorem fa_eq64 (a b : Int64) : a = b ↔ a.toInt = b.toInt := Int64.toInt_inj.symm
/-- a comparison of two ints taken as longs -/
theorem fa_wide_lt (a b : Int32) : a.toInt64 < b.toInt64 ↔ a < b := by rw [fa_lt64, fa_lt, Int32.toInt_toInt64, Int32.toInt_toInt64]
theorem fa_wide_le (a b : Int32) : a.toInt64 ≤ b.toInt64 ↔ a ≤ b := by rw [fa_le64, fa_le, Int32.toInt_toInt64, Int32.toInt_toInt64]
theorem fa_wide_eq (a b : Int32) : a.toInt64 = b.toInt64 ↔ a = b := by rw [fa_eq64, fa_eq, Int32.toInt_toInt64, Int32.toInt_toInt64]
/-- one strict comparison gives all the others -/
theorem fa_of_lt {a b : Int32} (h : a < b) : a ≤ b ∧ ¬ b ≤ a ∧ ¬ b < a ∧ a ≠ b ∧ b ≠ a := by
  rw [fa_lt] at h
  refine ⟨?_, ?_, ?_, ?_, ?_⟩
  · rw [fa_le]; omega
  · rw [fa_le]; omega
  · rw [fa_lt]; omega
  · intro e; rw [fa_eq] at e; omega
  · intro e; rw [fa_eq] at e; omega
theorem fa_of_nlt {a b : Int32} (h : ¬ a < b) : b ≤ a := by
  rw [fa_lt] at h
  rw [fa_le]
  omega
theorem fa_of_nle {a b : Int32} (h : ¬ a ≤ b) : b < a := by
  rw [fa_le] at h
  rw [fa_lt]
  omega
theorem fa_le_ne {a b : Int32} (h : a ≤ b) (h2 : a ≠ b) : a < b := by
  rw [fa_le] at h
  rw [fa_lt]
  have h3 : a.toInt ≠ b.toInt := fun e => h2 ((fa_eq a b).mpr e)
  omega
theorem fa_three (a b : Int32) : a < b ∨ a = b ∨ b < a := by
  rw [fa_lt, fa_lt, fa_eq]
  omega
theorem fa_trans {a b c : Int32} (h : a < b) (h2 : b ≤ c) : a < c := by
  rw [fa_lt] at *
  rw [fa_le] at h2
  omega
/-! ===== small literals as numbers ===== -/
theorem fa_lit (n : Nat) : (OfNat.ofNat n : Int32) = nI n := rfl
theorem fa_litL (n : Nat) : (OfNat.ofNat n : Int64) = lN n := rfl
/-! ===== bits of a number: 'or', masks, one bit ===== -/
theorem fa_and (a b : Nat) : nI a &&& nI b = nI (a &&& b) := by
  apply Int32.toBitVec_inj.1
  show BitVec.ofNat 32 a &&& BitVec.ofNat 32 b = BitVec.ofNat 32 (a &&& b)
  apply BitVec.eq_of_getLsbD_eq
  intro i hi
  simp [hi]
theorem fa_or (a b : Nat) : nI a ||| nI b = nI (a ||| b) := by
  apply Int32.toBitVec_inj.1
  show BitVec.ofNat 32 a ||| BitVec.ofNat 32 b = BitVec.ofNat 32 (a ||| b)
  apply BitVec.eq_of_getLsbD_eq
  intro i hi
  simp [hi]
/-- a remainder by a power of two, as a mask -/
theorem fa_mask (n k : Nat) : nI n &&& nI (2 ^ k - 1) = nI (n % 2 ^ k) := by rw [fa_and, Nat.and_two_pow_sub_one_eq_mod]
/-- 'or' of a high part and a low one that don't meet is their sum -/
theorem fa_or_sum {a k : Nat} (b : Nat) (h : a < 2 ^ k) : nI (2 ^ k * b) ||| nI a = nI (2 ^ k * b + a) := by rw [fa_or, Nat.two_pow_add_eq_or_of_lt h]
/-- one bit, by 'and' with a power of two -/
theorem fa_bit {n j : Nat} (hj : j < 31) : nI n &&& nI (2 ^ j) = 0 ↔ n.testBit j = false := by
  have h2 : (2 : Nat) ^ j < 2 ^ 31 := Nat.pow_lt_pow_right (by decide) hj
  have hle : n &&& 2 ^ j ≤ 2 ^ j := Nat.and_le_right
  have e : n &&& 2 ^ j = 0 ↔ n.testBit j = false := by
    constructor
    · intro h
      have h1 : (n &&& 2 ^ j).testBit j = false := by rw [h]; simp
      rw [Nat.testBit_and] at h1
      first | simpa using h1 | simpa [Nat.testBit_two_pow_self] using h1 | simpa [Nat.testBit_two_pow] using h1
    · intro h
      apply Nat.eq_of_testBit_eq
      intro i
      rw [Nat.testBit_and]
      by_cases hi : j = i
      · subst hi; simp [h]
      · first | (simp [Nat.testBit_two_pow, hi]; done) | (simp [Nat.testBit_two_pow_of_ne hi]; done)
  rw [fa_and]
  constructor
  · intro h
    apply e.mp
    rcases Nat.eq_zero_or_pos (n &&& 2 ^ j) with z | z
    · exact z
    · exact absurd h (nI_ne0 z (Nat.lt_of_le_of_lt hle h2))
  · intro h
    rw [e.mpr h]; exact nI_0
/-- a remainder by a power of two of a number that isn't negative, as Java divides -/
theorem fa_rem {a k : Nat} (ha : a < 2 ^ 31) (hk : k < 31) : nI a - nI a / nI (2 ^ k) * nI (2 ^ k) = nI (a % 2 ^ k) := pk_rem ha (Nat.two_pow_pos k) (Nat.pow_lt_pow_right (by decide) hk)
/-! ===== cuts to a byte, a short ===== -/
theorem fa_byte_xor (x y : Int32) : (x ^^^ y).toInt8 = x.toInt8 ^^^ y.toInt8 := by
  apply Int8.toBitVec_inj.1
  apply BitVec.eq_of_getLsbD_eq
  intro i hi
  first | (simp [hi]; done) | (simp [hi, BitVec.getLsbD_setWidth, BitVec.getLsbD_signExtend]; done)
theorem fa_short_xor (x y : Int32) : (x ^^^ y).toInt16 = x.toInt16 ^^^ y.toInt16 := by
  apply Int16.toBitVec_inj.1
  apply BitVec.eq_of_getLsbD_eq
  intro i hi
  first | (simp [hi]; done) | (simp [hi, BitVec.getLsbD_setWidth, BitVec.getLsbD_signExtend]; done)
/-- the cut to a byte sees the low byte alone -/
theorem fa_byte_low (x : Int32) : (x &&& 255).toInt8 = x.toInt8 := by
  apply Int8.toBitVec_inj.1
  apply BitVec.eq_of_getLsbD_eq
  intro i hi
  have h2 : (255 : Int32).toBitVec.getLsbD i = true := by
    have : ∀ j : Fin 8, (255 : Int32).toBitVec.getLsbD j.val = true := by decide +kernel
    exact this ⟨i, hi⟩
  have h4 : (x &&& 255).toBitVec.getLsbD i = x.toBitVec.getLsbD i := by
    show (x.toBitVec &&& (255 : Int32).toBitVec).getLsbD i = _
    rw [BitVec.getLsbD_and, h2, Bool.and_true]
  have h3 : i < 32 := by omega
  first
    | (show (((x &&& 255).toBitVec).signExtend 8).getLsbD i = (x.toBitVec.signExtend 8).getLsbD i; rw [BitVec.getLsbD_signExtend, BitVec.getLsbD_signExtend, if_pos h3, if_pos h3, h4])
    | (show (((x &&& 255).toBitVec).setWidth 8).getLsbD i = (x.toBitVec.setWidth 8).getLsbD i; rw [BitVec.getLsbD_setWidth, BitVec.getLsbD_setWidth, h4])
    | (simp [hi, h3, h4]; done)
theorem fa_short_low (x : Int32) : (x &&& 65535).toInt16 = x.toInt16 := by
  apply Int16.toBitVec_inj.1
  apply BitVec.eq_of_getLsbD_eq
  intro i hi
  have h2 : (65535 : Int32).toBitVec.getLsbD i = true := by
    have : ∀ j : Fin 16, (65535 : Int32).toBitVec.getLsbD j.val = true := by decide +kernel
    exact this ⟨i, hi⟩
  have h4 : (x &&& 65535).toBitVec.getLsbD i = x.toBitVec.getLsbD i := by
    show (x.toBitVec &&& (65535 : Int32).toBitVec).getLsbD i = _
    rw [BitVec.getLsbD_and, h2, Bool.and_true]
  have h3 : i < 32 := by omega
  first
    | (show (((x &&& 65535).toBitVec).signExtend 16).getLsbD i = (x.toBitVec.signExtend 16).getLsbD i; rw [BitVec.getLsbD_signExtend, BitVec.getLsbD_signExtend, if_pos h3, if_pos h3, h4])
    | (show (((x &&& 65535).toBitVec).setWidth 16).getLsbD i = (x.toBitVec.setWidth 16).getLsbD i; rw [BitVec.getLsbD_setWidth, BitVec.getLsbD_setWidth, h4])
    | (simp [hi, h3, h4]; done)
/-- a small number is its own byte, its own short -/
theorem fa_byte_small {n : Nat} (h : n < 128) : (nI n).toInt8.toInt32 = nI n := by
  have : ∀ j : Fin 128, (nI j.val).toInt8.toInt32 = nI j.val := by decide +kernel
  exact this ⟨n, h⟩
/-! ===== absolute difference ===== -/
theorem fa_absdiff {a b : Nat} (ha : a < 2 ^ 31) (hb : b < 2 ^ 31) : (if nI a < nI b then nI b - nI a else nI a - nI b) = nI (if a < b then b - a else a - b) := by
  by_cases h : a < b
  · rw [if_pos (nI_lt h hb), if_pos h]
    exact pk_sub (Nat.le_of_lt h)
  · rw [if_neg (nI_nlt (Nat.le_of_not_lt h) ha), if_neg h]
    exact pk_sub (Nat.le_of_not_lt h)
/-! ===== an array behind i stores, a conditional store, a row copied ===== -/
/-- f where k < i, what stood there else -/
def fa_fill {α : Type} (f g : Nat → α) (i : Nat) : Nat → α := fun k => if k < i then f k else g k
theorem fa_fill_0 {α : Type} (f g : Nat → α) : fa_fill f g 0 = g := funext fun k => if_neg (Nat.not_lt_zero k)
theorem fa_fill_in {α : Type} {f g : Nat → α} {i k : Nat} (h : k < i) : fa_fill f g i k = f k := if_pos h
theorem fa_fill_out {α : Type} {f g : Nat → α} {i k : Nat} (h : i ≤ k) : fa_fill f g i k = g k := if_neg (Nat.not_lt.mpr h)
theorem fa_fill_succ (f g : Nat → Int32) (i : Nat) : upd (fa_fill f g i) i (f i) = fa_fill f g (i + 1) := by
  funext k
  by_cases e : k = i
  · subst e
    rw [pk_us]
    exact (if_pos (Nat.lt_succ_self k)).symm
  · rw [pk_un e]
    by_cases h : k < i
    · rw [fa_fill_in h, fa_fill_in (Nat.lt_succ_of_lt h)]
    · rw [fa_fill_out (Nat.le_of_not_lt h), fa_fill_out (by omega)]
/-- a store that changes nothing -/
theorem fa_upd_same {f : Nat → Int32} {i : Nat} {x : Int32} (h : f i = x) : upd f i x = f := by
  funext k
  by_cases e : k = i
  · subst e
    rw [pk_us, h]
  · rw [pk_un e]
/-- a store under a condition, told as one -/
theorem fa_upd_if (c : Prop) [Decidable c] (f : Nat → Int32) (i : Nat) (x : Int32) : (if c then upd f i x else f) = upd f i (if c then x else f i) := by
  by_cases h : c
  · rw [if_pos h, if_pos h]
  · rw [if_neg h, if_neg h, fa_upd_same rfl]
/-- two stores at one place, at two -/
theorem fa_upd_twice (f : Nat → Int32) (i : Nat) (x y : Int32) : upd (upd f i x) i y = upd f i y := by
  funext k
  by_cases e : k = i
  · subst e
    rw [pk_us, pk_us]
  · rw [pk_un e, pk_un e, pk_un e]
theorem fa_upd_swap (f : Nat → Int32) {i j : Nat} (h : i ≠ j) (x y : Int32) : upd (upd f i x) j y = upd (upd f j y) i x := by
  funext k
  by_cases e : k = i
  · subst e
    rw [pk_un h, pk_us, pk_us]
  · by_cases e2 : k = j
    · subst e2
      rw [pk_us, pk_un e, pk_us]
    · rw [pk_un e2, pk_un e, pk_un e, pk_un e2]
/-! ===== the first index with a property; a count ===== -/
/-- the first k < n with p k, n if there is none -/
def fa_first (p : Nat → Bool) : Nat → Nat
  | 0 => 0
  | n + 1 => if fa_first p n < n then fa_first p n else if p n then n else n + 1
theorem fa_first_le (p : Nat → Bool) : ∀ n, fa_first p n ≤ n
  | 0 => Nat.le_refl 0
  | n + 1 => by
    have ih := fa_first_le p n
    unfold fa_first
    split
    · omega
    · split
      · omega
      · omega
theorem fa_first_no (p : Nat → Bool) : ∀ n k, k < fa_first p n → p k = false
  | 0, k, h => absurd h (Nat.not_lt_zero k)
  | n + 1, k, h => by
    have ih := fa_first_no p n
    have hl := fa_first_le p n
    unfold fa_first at h
    split at h
    · exact ih k h
    · rename_i h1
      split at h
      · exact ih k (by omega)
      · rename_i h2
        by_cases e : k = n
        · subst e
          exact Bool.eq_false_iff.mpr h2
        · exact ih k (by omega)
theorem fa_first_yes (p : Nat → Bool) : ∀ n, fa_first p n < n → p (fa_first p n) = true
  | 0, h => absurd h (Nat.not_lt_zero _)
  | n + 1, h => by
    have ih := fa_first_yes p n
    have hl := fa_first_le p n
    unfold fa_first at h ⊢
    split at h
    · rename_i h1
      rw [if_pos h1]
      exact ih h1
    · rename_i h1
      rw [if_neg h1]
      split at h
      · rename_i h2
        rw [if_pos h2]
        exact h2
      · omega
/-- how many k < n have p k -/
def fa_cnt (p : Nat → Bool) : Nat → Nat
  | 0 => 0
  | n + 1 => fa_cnt p n + if p n then 1 else 0
theorem fa_cnt_le (p : Nat → Bool) : ∀ n, fa_cnt p n ≤ n
  | 0 => Nat.le_refl 0
  | n + 1 => by
    have ih := fa_cnt_le p n
    unfold fa_cnt
    split
    · omega
    · omega
theorem fa_cnt_yes {p : Nat → Bool} {n : Nat} (h : p n = true) : fa_cnt p (n + 1) = fa_cnt p n + 1 := by rw [fa_cnt, if_pos h]
theorem fa_cnt_no {p : Nat → Bool} {n : Nat} (h : p n = false) : fa_cnt p (n + 1) = fa_cnt p n := by rw [fa_cnt, if_neg (by rw [h]; decide)]; rfl
theorem fa_cnt_cong {p q : Nat → Bool} : ∀ {n : Nat}, (∀ k, k < n → p k = q k) → fa_cnt p n = fa_cnt q n
  | 0, _ => rfl
  | n + 1, h => by rw [fa_cnt, fa_cnt, fa_cnt_cong (fun k hk => h k (Nat.lt_succ_of_lt hk)), h n (Nat.lt_succ_self n)]
/-! ===== an answer carried into a post; a branch on a boolean answer ===== -/
theorem fa_post {α : Type} {P : α → Prop} {x y : α} (h : x = y) (hp : P y) : P x := h ▸ hp
theorem fa_post2 {α β : Type} {P : α → β → Prop} {x y : α} {u v : β} (h : x = y) (h2 : u = v) (hp : P y v) : P x u := h ▸ h2 ▸ hp
theorem fa_bool {r : Int32} {b : Bool} (h : r = if b then 1 else 0) : (r = 0 ↔ b = false) ∧ (¬ r = 0 ↔ b = true) := by
  subst h
  cases b
  · exact ⟨⟨fun _ => rfl, fun _ => rfl⟩, ⟨fun h => absurd rfl h, fun h => absurd h (by decide)⟩⟩
  · exact ⟨⟨fun h => absurd h (by decide), fun h => absurd h (by decide)⟩, ⟨fun _ => rfl, fun _ => by decide⟩⟩
/-- a boolean's narrowing changes nothing -/
theorem fa_bool_and {r : Int32} (h : r = 0 ∨ r = 1) : r &&& 1 = r := by
  rcases h with rfl | rfl
  · decide
  · decide
theorem fa_bool_prop {c : Prop} [Decidable c] {r : Int32} (h : r = if c then 1 else 0) : (r = 0 ↔ ¬ c) ∧ (¬ r = 0 ↔ c) := by
  subst h
  by_cases hc : c
  · rw [if_pos hc]
    exact ⟨⟨fun h => absurd h (by decide), fun h => absurd hc h⟩, ⟨fun _ => hc, fun _ => by decide⟩⟩
  · rw [if_neg hc]
    exact ⟨⟨fun _ => hc, fun _ => rfl⟩, ⟨fun h => absurd rfl h, fun h => absurd h hc⟩⟩
end
section
/-! THE HEAP AS ONE POOL: addresses L, contents f; every method takes the whole pool and gives it back -/
abbrev gE : Type := (Nat → ClassId) × (Nat → Nat → Nat) × (Nat → ClassId)
abbrev gF : Type := Nat → va_E
abbrev gTy (E : gE) : List (ClassId × FieldType) := [(E.2.2 0, .byte), (E.2.2 1, .int), (E.2.2 2, .long), (E.2.2 3, .boolean), (E.2.2 4, .object "GooseShares$Land"), (E.2.2 5, .object "GooseShares$Row")]
/-- what the tables say, as it goes from call to call -/
def gK (E : gE) (U : State) : Prop := va_K (E.1, E.2.1) vwCl (gTy E) U ∧ (∀ q ∈ gNest, va_Nw (.methodLinkNest q.1 q.2.1 q.2.2.1 q.2.2.2) U) ∧ va_AO "GooseShares$Land" U ∧ va_AO "GooseShares$Row" U
theorem gK.warm {E : gE} {s U : State} (hW : s.WarmedH U.vm) (h : gK E s) : gK E U := ⟨va_K.moved hW.alike h.1, fun q hq => va_Nw.warmM hW (h.2.1 q hq), va_AO.moved hW.alike h.2.2.1, va_AO.moved hW.alike h.2.2.2⟩
theorem gK.blind {E : gE} {U U1 : State} (hv : U.vm = U1.vm) (h : gK E U) : gK E U1 := ⟨va_K.moved (hv ▸ Vm.Alike.refl U.vm) h.1, fun q hq => va_Nw.same rfl hv (h.2.1 q hq), va_AO.moved (hv ▸ Vm.Alike.refl U.vm) h.2.2.1, va_AO.moved (hv ▸ Vm.Alike.refl U.vm) h.2.2.2⟩
def gH (E : gE) (A : Nat → Prop) (L : List Nat) (f : gF) (H0 H : Heap) (locs : List Loc) : Prop := va_P (E.1, E.2.1) vwCl (va_pl L f) H ∧ va_D A (va_pl L f) ∧ va_S A H0 H locs
def gPre (E : gE) (L : List Nat) (f : gF) (sz : Nat) (U : State) : Prop := U.heap.size = sz ∧ va_P (E.1, E.2.1) vwCl (va_pl L f) U.heap ∧ gK E U ∧ va_D (fun _ => True) (va_pl L f)
def gPost (E : gE) (A : Nat → Prop) (u : List Nat × gF) (t : State) : Prop := va_P (E.1, E.2.1) vwCl (va_pl u.1 u.2) t.heap ∧ va_D A (va_pl u.1 u.2)
abbrev gA (L : List Nat) (f : gF) (sz : Nat) : Nat → Prop := va_A (va_pl L f) sz
abbrev gRm (d mc ms : Nat) : Room := { frames := d, cells := mc, slots := ms, locals := 100 * d }
abbrev gQi (E : gE) (A : Nat → Prop) (post : Int32 → List Nat → gF → Prop) : Array Value → State → Outcome → State → Prop := va_Qi (fun r (u : List Nat × gF) => post r u.1 u.2) (gPost E A) A
abbrev gQv (E : gE) (A : Nat → Prop) (post : List Nat → gF → Prop) : Array Value → State → Outcome → State → Prop := va_Qv (fun (u : List Nat × gF) => post u.1 u.2) (gPost E A) A
/-- a method's contract: from the pool (L, f) it returns an int r with the pool (L', f'), post r L' f' -/
def gMi (l : Launch) (E : gE) (y : MethodName) (cc : ByteArray) (nl : Nat) (ret : FieldType) (rm : Room) (av : List Value) (L : List Nat) (f : gF) (post : Int32 → List Nat → gF → Prop) : Prop :=
  ∀ sz : Nat, Met l y (.code y cc nl (some ret) :: gW) rm (va_Pc av (gPre E L f sz)) (gQi E (gA L f sz) post) rm.cells rm.slots (gA L f sz)
def gMv (l : Launch) (E : gE) (y : MethodName) (cc : ByteArray) (nl : Nat) (rm : Room) (av : List Value) (L : List Nat) (f : gF) (post : List Nat → gF → Prop) : Prop :=
  ∀ sz : Nat, Met l y (.code y cc nl none :: gW) rm (va_Pc av (gPre E L f sz)) (gQv E (gA L f sz) post) rm.cells rm.slots (gA L f sz)
/-- what is fixed in a walk -/
def gC (E : gE) (cc : ByteArray) (nl : Nat) (own : String) (p : Program) (s : State) (m : MethodId) (args : Array Value) (meth : Method) (c : Code) : Prop :=
  p.tables.exec = Jvm.exec ∧ c.code = cc ∧ c.maxLocals = nl ∧ s.vm.findClass own = some m.cls ∧ (∀ w ∈ gW, w.before args s = true) ∧ gK E s ∧ meth.locks = false
theorem g_at {L : List Nat} {f : gF} {a : Nat} (ha : a ∈ L) : ∃ k : Nat, (va_pl L f)[k]? = some (a, f a) := va_pl_get (X := []) ha
theorem g_ne {f : gF} {a b : Nat} {e1 e2 : va_E} (h1 : f a = e1) (h2 : f b = e2) (h : e1 ≠ e2) : a ≠ b := fun e => h (by rw [← h1, ← h2, e])
theorem g_neO {f : gF} {a b i j : Nat} {x y : List Value} (h1 : f a = .inr (i, x)) (h2 : f b = .inr (j, y)) (h : i ≠ j) : a ≠ b := g_ne h1 h2 (fun e => h (congrArg Prod.fst (Sum.inr.inj e)))
theorem g_neAO {f : gF} {a b i : Nat} {x : List Value} {z : ClassId × vp_A} (h1 : f a = .inl z) (h2 : f b = .inr (i, x)) : a ≠ b := g_ne h1 h2 (fun e => nomatch e)
theorem g_neOA {f : gF} {a b i : Nat} {x : List Value} {z : ClassId × vp_A} (h1 : f a = .inr (i, x)) (h2 : f b = .inl z) : a ≠ b := g_ne h1 h2 (fun e => nomatch e)
theorem g_neL {L : List Nat} {a q : Nat} (ha : a ∈ L) (hq : q ∉ L) : a ≠ q := fun e => hq (e ▸ ha)
section GW
variable {p : Program} {l : Launch} {e : Env} {R : Room} {s : State} {m : MethodId} {args : Array Value} {below : List Frame} {meth : Method} {c : Code} {H H0 : Heap} {locs : List Loc} {cells slots : Nat} {Q : State → Prop}
variable {E : gE} {cc : ByteArray} {nl : Nat} {own : String} {A : Nat → Prop} {L : List Nat} {f : gF} {pc : Nat} {ls : Array Slot} {rest : List Value} {a : Nat}
theorem g_get (C : gC E cc nl own p s m args meth c) (hH : gH E A L f H0 H locs) (ha : a ∈ L) {ci : Nat} {fs : List Value} (hf : f a = .inr (ci, fs)) {Cn ref : String} {T : u_T} {N index : Nat} (hin : ∀ w ∈ u_ws Cn T N, w ∈ gW) (hc : vwCl[ci]? = some (Cn, T, N)) (k : Nat) (hk : k < N) (hlink : Cond.fieldLink own index ref (T k).2.1 (T k).2.2.1 ∈ gW) (hsame : (T k).1 = ref) {v : Value} (hv : fs[k]? = some v) (hdg : decode cc pc = .ok (.getfield index, 3))
    (kk : W p l e R s m args below meth c H locs cells slots Q (F0 m (pc + 3) ls (v :: rest))) : W p l e R s m args below meth c H locs cells slots Q (F0 m pc ls (.ref a :: rest)) := by
  obtain ⟨hx, hb, hml, hown, hts, hK, hlk⟩ := C
  obtain ⟨q0, hq⟩ := g_at (f := f) ha
  rw [hf] at hq
  exact va_get hx hb hts hin hown hK.1 hH.1 q0 hq hc k hk (hts _ hlink) (fun x h => hsame ▸ h) hv hdg kk
theorem g_put (C : gC E cc nl own p s m args meth c) (hH : gH E A L f H0 H locs) (ha : a ∈ L) {ci : Nat} {fs fs' : List Value} (hf : f a = .inr (ci, fs)) {Cn ref : String} {T : u_T} {N index : Nat} (hin : ∀ w ∈ u_ws Cn T N, w ∈ gW) (ty0 : Nat → FieldType) (hty : ∀ k, k < N → parseFieldDescriptor (T k).2.2.1 = some (ty0 k)) (hnm : ∀ a, a < N → ∀ b, b < N → a ≠ b → (T a).2.1 ≠ (T b).2.1) (hc : vwCl[ci]? = some (Cn, T, N)) (k : Nat) (hk : k < N) (hlink : Cond.fieldLink own index ref (T k).2.1 (T k).2.2.1 ∈ gW) (hsame : (T k).1 = ref) (hfin : (T k).2.2.2 = false) {v : Value} (hn : narrow (ty0 k) v = v) (hfit : fits (ty0 k) v = true) (hl : k < fs.length) (hfs : fs.set k v = fs') (hdg : decode cc pc = .ok (.putfield index, 3))
    (kk : ∀ (H1 : Heap) (locs1 : List Loc), gH E A L (va_up f a (.inr (ci, fs'))) H0 H1 locs1 → W p l e R s m args below meth c H1 locs1 cells slots Q (F0 m (pc + 3) ls rest)) : W p l e R s m args below meth c H locs cells slots Q (F0 m pc ls (v :: .ref a :: rest)) := by
  obtain ⟨hx, hb, hml, hown, hts, hK, hlk⟩ := C
  obtain ⟨q0, hq0⟩ := g_at (f := f) ha
  have hq := hq0
  rw [hf] at hq
  refine va_put hx hb hts hin ty0 hty hnm hown hK.1 hH.1 hH.2.1 hH.2.2 q0 hq hc k hk (hts _ hlink) (fun x h => hsame ▸ h) hfin (hty k hk) hn hfit hl hdg (fun H1 locs1 h1 h2 h3 => ?_)
  subst hfs
  have he := va_pl_set (X := []) (e := (.inr (ci, fs.set k v) : va_E)) hH.2.1 ha hq0
  exact kk H1 locs1 ⟨by rw [← List.nil_append (va_pl L _), ← he]; exact h1, by rw [← List.nil_append (va_pl L _), ← he]; exact h2, h3⟩
theorem g_putF (C : gC E cc nl own p s m args meth c) (hH : gH E A L f H0 H locs) (ha : a ∈ L) {ci : Nat} {fs fs' : List Value} (hf : f a = .inr (ci, fs)) {Cn ref : String} {T : u_T} {N index : Nat} (hin : ∀ w ∈ u_ws Cn T N, w ∈ gW) (ty0 : Nat → FieldType) (hty : ∀ k, k < N → parseFieldDescriptor (T k).2.2.1 = some (ty0 k)) (hnm : ∀ a, a < N → ∀ b, b < N → a ≠ b → (T a).2.1 ≠ (T b).2.1) (hc : vwCl[ci]? = some (Cn, T, N)) (k : Nat) (hk : k < N) (hlink : Cond.fieldLink own index ref (T k).2.1 (T k).2.2.1 ∈ gW) (hsame : (T k).1 = ref) (hfin : (T k).2.2.2 = true) (hin2 : meth.name = "<init>") (hdecl : (T k).1 = own) {v : Value} (hn : narrow (ty0 k) v = v) (hfit : fits (ty0 k) v = true) (hl : k < fs.length) (hfs : fs.set k v = fs') (hdg : decode cc pc = .ok (.putfield index, 3))
    (kk : ∀ (H1 : Heap) (locs1 : List Loc), gH E A L (va_up f a (.inr (ci, fs'))) H0 H1 locs1 → W p l e R s m args below meth c H1 locs1 cells slots Q (F0 m (pc + 3) ls rest)) : W p l e R s m args below meth c H locs cells slots Q (F0 m pc ls (v :: .ref a :: rest)) := by
  obtain ⟨hx, hb, hml, hown, hts, hK, hlk⟩ := C
  obtain ⟨q0, hq0⟩ := g_at (f := f) ha
  have hq := hq0
  rw [hf] at hq
  refine va_putF hx hb hts hin ty0 hty hnm hown hK.1 hH.1 hH.2.1 hH.2.2 q0 hq hc k hk (hts _ hlink) (fun x h => hsame ▸ h) hfin hin2 hdecl (hty k hk) hn hfit hl hdg (fun H1 locs1 h1 h2 h3 => ?_)
  subst hfs
  have he := va_pl_set (X := []) (e := (.inr (ci, fs.set k v) : va_E)) hH.2.1 ha hq0
  exact kk H1 locs1 ⟨by rw [← List.nil_append (va_pl L _), ← he]; exact h1, by rw [← List.nil_append (va_pl L _), ← he]; exact h2, h3⟩
theorem g_pushL {ws1 : va_W} {q : Nat} {x : va_E} (h2 : va_D A (va_pl L f ++ [(q, x)])) : q ∉ L := by
  intro hq
  obtain ⟨k, hk⟩ := g_at (f := f) hq
  have hlt : k < (va_pl L f).length := (List.getElem?_eq_some_iff.mp hk).1
  have h3 := h2.1 k (va_pl L f).length (q, f q) (q, x) (by rw [List.getElem?_append_left hlt]; exact hk) (by simp) rfl
  omega
theorem g_new (C : gC E cc nl own p s m args meth c) (hH : gH E A L f H0 H locs) (hA : ∀ q, H0.size ≤ q → A q) {ci : Nat} {Cn : String} {T : u_T} {N index : Nat} (hin : ∀ w ∈ u_ws Cn T N, w ∈ gW) (ty0 : Nat → FieldType) (hty : ∀ k, k < N → parseFieldDescriptor (T k).2.2.1 = some (ty0 k)) (hcl : Cond.classLink own index Cn ∈ gW) (hinst : Cond.instantiable Cn N ∈ gW) (hini : Cond.initialized Cn ∈ gW) (hc : vwCl[ci]? = some (Cn, T, N)) {fs : List Value} (hfs : ∀ j, j < N → defaultValue (ty0 j) = vp_V fs j) (hcells : cells + 1 ≤ R.cells) (hslots : slots + N ≤ R.slots) (hdg : decode cc pc = .ok (.new index, 3))
    (kk : ∀ (q : Nat) (H1 : Heap), q ∉ L → gH E A (L ++ [q]) (va_up f q (.inr (ci, fs))) H0 H1 locs → W p l e R s m args below meth c H1 locs (cells + 1) (slots + N) Q (F0 m (pc + 3) ls (.ref q :: rest))) : W p l e R s m args below meth c H locs cells slots Q (F0 m pc ls rest) := by
  obtain ⟨hx, hb, hml, hown, hts, hK, hlk⟩ := C
  refine va_new hx hb hts hin ty0 hty hown (hts _ hcl) (hts _ hinst) (hts _ hini) hK.1 hH.1 hH.2.1 hH.2.2 hA hc hfs hcells hslots hdg (fun q H1 h1 h2 h3 => ?_)
  have hq : q ∉ L := g_pushL (ws1 := []) h2
  rw [va_pl_push hq] at h1 h2
  exact kk q H1 hq ⟨h1, h2, h3⟩
theorem g_newa (C : gC E cc nl own p s m args meth c) (hH : gH E A L f H0 H locs) (hA : ∀ q, H0.size ≤ q → A q) {atype : ArrayType} {ty : FieldType} {cA : ClassId} (t0 : Nat) (hcA : (gTy E)[t0]? = some (cA, ty)) (hra : ∀ (U : State) (z : ClassId), va_RA U z ty → U.vm.findClass ("[" ++ ty.toString) = some z) (harr : Cond.arrayClass ty ∈ gW) (hty : newarray.typeOf atype = ty) {n : Int32} {N' : Nat} {a0 : vp_A} (ha : ∀ z : ClassId, vp_cell z a0 = arrV z N' (fun _ => defaultValue ty)) (hn : ¬ n < 0) (hN : n.toNatClampNeg = N') (hbytes : N' * componentBytes ty ≤ 536870912) (hcells : cells + 1 ≤ R.cells) (hslots : slots + N' ≤ R.slots) (hdg : decode cc pc = .ok (.newarray atype, 2))
    (kk : ∀ (q : Nat) (H1 : Heap), q ∉ L → gH E A (L ++ [q]) (va_up f q (.inl (cA, a0))) H0 H1 locs → W p l e R s m args below meth c H1 locs (cells + 1) (slots + N') Q (F0 m (pc + 2) ls (.ref q :: rest))) : W p l e R s m args below meth c H locs cells slots Q (F0 m pc ls (.int n :: rest)) := by
  obtain ⟨hx, hb, hml, hown, hts, hK, hlk⟩ := C
  have h9 := hra s cA (hK.1.2 t0 _ hcA).2
  refine va_newa hx hb (by rw [hty]; exact hts _ harr) hty hK.1 hH.1 hH.2.1 hH.2.2 hA ha hn hN hbytes hcells hslots hdg (fun q z H1 h0 h1 h2 h3 => ?_)
  have hz := hra s z (h0.2 (gTy E).length (z, ty) (by simp)).2
  have hzz : z = cA := Option.some.inj (hz.symm.trans h9)
  subst hzz
  have hq : q ∉ L := g_pushL (ws1 := []) h2
  rw [va_pl_push hq] at h1 h2
  exact kk q H1 hq ⟨h1, h2, h3⟩
theorem g_newq (C : gC E cc nl own p s m args meth c) (hH : gH E A L f H0 H locs) (hA : ∀ q, H0.size ≤ q → A q) {Cn : String} {index : Nat} {cA : ClassId} (t0 : Nat) (hcA : (gTy E)[t0]? = some (cA, .object Cn)) (hclink : Cond.classLink own index Cn ∈ gW) (hover : gK E s → va_AO Cn s) {n : Int32} {N' : Nat} (hn : ¬ n < 0) (hN : n.toNatClampNeg = N') (hbytes : N' * 4 ≤ 536870912) (hcells : cells + 1 ≤ R.cells) (hslots : slots + N' ≤ R.slots) (hdg : decode cc pc = .ok (.anewarray index, 3))
    (kk : ∀ (q : Nat) (H1 : Heap), q ∉ L → gH E A (L ++ [q]) (va_up f q (.inl (cA, N', .inr (.inr (.inr (.inr (fun _ => none))))))) H0 H1 locs → W p l e R s m args below meth c H1 locs (cells + 1) (slots + N') Q (F0 m (pc + 3) ls (.ref q :: rest))) : W p l e R s m args below meth c H locs cells slots Q (F0 m pc ls (.int n :: rest)) := by
  obtain ⟨hx, hb, hml, hown, hts, hK, hlk⟩ := C
  obtain ⟨-, -, -, -, -, h9⟩ := (hK.1.2 t0 _ hcA).2
  refine va_newq hx hb hown (hts _ hclink) (hover hK) hK.1 hH.1 hH.2.1 hH.2.2 hA hn hN hbytes hcells hslots hdg (fun q z H1 h0 h1 h2 h3 => ?_)
  obtain ⟨-, -, -, -, -, hz⟩ := (h0.2 (gTy E).length (z, .object Cn) (by simp)).2
  have hzz : z = cA := Option.some.inj (hz.symm.trans h9)
  subst hzz
  have hq : q ∉ L := g_pushL (ws1 := []) h2
  rw [va_pl_push hq] at h1 h2
  exact kk q H1 hq ⟨h1, h2, h3⟩
/-- an entry changed, its address stays -/
theorem g_upd (hH : gH E A L f H0 H locs) (ha : a ∈ L) {q0 : Nat} (hq0 : (va_pl L f)[q0]? = some (a, f a)) {x : va_E} {H1 : Heap} {locs1 : List Loc} (h1 : va_P (E.1, E.2.1) vwCl ((va_pl L f).set q0 (a, x)) H1) (h2 : va_D A ((va_pl L f).set q0 (a, x))) (h3 : va_S A H0 H1 locs1) : gH E A L (va_up f a x) H0 H1 locs1 := by
  have he := va_pl_set (X := []) (e := x) hH.2.1 ha hq0
  exact ⟨by rw [← List.nil_append (va_pl L _), ← he]; exact h1, by rw [← List.nil_append (va_pl L _), ← he]; exact h2, h3⟩
theorem g_iald (C : gC E cc nl own p s m args meth c) (hH : gH E A L f H0 H locs) (ha : a ∈ L) {n : Nat} {v : Nat → Int32} (hf : f a = .inl (E.2.2 1, n, .inl v)) {i : Int32} (hin : vp_in i n) (hdg : decode cc pc = .ok (.iaload, 1))
    (kk : W p l e R s m args below meth c H locs cells slots Q (F0 m (pc + 1) ls (.int (v i.toNatClampNeg) :: rest))) : W p l e R s m args below meth c H locs cells slots Q (F0 m pc ls (.int i :: .ref a :: rest)) := by
  obtain ⟨hx, hb, hml, hown, hts, hK, hlk⟩ := C
  obtain ⟨q0, hq⟩ := g_at (f := f) ha
  rw [hf] at hq
  exact va_iald hx hb hK.1 hH.1 q0 1 hq rfl hin hdg kk
theorem g_bald (C : gC E cc nl own p s m args meth c) (hH : gH E A L f H0 H locs) (ha : a ∈ L) {n : Nat} {v : Nat → Int32} (hf : f a = .inl (E.2.2 0, n, .inl v)) {i : Int32} (hin : vp_in i n) (hdg : decode cc pc = .ok (.baload, 1))
    (kk : W p l e R s m args below meth c H locs cells slots Q (F0 m (pc + 1) ls (.int (v i.toNatClampNeg) :: rest))) : W p l e R s m args below meth c H locs cells slots Q (F0 m pc ls (.int i :: .ref a :: rest)) := by
  obtain ⟨hx, hb, hml, hown, hts, hK, hlk⟩ := C
  obtain ⟨q0, hq⟩ := g_at (f := f) ha
  rw [hf] at hq
  exact va_bald hx hb hK.1 hH.1 q0 0 hq rfl hin hdg kk
theorem g_zald (C : gC E cc nl own p s m args meth c) (hH : gH E A L f H0 H locs) (ha : a ∈ L) {n : Nat} {v : Nat → Int32} (hf : f a = .inl (E.2.2 3, n, .inl v)) {i : Int32} (hin : vp_in i n) (hdg : decode cc pc = .ok (.baload, 1))
    (kk : W p l e R s m args below meth c H locs cells slots Q (F0 m (pc + 1) ls (.int (v i.toNatClampNeg) :: rest))) : W p l e R s m args below meth c H locs cells slots Q (F0 m pc ls (.int i :: .ref a :: rest)) := by
  obtain ⟨hx, hb, hml, hown, hts, hK, hlk⟩ := C
  obtain ⟨q0, hq⟩ := g_at (f := f) ha
  rw [hf] at hq
  exact va_zald hx hb hK.1 hH.1 q0 3 hq rfl hin hdg kk
theorem g_lald (C : gC E cc nl own p s m args meth c) (hH : gH E A L f H0 H locs) (ha : a ∈ L) {n : Nat} {v : Nat → Int64} (hf : f a = .inl (E.2.2 2, n, .inr (.inl v))) {i : Int32} (hin : vp_in i n) (hdg : decode cc pc = .ok (.laload, 1))
    (kk : W p l e R s m args below meth c H locs cells slots Q (F0 m (pc + 1) ls (.long (v i.toNatClampNeg) :: rest))) : W p l e R s m args below meth c H locs cells slots Q (F0 m pc ls (.int i :: .ref a :: rest)) := by
  obtain ⟨hx, hb, hml, hown, hts, hK, hlk⟩ := C
  obtain ⟨q0, hq⟩ := g_at (f := f) ha
  rw [hf] at hq
  exact va_lald hx hb hK.1 hH.1 q0 2 hq rfl hin hdg kk
theorem g_aald (C : gC E cc nl own p s m args meth c) (hH : gH E A L f H0 H locs) (ha : a ∈ L) {n : Nat} {v : Nat → Option Nat} {cA : ClassId} {Cn : String} (t0 : Nat) (hcA : (gTy E)[t0]? = some (cA, .object Cn)) (hf : f a = .inl (cA, n, .inr (.inr (.inr (.inr v))))) {i : Int32} (hin : vp_in i n) {b : Nat} (hv : v i.toNatClampNeg = some b) (hdg : decode cc pc = .ok (.aaload, 1))
    (kk : W p l e R s m args below meth c H locs cells slots Q (F0 m (pc + 1) ls (.ref b :: rest))) : W p l e R s m args below meth c H locs cells slots Q (F0 m pc ls (.int i :: .ref a :: rest)) := by
  obtain ⟨hx, hb, hml, hown, hts, hK, hlk⟩ := C
  obtain ⟨q0, hq⟩ := g_at (f := f) ha
  rw [hf] at hq
  exact va_aldq hx hb hK.1 hH.1 q0 t0 hq hcA hin hdg (by rw [hv]; exact kk)
theorem g_iast (C : gC E cc nl own p s m args meth c) (hH : gH E A L f H0 H locs) (ha : a ∈ L) {n : Nat} {v : Nat → Int32} (hf : f a = .inl (E.2.2 1, n, .inl v)) {i x : Int32} (hin : vp_in i n) (hdg : decode cc pc = .ok (.iastore, 1))
    (kk : ∀ (H1 : Heap) (locs1 : List Loc), gH E A L (va_up f a (.inl (E.2.2 1, n, .inl (upd v i.toNatClampNeg x)))) H0 H1 locs1 → W p l e R s m args below meth c H1 locs1 cells slots Q (F0 m (pc + 1) ls rest)) : W p l e R s m args below meth c H locs cells slots Q (F0 m pc ls (.int x :: .int i :: .ref a :: rest)) := by
  obtain ⟨hx, hb, hml, hown, hts, hK, hlk⟩ := C
  obtain ⟨q0, hq0⟩ := g_at (f := f) ha
  have hq := hq0
  rw [hf] at hq
  exact va_iast hx hb hK.1 hH.1 hH.2.1 hH.2.2 q0 1 hq rfl hin hdg (fun H1 locs1 h1 h2 h3 => kk H1 locs1 (g_upd hH ha hq0 h1 h2 h3))
theorem g_bast (C : gC E cc nl own p s m args meth c) (hH : gH E A L f H0 H locs) (ha : a ∈ L) {n : Nat} {v : Nat → Int32} (hf : f a = .inl (E.2.2 0, n, .inl v)) {i x : Int32} (hin : vp_in i n) (hdg : decode cc pc = .ok (.bastore, 1))
    (kk : ∀ (H1 : Heap) (locs1 : List Loc), gH E A L (va_up f a (.inl (E.2.2 0, n, .inl (upd v i.toNatClampNeg (vp_nar .byte x))))) H0 H1 locs1 → W p l e R s m args below meth c H1 locs1 cells slots Q (F0 m (pc + 1) ls rest)) : W p l e R s m args below meth c H locs cells slots Q (F0 m pc ls (.int x :: .int i :: .ref a :: rest)) := by
  obtain ⟨hx, hb, hml, hown, hts, hK, hlk⟩ := C
  obtain ⟨q0, hq0⟩ := g_at (f := f) ha
  have hq := hq0
  rw [hf] at hq
  exact va_bast hx hb hK.1 hH.1 hH.2.1 hH.2.2 q0 0 hq rfl hin hdg (fun H1 locs1 h1 h2 h3 => kk H1 locs1 (g_upd hH ha hq0 h1 h2 h3))
theorem g_zast (C : gC E cc nl own p s m args meth c) (hH : gH E A L f H0 H locs) (ha : a ∈ L) {n : Nat} {v : Nat → Int32} (hf : f a = .inl (E.2.2 3, n, .inl v)) {i x : Int32} (hin : vp_in i n) (hdg : decode cc pc = .ok (.bastore, 1))
    (kk : ∀ (H1 : Heap) (locs1 : List Loc), gH E A L (va_up f a (.inl (E.2.2 3, n, .inl (upd v i.toNatClampNeg (vp_nar .boolean x))))) H0 H1 locs1 → W p l e R s m args below meth c H1 locs1 cells slots Q (F0 m (pc + 1) ls rest)) : W p l e R s m args below meth c H locs cells slots Q (F0 m pc ls (.int x :: .int i :: .ref a :: rest)) := by
  obtain ⟨hx, hb, hml, hown, hts, hK, hlk⟩ := C
  obtain ⟨q0, hq0⟩ := g_at (f := f) ha
  have hq := hq0
  rw [hf] at hq
  exact va_zast hx hb hK.1 hH.1 hH.2.1 hH.2.2 q0 3 hq rfl hin hdg (fun H1 locs1 h1 h2 h3 => kk H1 locs1 (g_upd hH ha hq0 h1 h2 h3))
theorem g_last (C : gC E cc nl own p s m args meth c) (hH : gH E A L f H0 H locs) (ha : a ∈ L) {n : Nat} {v : Nat → Int64} (hf : f a = .inl (E.2.2 2, n, .inr (.inl v))) {i : Int32} {x : Int64} (hin : vp_in i n) (hdg : decode cc pc = .ok (.lastore, 1))
    (kk : ∀ (H1 : Heap) (locs1 : List Loc), gH E A L (va_up f a (.inl (E.2.2 2, n, .inr (.inl (vp_updL v i.toNatClampNeg x))))) H0 H1 locs1 → W p l e R s m args below meth c H1 locs1 cells slots Q (F0 m (pc + 1) ls rest)) : W p l e R s m args below meth c H locs cells slots Q (F0 m pc ls (.long x :: .int i :: .ref a :: rest)) := by
  obtain ⟨hx, hb, hml, hown, hts, hK, hlk⟩ := C
  obtain ⟨q0, hq0⟩ := g_at (f := f) ha
  have hq := hq0
  rw [hf] at hq
  exact va_last hx hb hK.1 hH.1 hH.2.1 hH.2.2 q0 2 hq rfl hin hdg (fun H1 locs1 h1 h2 h3 => kk H1 locs1 (g_upd hH ha hq0 h1 h2 h3))
theorem g_alen (C : gC E cc nl own p s m args meth c) (hH : gH E A L f H0 H locs) (ha : a ∈ L) {x : vp_A} {cA : ClassId} {ty : FieldType} (t0 : Nat) (hcA : (gTy E)[t0]? = some (cA, ty)) (hf : f a = .inl (cA, x)) {v : Int32} (hv : nI x.1 = v) (hdg : decode cc pc = .ok (.arraylength, 1))
    (kk : W p l e R s m args below meth c H locs cells slots Q (F0 m (pc + 1) ls (.int v :: rest))) : W p l e R s m args below meth c H locs cells slots Q (F0 m pc ls (.ref a :: rest)) := by
  obtain ⟨hx, hb, hml, hown, hts, hK, hlk⟩ := C
  obtain ⟨q0, hq⟩ := g_at (f := f) ha
  rw [hf] at hq
  exact va_alen hx hb hK.1 hH.1 q0 t0 hq hcA hv hdg kk
end GW
section GC
variable {p : Program} {l : Launch} {e : Env} {R : Room} {s : State} {m : MethodId} {args : Array Value} {below : List Frame} {meth : Method} {c : Code} {H H0 : Heap} {locs : List Loc} {cells slots : Nat} {Q : State → Prop}
variable {E : gE} {cc : ByteArray} {nl : Nat} {own : String} {A : Nat → Prop} {L : List Nat} {f : gF} {pc : Nat} {ls : Array Slot} {rest : List Value} {a : Nat}
theorem g_aast (C : gC E cc nl own p s m args meth c) (hH : gH E A L f H0 H locs) (ha : a ∈ L) {n b : Nat} {v : Nat → Option Nat} {cA : ClassId} {Cn : String} {T : u_T} {N ci : Nat} {vs : List Value} (t0 : Nat) (hcA : (gTy E)[t0]? = some (cA, .object Cn)) (hf : f a = .inl (cA, n, .inr (.inr (.inr (.inr v))))) (hbL : b ∈ L) (hfb : f b = .inr (ci, vs)) (hc : vwCl[ci]? = some (Cn, T, N)) {i : Int32} (hin : vp_in i n) (hdg : decode cc pc = .ok (.aastore, 1))
    (kk : ∀ (H1 : Heap) (locs1 : List Loc), gH E A L (va_up f a (.inl (cA, n, .inr (.inr (.inr (.inr (va_up v i.toNatClampNeg (some b)))))))) H0 H1 locs1 → W p l e R s m args below meth c H1 locs1 cells slots Q (F0 m (pc + 1) ls rest)) : W p l e R s m args below meth c H locs cells slots Q (F0 m pc ls (.ref b :: .int i :: .ref a :: rest)) := by
  obtain ⟨hx, hb, hml, hown, hts, hK, hlk⟩ := C
  obtain ⟨q0, hq0⟩ := g_at (f := f) ha
  have hq := hq0
  rw [hf] at hq
  obtain ⟨q1, hq1⟩ := g_at (f := f) hbL
  rw [hfb] at hq1
  exact va_astq (r := (Cn, T, N)) hx hb hK.1 hH.1 hH.2.1 hH.2.2 q0 t0 q1 ci hq hcA hq1 hc hin hdg (fun H1 locs1 h1 h2 h3 => kk H1 locs1 (g_upd hH ha hq0 h1 h2 h3))
theorem g_copyi (C : gC E cc nl own p s m args meth c) (hls : nl = ls.size) (hH : gH E A L f H0 H locs) {index : Nat} (hlink : Cond.methodLink own index arraycopyName ∈ gW) (hnat : Cond.native arraycopyName ∈ gW) (hstat : Cond.static arraycopyName ∈ gW) (hini : Cond.initialized "java/lang/System" ∈ gW) {a0 n0 n1 : Nat} {u v : Nat → Int32} (ha0 : a0 ∈ L) (hf0 : f a0 = .inl (E.2.2 1, n0, .inl u)) (ha : a ∈ L) (hf1 : f a = .inl (E.2.2 1, n1, .inl v)) {sp dp n : Int32} (h1 : ¬ sp < 0) (h2 : ¬ dp < 0) (h3 : ¬ n < 0) (h4 : sp.toNatClampNeg + n.toNatClampNeg ≤ n0) (h5 : dp.toNatClampNeg + n.toNatClampNeg ≤ n1) (hframes : 1 ≤ R.frames) (hlocals : (rest.map fun v => v.category).sum + (nativeFrameWords "java/lang/System" "arraycopy" 5 + 11) ≤ R.locals) (hdg : decode cc pc = .ok (.invokestatic index, 3))
    (kk : ∀ (H1 : Heap) (locs1 : List Loc), gH E A L (va_up f a (.inl (E.2.2 1, n1, .inl (va_cpy u v sp.toNatClampNeg dp.toNatClampNeg n.toNatClampNeg)))) H0 H1 locs1 → W p l e R s m args below meth c H1 locs1 cells slots Q (F0 m (pc + 3) ls rest)) : W p l e R s m args below meth c H locs cells slots Q (F0 m pc ls (.int n :: .int dp :: .ref a :: .int sp :: .ref a0 :: rest)) := by
  obtain ⟨hx, hb, hml, hown, hts, hK, hlk⟩ := C
  obtain ⟨q1, hq0⟩ := g_at (f := f) ha
  have hq1 := hq0
  rw [hf1] at hq1
  obtain ⟨q0, hq⟩ := g_at (f := f) ha0
  rw [hf0] at hq
  exact va_copyi hx hb (hml.trans hls) hown (hts _ hlink) (hts _ hnat) (hts _ hstat) (hts _ hini) hK.1 hH.1 hH.2.1 hH.2.2 q0 q1 1 1 hq hq1 rfl rfl rfl h1 h2 h3 h4 h5 (fun _ _ => rfl) hframes hlocals hdg (fun H1 locs1 k1 k2 k3 => kk H1 locs1 (g_upd hH ha hq0 k1 k2 k3))
theorem g_copyl (C : gC E cc nl own p s m args meth c) (hls : nl = ls.size) (hH : gH E A L f H0 H locs) {index : Nat} (hlink : Cond.methodLink own index arraycopyName ∈ gW) (hnat : Cond.native arraycopyName ∈ gW) (hstat : Cond.static arraycopyName ∈ gW) (hini : Cond.initialized "java/lang/System" ∈ gW) {a0 n0 n1 : Nat} {u v : Nat → Int64} (ha0 : a0 ∈ L) (hf0 : f a0 = .inl (E.2.2 2, n0, .inr (.inl u))) (ha : a ∈ L) (hf1 : f a = .inl (E.2.2 2, n1, .inr (.inl v))) {sp dp n : Int32} (h1 : ¬ sp < 0) (h2 : ¬ dp < 0) (h3 : ¬ n < 0) (h4 : sp.toNatClampNeg + n.toNatClampNeg ≤ n0) (h5 : dp.toNatClampNeg + n.toNatClampNeg ≤ n1) (hframes : 1 ≤ R.frames) (hlocals : (rest.map fun v => v.category).sum + (nativeFrameWords "java/lang/System" "arraycopy" 5 + 11) ≤ R.locals) (hdg : decode cc pc = .ok (.invokestatic index, 3))
    (kk : ∀ (H1 : Heap) (locs1 : List Loc), gH E A L (va_up f a (.inl (E.2.2 2, n1, .inr (.inl (va_cpy u v sp.toNatClampNeg dp.toNatClampNeg n.toNatClampNeg))))) H0 H1 locs1 → W p l e R s m args below meth c H1 locs1 cells slots Q (F0 m (pc + 3) ls rest)) : W p l e R s m args below meth c H locs cells slots Q (F0 m pc ls (.int n :: .int dp :: .ref a :: .int sp :: .ref a0 :: rest)) := by
  obtain ⟨hx, hb, hml, hown, hts, hK, hlk⟩ := C
  obtain ⟨q1, hq0⟩ := g_at (f := f) ha
  have hq1 := hq0
  rw [hf1] at hq1
  obtain ⟨q0, hq⟩ := g_at (f := f) ha0
  rw [hf0] at hq
  exact va_copyl hx hb (hml.trans hls) hown (hts _ hlink) (hts _ hnat) (hts _ hstat) (hts _ hini) hK.1 hH.1 hH.2.1 hH.2.2 q0 q1 2 2 hq hq1 rfl rfl rfl h1 h2 h3 h4 h5 (fun _ _ => rfl) hframes hlocals hdg (fun H1 locs1 k1 k2 k3 => kk H1 locs1 (g_upd hH ha hq0 k1 k2 k3))
theorem g_obj (C : gC E cc nl own p s m args meth c) (hls : ls.size = nl) {idx : Nat} (hlink : Cond.methodLink own idx Lib.objectInit ∈ gW) (hinst : Cond.instanceMethod Lib.objectInit ∈ gW) (hcode : Cond.code Lib.objectInit ⟨#[0xb1]⟩ 1 none ∈ gW) (hd : decode cc pc = .ok (.invokespecial idx, 3)) (hframes : 1 ≤ R.frames) (hlocals : (rest.map fun v => v.category).sum + 12 ≤ R.locals)
    (kk : W p l e R s m args below meth c H locs cells slots Q (F0 m (pc + 3) ls rest)) : W p l e R s m args below meth c H locs cells slots Q (F0 m pc ls (.ref a :: rest)) := by
  obtain ⟨hx, hb, hml, hown, hts, hK, hlk⟩ := C
  exact W.objInit hx hb hown (hts _ hlink) (hts _ hinst) (hts _ hcode) rfl (by rw [hml]; exact hls) rfl hd hframes (by simpa [JFrame.monitorRoom] using hlocals) kk
theorem g_free (hH : gH E A L f H0 H locs) (hA : ∀ q, H0.size ≤ q → A q) : ∀ q, gA L f H.size q → A q := by
  intro q hq
  rcases hq with ⟨k, x, hk⟩ | hq
  · exact hH.2.1.2 k _ hk
  · exact hA q (Nat.le_trans hH.2.2.1 hq)
theorem g_calli {mc ms : Nat} {st0 : List Value} {av : Array Value} {post : Int32 → List Nat → gF → Prop} (hH : gH E A L f H0 H locs) (hA : ∀ q, H0.size ≤ q → A q) (hr : va_Run p l e R s m args below meth c H locs cells slots mc ms (F0 m pc ls st0) rest (gQi E (gA L f H.size) post av) (gA L f H.size))
    (kk : ∀ (r : Int32) (L1 : List Nat) (f1 : gF) (H1 : Heap) (locs1 : List Loc), post r L1 f1 → gH E A L1 f1 H0 H1 locs1 → W p l e R s m args below meth c H1 locs1 (cells + mc) (slots + ms) Q (F0 m (pc + 3) ls (.int r :: rest))) : W p l e R s m args below meth c H locs cells slots Q (F0 m pc ls st0) := by
  have hF := g_free hH hA
  refine va_calli hr hH.2.2 (fun q _ h => hF q h) hF (fun r u t H1 locs1 ht hvm hw hB hz1 hk1 hS => ?_)
  obtain ⟨hP1, hD1⟩ := hB
  rw [ht] at hP1
  exact kk r u.1 u.2 H1 locs1 hw ⟨hP1, hD1.weaken (fun _ _ _ h => hF _ h), hS⟩
theorem g_callv {mc ms : Nat} {st0 : List Value} {av : Array Value} {post : List Nat → gF → Prop} (hH : gH E A L f H0 H locs) (hA : ∀ q, H0.size ≤ q → A q) (hr : va_Run p l e R s m args below meth c H locs cells slots mc ms (F0 m pc ls st0) rest (gQv E (gA L f H.size) post av) (gA L f H.size))
    (kk : ∀ (L1 : List Nat) (f1 : gF) (H1 : Heap) (locs1 : List Loc), post L1 f1 → gH E A L1 f1 H0 H1 locs1 → W p l e R s m args below meth c H1 locs1 (cells + mc) (slots + ms) Q (F0 m (pc + 3) ls rest)) : W p l e R s m args below meth c H locs cells slots Q (F0 m pc ls st0) := by
  have hF := g_free hH hA
  refine va_callv hr hH.2.2 (fun q _ h => hF q h) hF (fun u t H1 locs1 ht hvm hw hB hz1 hk1 hS => ?_)
  obtain ⟨hP1, hD1⟩ := hB
  rw [ht] at hP1
  exact kk u.1 u.2 H1 locs1 hw ⟨hP1, hD1.weaken (fun _ _ _ h => hF _ h), hS⟩
theorem g_blind {av : List Value} {sz : Nat} : FrameBlind (va_Pc av (gPre E L f sz)) := fun a U g mk q => ⟨q.1, q.2.1, q.2.2.1, gK.blind rfl q.2.2.2.1, q.2.2.2.2⟩
theorem g_pre (C : gC E cc nl own p s m args meth c) (hH : gH E A L f H0 H locs) (av : List Value) : ∀ U : State, U.heap = H → s.WarmedH U.vm → va_Pc av (gPre E L f H.size) av.toArray U := fun U hU hW => ⟨rfl, by rw [hU], by rw [hU]; exact hH.1, gK.warm hW C.2.2.2.2.2.1, hH.2.1.weaken (fun _ _ _ _ => trivial)⟩
theorem g_recv (C : gC E cc nl own p s m args meth c) (hH : gH E A L f H0 H locs) (ha : a ∈ L) {ci : Nat} {fs : List Value} (hf : f a = .inr (ci, fs)) {Cn : String} {T : u_T} {N : Nat} (hc : vwCl[ci]? = some (Cn, T, N)) : ∃ cellB : Cell, H[a]? = some cellB ∧ cellB.vm.isStatics = false ∧ s.vm.findClass Cn = some cellB.cls := by
  obtain ⟨q0, hq⟩ := g_at (f := f) ha
  rw [hf] at hq
  exact va_recv (q := (Cn, T, N)) C.2.2.2.2.2.1.1 hH.1 hc hq
/-- a method's own words -/
def gWV (Cn : String) (y : MethodName) (bytes : ByteArray) (maxL : Nat) (ret : Option FieldType) (n : Nat) : Prop := (Cond.instanceMethod y ∈ gW ∧ Cond.selects Cn y y ∈ gW ∧ Cond.initialized Cn ∈ gW ∧ Cond.code y bytes maxL ret ∈ gW) ∧ (y.cls = Cn ∧ y.cls ≠ "java/lang/invoke/MethodHandle" ∧ y.cls ≠ "java/lang/invoke/VarHandle" ∧ (parseMethodDescriptor y.desc).map (fun d => d.parameters.length) = some n)
def gWS (Cn : String) (y : MethodName) (bytes : ByteArray) (maxL : Nat) (ret : Option FieldType) (n : Nat) : Prop := (Cond.static y ∈ gW ∧ Cond.initialized Cn ∈ gW ∧ Cond.code y bytes maxL ret ∈ gW) ∧ (y.cls = Cn ∧ y.cls ≠ "java/lang/invoke/MethodHandle" ∧ y.cls ≠ "java/lang/invoke/VarHandle" ∧ (parseMethodDescriptor y.desc).map (fun d => d.parameters.length) = some n)
def gWI (Cn : String) (y : MethodName) (bytes : ByteArray) (maxL : Nat) (n : Nat) : Prop := (Cond.instanceMethod y ∈ gW ∧ Cond.initialized Cn ∈ gW ∧ Cond.code y bytes maxL none ∈ gW) ∧ (y.cls = Cn ∧ y.cls ≠ "java/lang/invoke/MethodHandle" ∧ y.cls ≠ "java/lang/invoke/VarHandle" ∧ (parseMethodDescriptor y.desc).map (fun d => d.parameters.length) = some n) ∧ y.name = "<init>"
theorem g_goodC {y : MethodName} {bytes : ByteArray} {maxL : Nat} {ret : Option FieldType} (h : Cond.code y bytes maxL ret ∈ gW) : GoodIn gW (Cond.code y bytes maxL ret :: gW) := fun w hw => (List.mem_cons.mp hw).elim (fun e => by rw [e]; exact ⟨h, gW_good _ h⟩) (fun h2 => ⟨h2, gW_good _ h2⟩)
theorem g_cwV {Cn : String} {y : MethodName} {bytes : ByteArray} {maxL n index : Nat} {ret : Option FieldType} {rm : Room} (hts : ∀ w ∈ gW, w.before args s = true) (wy : gWV Cn y bytes maxL ret n) (hl : Cond.methodLink own index y ∈ gW) (hR : rm.frames + 1 ≤ R.frames ∧ 8 + (maxL + 11) + rm.locals ≤ R.locals) : CallW R s args own Cn index y bytes maxL ret (Cond.code y bytes maxL ret :: gW) rm rm.cells rm.slots n := by
  refine cwV n hts (fun w hw => ?_) rfl rfl rfl wy.2 hR
  unfold wsV at hw
  rcases List.mem_append.mp hw with h | h
  · simp only [List.mem_cons, List.not_mem_nil, or_false] at h
    rcases h with rfl | rfl | rfl | rfl
    · exact ⟨hl, gW_good _ hl⟩
    · exact ⟨wy.1.1, gW_good _ wy.1.1⟩
    · exact ⟨wy.1.2.1, gW_good _ wy.1.2.1⟩
    · exact ⟨wy.1.2.2.1, gW_good _ wy.1.2.2.1⟩
  · exact g_goodC wy.1.2.2.2 w h
theorem g_Vi (C : gC E cc nl own p s m args meth c) (hls : ls.size = nl) (hA : ∀ q, H0.size ≤ q → A q) (hH : gH E A L f H0 H locs) {Cn : String} {y : MethodName} {bytes : ByteArray} {maxL n index ci N : Nat} {ret : FieldType} {rm : Room} {b : Nat} {As st0 fs : List Value} {T : u_T} {post : Int32 → List Nat → gF → Prop} (M : gMi l E y bytes maxL ret rm (.ref b :: As) L f post) (wy : gWV Cn y bytes maxL (some ret) n) (hl : Cond.methodLink own index y ∈ gW) (hb : b ∈ L) (hfb : f b = .inr (ci, fs)) (hc : vwCl[ci]? = some (Cn, T, N)) (hn : As.length = n) (hst : st0 = As.reverse ++ .ref b :: rest) (hw : (rest.map fun v => v.category).sum ≤ 8) (hR : rm.frames + 1 ≤ R.frames ∧ 8 + (maxL + 11) + rm.locals ≤ R.locals) (hcs : cells + rm.cells ≤ R.cells ∧ slots + rm.slots ≤ R.slots) (hdg : decode cc pc = .ok (.invokevirtual index, 3))
    (kk : ∀ (r : Int32) (L1 : List Nat) (f1 : gF) (H1 : Heap) (locs1 : List Loc), post r L1 f1 → gH E A L1 f1 H0 H1 locs1 → W p l e R s m args below meth c H1 locs1 (cells + rm.cells) (slots + rm.slots) Q (F0 m (pc + 3) ls (.int r :: rest))) : W p l e R s m args below meth c H locs cells slots Q (F0 m pc ls st0) := by
  refine g_calli hH hA (va_runV (As := As) (b := b) (rest := rest) ⟨C.1, C.2.1, C.2.2.1, C.2.2.2.1, C.2.2.2.2.1⟩ (M H.size) (g_cwV C.2.2.2.2.1 wy hl hR) ⟨g_blind, g_recv C hH hb hfb hc, g_pre C hH _⟩ rfl hn hls hst (lv_room hw) hdg hcs) kk
theorem g_Vv (C : gC E cc nl own p s m args meth c) (hls : ls.size = nl) (hA : ∀ q, H0.size ≤ q → A q) (hH : gH E A L f H0 H locs) {Cn : String} {y : MethodName} {bytes : ByteArray} {maxL n index ci N : Nat} {rm : Room} {b : Nat} {As st0 fs : List Value} {T : u_T} {post : List Nat → gF → Prop} (M : gMv l E y bytes maxL rm (.ref b :: As) L f post) (wy : gWV Cn y bytes maxL none n) (hl : Cond.methodLink own index y ∈ gW) (hb : b ∈ L) (hfb : f b = .inr (ci, fs)) (hc : vwCl[ci]? = some (Cn, T, N)) (hn : As.length = n) (hst : st0 = As.reverse ++ .ref b :: rest) (hw : (rest.map fun v => v.category).sum ≤ 8) (hR : rm.frames + 1 ≤ R.frames ∧ 8 + (maxL + 11) + rm.locals ≤ R.locals) (hcs : cells + rm.cells ≤ R.cells ∧ slots + rm.slots ≤ R.slots) (hdg : decode cc pc = .ok (.invokevirtual index, 3))
    (kk : ∀ (L1 : List Nat) (f1 : gF) (H1 : Heap) (locs1 : List Loc), post L1 f1 → gH E A L1 f1 H0 H1 locs1 → W p l e R s m args below meth c H1 locs1 (cells + rm.cells) (slots + rm.slots) Q (F0 m (pc + 3) ls rest)) : W p l e R s m args below meth c H locs cells slots Q (F0 m pc ls st0) := by
  refine g_callv hH hA (va_runV (As := As) (b := b) (rest := rest) ⟨C.1, C.2.1, C.2.2.1, C.2.2.2.1, C.2.2.2.2.1⟩ (M H.size) (g_cwV C.2.2.2.2.1 wy hl hR) ⟨g_blind, g_recv C hH hb hfb hc, g_pre C hH _⟩ rfl hn hls hst (lv_room hw) hdg hcs) kk
theorem g_cwS {Cn : String} {y : MethodName} {bytes : ByteArray} {maxL n index : Nat} {ret : Option FieldType} {rm : Room} (hts : ∀ w ∈ gW, w.before args s = true) (wy : gWS Cn y bytes maxL ret n) (hl : Cond.methodLink own index y ∈ gW) (hR : rm.frames + 1 ≤ R.frames ∧ 8 + (maxL + 11) + rm.locals ≤ R.locals) : CallB R s args own index y bytes maxL ret (Cond.code y bytes maxL ret :: gW) rm rm.cells rm.slots n ∧ (Cond.static y).before args s = true := by
  refine va_cwS n hts (fun w hw => ?_) rfl rfl rfl wy.2.2 hR
  unfold va_wsS at hw
  rcases List.mem_append.mp hw with h | h
  · simp only [List.mem_cons, List.not_mem_nil, or_false] at h
    rcases h with rfl | rfl | rfl
    · exact ⟨hl, gW_good _ hl⟩
    · exact ⟨wy.1.1, gW_good _ wy.1.1⟩
    · rw [wy.2.1]; exact ⟨wy.1.2.1, gW_good _ wy.1.2.1⟩
  · exact g_goodC wy.1.2.2 w h
theorem g_Si (C : gC E cc nl own p s m args meth c) (hls : ls.size = nl) (hA : ∀ q, H0.size ≤ q → A q) (hH : gH E A L f H0 H locs) {Cn : String} {y : MethodName} {bytes : ByteArray} {maxL n index : Nat} {ret : FieldType} {rm : Room} {As st0 : List Value} {post : Int32 → List Nat → gF → Prop} (M : gMi l E y bytes maxL ret rm As L f post) (wy : gWS Cn y bytes maxL (some ret) n) (hl : Cond.methodLink own index y ∈ gW) (hn : As.length = n) (hst : st0 = As.reverse ++ rest) (hw : (rest.map fun v => v.category).sum ≤ 8) (hR : rm.frames + 1 ≤ R.frames ∧ 8 + (maxL + 11) + rm.locals ≤ R.locals) (hcs : cells + rm.cells ≤ R.cells ∧ slots + rm.slots ≤ R.slots) (hdg : decode cc pc = .ok (.invokestatic index, 3))
    (kk : ∀ (r : Int32) (L1 : List Nat) (f1 : gF) (H1 : Heap) (locs1 : List Loc), post r L1 f1 → gH E A L1 f1 H0 H1 locs1 → W p l e R s m args below meth c H1 locs1 (cells + rm.cells) (slots + rm.slots) Q (F0 m (pc + 3) ls (.int r :: rest))) : W p l e R s m args below meth c H locs cells slots Q (F0 m pc ls st0) :=
  g_calli hH hA (va_runS (As := As) (rest := rest) ⟨C.1, C.2.1, C.2.2.1, C.2.2.2.1, C.2.2.2.2.1⟩ (M H.size) (g_cwS C.2.2.2.2.1 wy hl hR) ⟨g_blind, g_pre C hH _⟩ rfl hn hls hst (lv_room hw) hdg hcs) kk
theorem g_Sv (C : gC E cc nl own p s m args meth c) (hls : ls.size = nl) (hA : ∀ q, H0.size ≤ q → A q) (hH : gH E A L f H0 H locs) {Cn : String} {y : MethodName} {bytes : ByteArray} {maxL n index : Nat} {rm : Room} {As st0 : List Value} {post : List Nat → gF → Prop} (M : gMv l E y bytes maxL rm As L f post) (wy : gWS Cn y bytes maxL none n) (hl : Cond.methodLink own index y ∈ gW) (hn : As.length = n) (hst : st0 = As.reverse ++ rest) (hw : (rest.map fun v => v.category).sum ≤ 8) (hR : rm.frames + 1 ≤ R.frames ∧ 8 + (maxL + 11) + rm.locals ≤ R.locals) (hcs : cells + rm.cells ≤ R.cells ∧ slots + rm.slots ≤ R.slots) (hdg : decode cc pc = .ok (.invokestatic index, 3))
    (kk : ∀ (L1 : List Nat) (f1 : gF) (H1 : Heap) (locs1 : List Loc), post L1 f1 → gH E A L1 f1 H0 H1 locs1 → W p l e R s m args below meth c H1 locs1 (cells + rm.cells) (slots + rm.slots) Q (F0 m (pc + 3) ls rest)) : W p l e R s m args below meth c H locs cells slots Q (F0 m pc ls st0) :=
  g_callv hH hA (va_runS (As := As) (rest := rest) ⟨C.1, C.2.1, C.2.2.1, C.2.2.2.1, C.2.2.2.2.1⟩ (M H.size) (g_cwS C.2.2.2.2.1 wy hl hR) ⟨g_blind, g_pre C hH _⟩ rfl hn hls hst (lv_room hw) hdg hcs) kk
theorem g_Iv (C : gC E cc nl own p s m args meth c) (hls : ls.size = nl) (hA : ∀ q, H0.size ≤ q → A q) (hH : gH E A L f H0 H locs) {Cn : String} {y : MethodName} {bytes : ByteArray} {maxL n index : Nat} {rm : Room} {b : Nat} {As st0 : List Value} {post : List Nat → gF → Prop} (M : gMv l E y bytes maxL rm (.ref b :: As) L f post) (wy : gWI Cn y bytes maxL n) (hl : Cond.methodLink own index y ∈ gW) (hn : As.length = n) (hst : st0 = As.reverse ++ .ref b :: rest) (hw : (rest.map fun v => v.category).sum ≤ 8) (hR : rm.frames + 1 ≤ R.frames ∧ 8 + (maxL + 11) + rm.locals ≤ R.locals) (hcs : cells + rm.cells ≤ R.cells ∧ slots + rm.slots ≤ R.slots) (hdg : decode cc pc = .ok (.invokespecial index, 3))
    (kk : ∀ (L1 : List Nat) (f1 : gF) (H1 : Heap) (locs1 : List Loc), post L1 f1 → gH E A L1 f1 H0 H1 locs1 → W p l e R s m args below meth c H1 locs1 (cells + rm.cells) (slots + rm.slots) Q (F0 m (pc + 3) ls rest)) : W p l e R s m args below meth c H locs cells slots Q (F0 m pc ls st0) :=
  g_callv hH hA (va_runI (As := As) (b := b) (rest := rest) ⟨C.1, C.2.1, C.2.2.1, C.2.2.2.1, C.2.2.2.2.1⟩ (M H.size) (cwI n C.2.2.2.2.1 (g_goodC wy.1.2.2) rfl rfl rfl (by rw [wy.2.1.1]; exact C.2.2.2.2.1 _ wy.1.2.1) (C.2.2.2.2.1 _ hl) (C.2.2.2.2.1 _ wy.1.1) wy.2.2 wy.2.1.2 hR) ⟨g_blind, g_pre C hH _⟩ rfl hn hls hst (lv_room hw) hdg hcs) kk
theorem g_INv (C : gC E cc nl own p s m args meth c) (hls : ls.size = nl) (hA : ∀ q, H0.size ≤ q → A q) (hH : gH E A L f H0 H locs) {Cn host : String} {y : MethodName} {bytes : ByteArray} {maxL n index : Nat} {rm : Room} {b : Nat} {As st0 : List Value} {post : List Nat → gF → Prop} (M : gMv l E y bytes maxL rm (.ref b :: As) L f post) (wy : gWI Cn y bytes maxL n) (hl : (own, index, y, host) ∈ gNest) (hn : As.length = n) (hst : st0 = As.reverse ++ .ref b :: rest) (hw : (rest.map fun v => v.category).sum ≤ 8) (hR : rm.frames + 1 ≤ R.frames ∧ 8 + (maxL + 11) + rm.locals ≤ R.locals) (hcs : cells + rm.cells ≤ R.cells ∧ slots + rm.slots ≤ R.slots) (hdg : decode cc pc = .ok (.invokespecial index, 3))
    (kk : ∀ (L1 : List Nat) (f1 : gF) (H1 : Heap) (locs1 : List Loc), post L1 f1 → gH E A L1 f1 H0 H1 locs1 → W p l e R s m args below meth c H1 locs1 (cells + rm.cells) (slots + rm.slots) Q (F0 m (pc + 3) ls rest)) : W p l e R s m args below meth c H locs cells slots Q (F0 m pc ls st0) :=
  g_callv hH hA (va_runIN (As := As) (b := b) (rest := rest) ⟨C.1, C.2.1, C.2.2.1, C.2.2.2.1, C.2.2.2.2.1⟩ (M H.size) ⟨va_cnB n C.2.2.2.2.1 (g_goodC wy.1.2.2) rfl rfl rfl (C.2.2.2.2.2.1.2.1 _ hl) (by rw [wy.2.1.1]; exact C.2.2.2.2.1 _ wy.1.2.1) wy.2.1.2 hR, wy.2.2, C.2.2.2.2.1 _ wy.1.1⟩ ⟨g_blind, g_pre C hH _⟩ rfl hn hls hst (lv_room hw) hdg hcs) kk
theorem g_SNi (C : gC E cc nl own p s m args meth c) (hls : ls.size = nl) (hA : ∀ q, H0.size ≤ q → A q) (hH : gH E A L f H0 H locs) {Cn host : String} {y : MethodName} {bytes : ByteArray} {maxL n index : Nat} {ret : FieldType} {rm : Room} {As st0 : List Value} {post : Int32 → List Nat → gF → Prop} (M : gMi l E y bytes maxL ret rm As L f post) (wy : gWS Cn y bytes maxL (some ret) n) (hl : (own, index, y, host) ∈ gNest) (hn : As.length = n) (hst : st0 = As.reverse ++ rest) (hw : (rest.map fun v => v.category).sum ≤ 8) (hR : rm.frames + 1 ≤ R.frames ∧ 8 + (maxL + 11) + rm.locals ≤ R.locals) (hcs : cells + rm.cells ≤ R.cells ∧ slots + rm.slots ≤ R.slots) (hdg : decode cc pc = .ok (.invokestatic index, 3))
    (kk : ∀ (r : Int32) (L1 : List Nat) (f1 : gF) (H1 : Heap) (locs1 : List Loc), post r L1 f1 → gH E A L1 f1 H0 H1 locs1 → W p l e R s m args below meth c H1 locs1 (cells + rm.cells) (slots + rm.slots) Q (F0 m (pc + 3) ls (.int r :: rest))) : W p l e R s m args below meth c H locs cells slots Q (F0 m pc ls st0) :=
  g_calli hH hA (va_runSN (As := As) (rest := rest) ⟨C.1, C.2.1, C.2.2.1, C.2.2.2.1, C.2.2.2.2.1⟩ (M H.size) ⟨va_cnB n C.2.2.2.2.1 (g_goodC wy.1.2.2) rfl rfl rfl (C.2.2.2.2.2.1.2.1 _ hl) (by rw [wy.2.1]; exact C.2.2.2.2.1 _ wy.1.2.1) wy.2.2 hR, C.2.2.2.2.1 _ wy.1.1, trivial⟩ ⟨g_blind, g_pre C hH _⟩ rfl hn hls hst (lv_room hw) hdg hcs) kk
theorem g_iret {mc ms : Nat} {r : Int32} {post : Int32 → List Nat → gF → Prop} (C : gC E cc nl own p s m args meth c) (hr : meth.sig.returnType = some .int) (hH : gH E A L f s.heap H locs) (hc : cells ≤ mc) (hs : slots ≤ ms) (hdg : decode cc pc = .ok (.ireturn, 1)) (hp : post r L f) : W p l e R s m args below meth c H locs cells slots (MQ below (gQi E A post) args s mc ms A) (F0 m pc ls [.int r]) := by
  obtain ⟨hx, hb, hml, hown, hts, hK, hlocks⟩ := C
  refine W.widen (k := mc) (n := ms) hc hs ?_
  exact W.iret hx hb hr (fun t ht hW => ⟨⟨r, (L, f), rfl, hp, by rw [ht]; exact hH.1, hH.2.1⟩, hH.2.2.F ht⟩) hH.2.2.2.2 hdg
theorem g_zret {mc ms : Nat} {r : Int32} {ty : FieldType} {post : Int32 → List Nat → gF → Prop} (C : gC E cc nl own p s m args meth c) (hr : meth.sig.returnType = some ty) (hn : narrow ty (.int r) = .int r) (hH : gH E A L f s.heap H locs) (hc : cells ≤ mc) (hs : slots ≤ ms) (hdg : decode cc pc = .ok (.ireturn, 1)) (hp : post r L f) : W p l e R s m args below meth c H locs cells slots (MQ below (gQi E A post) args s mc ms A) (F0 m pc ls [.int r]) := by
  obtain ⟨hx, hb, hml, hown, hts, hK, hlocks⟩ := C
  refine W.widen (k := mc) (n := ms) hc hs ?_
  exact W.zret hx hb hr hn (fun t ht hW => ⟨⟨r, (L, f), rfl, hp, by rw [ht]; exact hH.1, hH.2.1⟩, hH.2.2.F ht⟩) hH.2.2.2.2 hdg
theorem g_vret {mc ms : Nat} {post : List Nat → gF → Prop} (C : gC E cc nl own p s m args meth c) (hr : meth.sig.returnType = none) (hH : gH E A L f s.heap H locs) (hc : cells ≤ mc) (hs : slots ≤ ms) (hdg : decode cc pc = .ok (.return_, 1)) (hp : post L f) : W p l e R s m args below meth c H locs cells slots (MQ below (gQv E A post) args s mc ms A) (F0 m pc ls []) := by
  obtain ⟨hx, hb, hml, hown, hts, hK, hlocks⟩ := C
  refine W.widen (k := mc) (n := ms) hc hs ?_
  exact W.vret hx hb hr (fun t ht hW => ⟨⟨(L, f), rfl, hp, by rw [ht]; exact hH.1, hH.2.1⟩, hH.2.2.F ht⟩) hH.2.2.2.2 hdg
end GC
theorem gMi.intro {l : Launch} {E : gE} {y : MethodName} {cc : ByteArray} {nl : Nat} {ret : FieldType} {rm : Room} {av : List Value} {L : List Nat} {f : gF} {post : Int32 → List Nat → gF → Prop} (hy : plainName y.cls = true) (hn : (lg_sl av).length ≤ nl)
    (body : ∀ (p : Program) (e : Env) (s : State) (m : MethodId) (below : List Frame) (meth : Method) (c : Code) (A : Nat → Prop) (ls : Array Slot), gC E cc nl y.cls p s m av.toArray meth c → meth.sig.returnType = some ret → (∀ q, s.heap.size ≤ q → A q) → gH E A L f s.heap s.heap [] → lv_has ls nl (lv_args 0 av) → W p l e rm s m av.toArray below meth c s.heap [] 0 0 (MQ below (gQi E A post) av.toArray s rm.cells rm.slots A) (F0 m 0 ls [])) : gMi l E y cc nl ret rm av L f post := by
  intro sz
  refine Met.ofW (cc := cc) (maxL := nl) (ret := some ret) hy rfl ?_
  intro p e s m args below meth c s₁ B hml hv
  obtain ⟨rfl, hsz, hP, hK, hD0⟩ := hv
  have hts := atoms_spec (ws := .code y cc nl (some ret) :: gW) B.pre
  subst hsz
  have hl := lv_entry av hn
  rw [lg_entry_eq]
  exact body p e s m below meth c _ _ ⟨B.exec, B.bytes, hml, findClass_of_methodNamed B.named, fun w h => hts w (List.mem_cons_of_mem _ h), hK, B.notSynchronized⟩ B.returns (fun q h => Or.inr h) ⟨hP, hD0.self, va_S.rf⟩ hl
theorem gMv.intro {l : Launch} {E : gE} {y : MethodName} {cc : ByteArray} {nl : Nat} {rm : Room} {av : List Value} {L : List Nat} {f : gF} {post : List Nat → gF → Prop} (hy : plainName y.cls = true) (hn : (lg_sl av).length ≤ nl)
    (body : ∀ (p : Program) (e : Env) (s : State) (m : MethodId) (below : List Frame) (meth : Method) (c : Code) (A : Nat → Prop) (ls : Array Slot), gC E cc nl y.cls p s m av.toArray meth c → meth.sig.returnType = none → meth.name = y.name → (∀ q, s.heap.size ≤ q → A q) → gH E A L f s.heap s.heap [] → lv_has ls nl (lv_args 0 av) → W p l e rm s m av.toArray below meth c s.heap [] 0 0 (MQ below (gQv E A post) av.toArray s rm.cells rm.slots A) (F0 m 0 ls [])) : gMv l E y cc nl rm av L f post := by
  intro sz
  refine Met.ofW (cc := cc) (maxL := nl) (ret := none) hy rfl ?_
  intro p e s m args below meth c s₁ B hml hv
  obtain ⟨rfl, hsz, hP, hK, hD0⟩ := hv
  have hts := atoms_spec (ws := .code y cc nl none :: gW) B.pre
  subst hsz
  have hl := lv_entry av hn
  rw [lg_entry_eq]
  exact body p e s m below meth c _ _ ⟨B.exec, B.bytes, hml, findClass_of_methodNamed B.named, fun w h => hts w (List.mem_cons_of_mem _ h), hK, B.notSynchronized⟩ B.returns (name_of_methodNamed B.named B.method).1 (fun q h => Or.inr h) ⟨hP, hD0.self, va_S.rf⟩ hl
abbrev gRO (v : Int32) (L : List Nat) (f : gF) : Int32 → List Nat → gF → Prop := fun r L1 f1 => r = v ∧ L = L1 ∧ f = f1
theorem avB (n : Nat) : ∀ z : ClassId, vp_cell z (n, .inl (fun _ => 0)) = arrV z n (fun _ => defaultValue .byte) := fun _ => rfl
theorem avI (n : Nat) : ∀ z : ClassId, vp_cell z (n, .inl (fun _ => 0)) = arrV z n (fun _ => defaultValue .int) := fun _ => rfl
theorem avZ (n : Nat) : ∀ z : ClassId, vp_cell z (n, .inl (fun _ => 0)) = arrV z n (fun _ => defaultValue .boolean) := fun _ => rfl
theorem avJ (n : Nat) : ∀ z : ClassId, vp_cell z (n, .inr (.inl (fun _ => 0))) = arrV z n (fun _ => defaultValue .long) := fun _ => rfl
theorem vp_inL {i : Int32} {n : Nat} (h : (0 : Int) ≤ i.toInt ∧ i.toInt < (n : Int)) : vp_in i n := vp_in_iff.mpr h
def gSlot (z : Int32) : Int32 := if z < 0 then 0 else if 4 ≤ z then 0 else 1
theorem g_neN {f : gF} {a b n m : Nat} {cA cB : ClassId} {x y : (Nat → Int32) ⊕ ((Nat → Int64) ⊕ ((Nat → UInt32) ⊕ ((Nat → UInt64) ⊕ (Nat → Option Nat))))} (h1 : f a = .inl (cA, n, x)) (h2 : f b = .inl (cB, m, y)) (h : n ≠ m) : a ≠ b := g_ne h1 h2 (fun e => h (congrArg (fun q : ClassId × vp_A => q.2.1) (Sum.inl.inj e)))
theorem g_arrUpI {f f2 : gF} {a b n m : Nat} {u v w : Nat → Int32} {cA : ClassId} (e : f2 = va_up f b (.inl (cA, m, .inl w))) (ha : f a = .inl (cA, n, .inl u)) (hb : f b = .inl (cA, m, .inl v)) : ∃ z, f2 a = .inl (cA, n, .inl z) := by
  by_cases h : a = b
  · subst h
    rw [ha] at hb
    have h2 : n = m := congrArg (fun q : ClassId × vp_A => q.2.1) (Sum.inl.inj hb)
    subst h2
    exact ⟨w, (congrFun e a).trans (va_up_self _ _ _)⟩
  · exact ⟨u, ((congrFun e a).trans (va_up_ne _ _ h)).trans ha⟩
def gLen (i : Nat) : Nat := [4, 4, 4, 6, 6, 6, 40, 40, 20, 80].getD i 0
def gArrs (E : gE) (L : List Nat) (f : gF) (na : Nat → Nat) : Prop := ∀ i, i < 10 → na i ∈ L ∧ ∃ v, f (na i) = .inl (E.2.2 1, gLen i, .inl v)
theorem gArrs_upO {E : gE} {L : List Nat} {f f2 : gF} {na : Nat → Nat} {q ci : Nat} {x : List Value} {y : va_E} (e : f2 = va_up f q y) (hq : f q = .inr (ci, x)) (h : gArrs E L f na) : gArrs E L f2 na := fun i hi => by
  obtain ⟨h1, v, h2⟩ := h i hi
  exact ⟨h1, v, ((congrFun e _).trans (va_up_ne _ _ (g_neAO h2 hq))).trans h2⟩
theorem gArrs_upI {E : gE} {L : List Nat} {f f2 : gF} {na : Nat → Nat} {q m : Nat} {u w : Nat → Int32} (e : f2 = va_up f q (.inl (E.2.2 1, m, .inl w))) (hq : f q = .inl (E.2.2 1, m, .inl u)) (h : gArrs E L f na) : gArrs E L f2 na := fun i hi => by
  obtain ⟨h1, v, h2⟩ := h i hi
  obtain ⟨z, hz⟩ := g_arrUpI e h2 hq
  exact ⟨h1, z, hz⟩
theorem g_sw (x : Int32) (lo hi : Int) (h : lo ≤ hi) : (x.toInt < lo ∨ hi < x.toInt) ∨ ∃ j : Nat, (j : Int) ≤ hi - lo ∧ x.toInt = lo + (j : Int) := by
  by_cases h1 : x.toInt < lo
  · exact Or.inl (Or.inl h1)
  · by_cases h2 : hi < x.toInt
    · exact Or.inl (Or.inr h2)
    · exact Or.inr ⟨(x.toInt - lo).toNat, by omega, by omega⟩
theorem g_swE {x v : Int32} {z : Int} (h : x.toInt = z) (hv : v.toInt = z) : x = v := Int32.toInt_inj.mp (h.trans hv.symm)
end
section
theorem dX3_cells_0 : decode cX3_cells 0 = .ok (.aload_n 0, 1) := by decide +kernel
theorem dX3_cells_1 : decode cX3_cells 1 = .ok (.getfield 46, 3) := by decide +kernel
theorem dX3_cells_4 : decode cX3_cells 4 = .ok (.aload_n 0, 1) := by decide +kernel
theorem dX3_cells_5 : decode cX3_cells 5 = .ok (.getfield 49, 3) := by decide +kernel
theorem dX3_cells_8 : decode cX3_cells 8 = .ok (.imul, 1) := by decide +kernel
theorem dX3_cells_9 : decode cX3_cells 9 = .ok (.ireturn, 1) := by decide +kernel
theorem dX3_hasCell_0 : decode cX3_hasCell 0 = .ok (.iload_n 1, 1) := by decide +kernel
theorem dX3_hasCell_1 : decode cX3_hasCell 1 = .ok (.ifCond .lt 15, 3) := by decide +kernel
theorem dX3_hasCell_4 : decode cX3_hasCell 4 = .ok (.iload_n 1, 1) := by decide +kernel
theorem dX3_hasCell_5 : decode cX3_hasCell 5 = .ok (.aload_n 0, 1) := by decide +kernel
theorem dX3_hasCell_6 : decode cX3_hasCell 6 = .ok (.invokevirtual 79, 3) := by decide +kernel
theorem dX3_hasCell_9 : decode cX3_hasCell 9 = .ok (.if_icmp .ge 7, 3) := by decide +kernel
theorem dX3_hasCell_16 : decode cX3_hasCell 16 = .ok (.iconst 0, 1) := by decide +kernel
theorem dX3_hasCell_17 : decode cX3_hasCell 17 = .ok (.ireturn, 1) := by decide +kernel
theorem dX3_hasFlight_0 : decode cX3_hasFlight 0 = .ok (.iload_n 1, 1) := by decide +kernel
theorem dX3_hasFlight_1 : decode cX3_hasFlight 1 = .ok (.ifCond .lt 15, 3) := by decide +kernel
theorem dX3_hasFlight_4 : decode cX3_hasFlight 4 = .ok (.iload_n 1, 1) := by decide +kernel
theorem dX3_hasFlight_5 : decode cX3_hasFlight 5 = .ok (.aload_n 0, 1) := by decide +kernel
theorem dX3_hasFlight_6 : decode cX3_hasFlight 6 = .ok (.getfield 61, 3) := by decide +kernel
theorem dX3_hasFlight_9 : decode cX3_hasFlight 9 = .ok (.if_icmp .ge 7, 3) := by decide +kernel
theorem dX3_hasFlight_16 : decode cX3_hasFlight 16 = .ok (.iconst 0, 1) := by decide +kernel
theorem dX3_hasFlight_17 : decode cX3_hasFlight 17 = .ok (.ireturn, 1) := by decide +kernel
theorem dX3_hasMember_0 : decode cX3_hasMember 0 = .ok (.iload_n 1, 1) := by decide +kernel
theorem dX3_hasMember_1 : decode cX3_hasMember 1 = .ok (.ifCond .lt 15, 3) := by decide +kernel
theorem dX3_hasMember_4 : decode cX3_hasMember 4 = .ok (.iload_n 1, 1) := by decide +kernel
theorem dX3_hasMember_5 : decode cX3_hasMember 5 = .ok (.aload_n 0, 1) := by decide +kernel
theorem dX3_hasMember_6 : decode cX3_hasMember 6 = .ok (.getfield 64, 3) := by decide +kernel
theorem dX3_hasMember_9 : decode cX3_hasMember 9 = .ok (.if_icmp .ge 7, 3) := by decide +kernel
theorem dX3_hasMember_16 : decode cX3_hasMember 16 = .ok (.iconst 0, 1) := by decide +kernel
theorem dX3_hasMember_17 : decode cX3_hasMember 17 = .ok (.ireturn, 1) := by decide +kernel
theorem dX3_hasSet_0 : decode cX3_hasSet 0 = .ok (.aload_n 0, 1) := by decide +kernel
theorem dX3_hasSet_1 : decode cX3_hasSet 1 = .ok (.invokevirtual 99, 3) := by decide +kernel
theorem dX3_hasSet_4 : decode cX3_hasSet 4 = .ok (.ifCond .ne 19, 3) := by decide +kernel
theorem dX3_hasSet_23 : decode cX3_hasSet 23 = .ok (.iconst 0, 1) := by decide +kernel
theorem dX3_hasSet_24 : decode cX3_hasSet 24 = .ok (.ireturn, 1) := by decide +kernel
theorem dX3_isNone_0 : decode cX3_isNone 0 = .ok (.aload_n 0, 1) := by decide +kernel
theorem dX3_isNone_1 : decode cX3_isNone 1 = .ok (.getfield 42, 3) := by decide +kernel
theorem dX3_isNone_4 : decode cX3_isNone 4 = .ok (.ifCond .ne 7, 3) := by decide +kernel
theorem dX3_isNone_7 : decode cX3_isNone 7 = .ok (.iconst 1, 1) := by decide +kernel
theorem dX3_isNone_8 : decode cX3_isNone 8 = .ok (.goto 4, 3) := by decide +kernel
theorem dX3_isNone_12 : decode cX3_isNone 12 = .ok (.ireturn, 1) := by decide +kernel
theorem dX9_anew_0 : decode cX9_anew 0 = .ok (.aload_n 0, 1) := by decide +kernel
theorem dX9_anew_1 : decode cX9_anew 1 = .ok (.getfield 19, 3) := by decide +kernel
theorem dX9_anew_4 : decode cX9_anew 4 = .ok (.invokevirtual 141, 3) := by decide +kernel
theorem dX9_anew_7 : decode cX9_anew 7 = .ok (.ifCond .eq 6, 3) := by decide +kernel
theorem dX9_anew_10 : decode cX9_anew 10 = .ok (.bipush (-2), 2) := by decide +kernel
theorem dX9_anew_12 : decode cX9_anew 12 = .ok (.ireturn, 1) := by decide +kernel
theorem dX9_areTwo_0 : decode cX9_areTwo 0 = .ok (.aload_n 0, 1) := by decide +kernel
theorem dX9_areTwo_1 : decode cX9_areTwo 1 = .ok (.getfield 19, 3) := by decide +kernel
theorem dX9_areTwo_4 : decode cX9_areTwo 4 = .ok (.iload_n 1, 1) := by decide +kernel
theorem dX9_areTwo_5 : decode cX9_areTwo 5 = .ok (.invokevirtual 130, 3) := by decide +kernel
theorem dX9_areTwo_8 : decode cX9_areTwo 8 = .ok (.ifCond .eq 23, 3) := by decide +kernel
theorem dX9_areTwo_31 : decode cX9_areTwo 31 = .ok (.iconst 0, 1) := by decide +kernel
theorem dX9_areTwo_32 : decode cX9_areTwo 32 = .ok (.ireturn, 1) := by decide +kernel
theorem dX9_ask_0 : decode cX9_ask 0 = .ok (.aload_n 0, 1) := by decide +kernel
theorem dX9_ask_1 : decode cX9_ask 1 = .ok (.iload_n 1, 1) := by decide +kernel
theorem dX9_ask_2 : decode cX9_ask 2 = .ok (.invokevirtual 268, 3) := by decide +kernel
theorem dX9_ask_5 : decode cX9_ask 5 = .ok (.istore_n 2, 1) := by decide +kernel
theorem dX9_ask_6 : decode cX9_ask 6 = .ok (.iload_n 2, 1) := by decide +kernel
theorem dX9_ask_7 : decode cX9_ask 7 = .ok (.ifCond .eq 7, 3) := by decide +kernel
theorem dX9_ask_10 : decode cX9_ask 10 = .ok (.iload_n 2, 1) := by decide +kernel
theorem dX9_ask_11 : decode cX9_ask 11 = .ok (.goto 23, 3) := by decide +kernel
theorem dX9_ask_34 : decode cX9_ask 34 = .ok (.ireturn, 1) := by decide +kernel
theorem dX9_at_0 : decode cX9_at 0 = .ok (.aload_n 0, 1) := by decide +kernel
theorem dX9_at_1 : decode cX9_at 1 = .ok (.getfield 19, 3) := by decide +kernel
theorem dX9_at_4 : decode cX9_at 4 = .ok (.iload_n 1, 1) := by decide +kernel
theorem dX9_at_5 : decode cX9_at 5 = .ok (.invokevirtual 116, 3) := by decide +kernel
theorem dX9_at_8 : decode cX9_at 8 = .ok (.ifCond .eq 10, 3) := by decide +kernel
theorem dX9_at_18 : decode cX9_at 18 = .ok (.bipush (-2), 2) := by decide +kernel
theorem dX9_at_20 : decode cX9_at 20 = .ok (.ireturn, 1) := by decide +kernel
theorem dX9_began_0 : decode cX9_began 0 = .ok (.aload_n 0, 1) := by decide +kernel
theorem dX9_began_1 : decode cX9_began 1 = .ok (.iload_n 1, 1) := by decide +kernel
theorem dX9_began_2 : decode cX9_began 2 = .ok (.invokevirtual 278, 3) := by decide +kernel
theorem dX9_began_5 : decode cX9_began 5 = .ok (.istore_n 2, 1) := by decide +kernel
theorem dX9_began_6 : decode cX9_began 6 = .ok (.iload_n 2, 1) := by decide +kernel
theorem dX9_began_7 : decode cX9_began 7 = .ok (.ifCond .eq 7, 3) := by decide +kernel
theorem dX9_began_10 : decode cX9_began 10 = .ok (.iload_n 2, 1) := by decide +kernel
theorem dX9_began_11 : decode cX9_began 11 = .ok (.goto 16, 3) := by decide +kernel
theorem dX9_began_27 : decode cX9_began 27 = .ok (.ireturn, 1) := by decide +kernel
theorem dX9_bends_0 : decode cX9_bends 0 = .ok (.aload_n 0, 1) := by decide +kernel
theorem dX9_bends_1 : decode cX9_bends 1 = .ok (.getfield 19, 3) := by decide +kernel
theorem dX9_bends_4 : decode cX9_bends 4 = .ok (.iload_n 1, 1) := by decide +kernel
theorem dX9_bends_5 : decode cX9_bends 5 = .ok (.invokevirtual 116, 3) := by decide +kernel
theorem dX9_bends_8 : decode cX9_bends 8 = .ok (.ifCond .ne 6, 3) := by decide +kernel
theorem dX9_bends_11 : decode cX9_bends 11 = .ok (.bipush (-2), 2) := by decide +kernel
theorem dX9_bends_13 : decode cX9_bends 13 = .ok (.ireturn, 1) := by decide +kernel
theorem dX9_best_0 : decode cX9_best 0 = .ok (.aload_n 0, 1) := by decide +kernel
theorem dX9_best_1 : decode cX9_best 1 = .ok (.getfield 19, 3) := by decide +kernel
theorem dX9_best_4 : decode cX9_best 4 = .ok (.invokevirtual 141, 3) := by decide +kernel
theorem dX9_best_7 : decode cX9_best 7 = .ok (.ifCond .ne 10, 3) := by decide +kernel
theorem dX9_best_17 : decode cX9_best 17 = .ok (.bipush (-2), 2) := by decide +kernel
theorem dX9_best_19 : decode cX9_best 19 = .ok (.ireturn, 1) := by decide +kernel
theorem dX9_bests_0 : decode cX9_bests 0 = .ok (.aload_n 0, 1) := by decide +kernel
theorem dX9_bests_1 : decode cX9_bests 1 = .ok (.getfield 19, 3) := by decide +kernel
theorem dX9_bests_4 : decode cX9_bests 4 = .ok (.invokevirtual 141, 3) := by decide +kernel
theorem dX9_bests_7 : decode cX9_bests 7 = .ok (.ifCond .ne 10, 3) := by decide +kernel
theorem dX9_bests_17 : decode cX9_bests 17 = .ok (.bipush (-2), 2) := by decide +kernel
theorem dX9_bests_19 : decode cX9_bests 19 = .ok (.ireturn, 1) := by decide +kernel
theorem dX9_by_0 : decode cX9_by 0 = .ok (.aload_n 0, 1) := by decide +kernel
theorem dX9_by_1 : decode cX9_by 1 = .ok (.getfield 19, 3) := by decide +kernel
theorem dX9_by_4 : decode cX9_by 4 = .ok (.invokevirtual 141, 3) := by decide +kernel
theorem dX9_by_7 : decode cX9_by 7 = .ok (.ifCond .ne 12, 3) := by decide +kernel
theorem dX9_by_19 : decode cX9_by 19 = .ok (.bipush (-2), 2) := by decide +kernel
theorem dX9_by_21 : decode cX9_by 21 = .ok (.ireturn, 1) := by decide +kernel
theorem dX9_calls_0 : decode cX9_calls 0 = .ok (.aload_n 0, 1) := by decide +kernel
theorem dX9_calls_1 : decode cX9_calls 1 = .ok (.getfield 19, 3) := by decide +kernel
theorem dX9_calls_4 : decode cX9_calls 4 = .ok (.invokevirtual 141, 3) := by decide +kernel
theorem dX9_calls_7 : decode cX9_calls 7 = .ok (.ifCond .ne 10, 3) := by decide +kernel
theorem dX9_calls_17 : decode cX9_calls 17 = .ok (.bipush (-2), 2) := by decide +kernel
theorem dX9_calls_19 : decode cX9_calls 19 = .ok (.ireturn, 1) := by decide +kernel
theorem dX9_chance_0 : decode cX9_chance 0 = .ok (.aload_n 0, 1) := by decide +kernel
theorem dX9_chance_1 : decode cX9_chance 1 = .ok (.getfield 19, 3) := by decide +kernel
theorem dX9_chance_4 : decode cX9_chance 4 = .ok (.iload_n 1, 1) := by decide +kernel
theorem dX9_chance_5 : decode cX9_chance 5 = .ok (.invokevirtual 130, 3) := by decide +kernel
theorem dX9_chance_8 : decode cX9_chance 8 = .ok (.ifCond .eq 10, 3) := by decide +kernel
theorem dX9_chance_18 : decode cX9_chance 18 = .ok (.bipush (-2), 2) := by decide +kernel
theorem dX9_chance_20 : decode cX9_chance 20 = .ok (.ireturn, 1) := by decide +kernel
theorem dX9_cut_0 : decode cX9_cut 0 = .ok (.aload_n 0, 1) := by decide +kernel
theorem dX9_cut_1 : decode cX9_cut 1 = .ok (.getfield 19, 3) := by decide +kernel
theorem dX9_cut_4 : decode cX9_cut 4 = .ok (.iload_n 1, 1) := by decide +kernel
theorem dX9_cut_5 : decode cX9_cut 5 = .ok (.invokevirtual 130, 3) := by decide +kernel
theorem dX9_cut_8 : decode cX9_cut 8 = .ok (.ifCond .eq 10, 3) := by decide +kernel
theorem dX9_cut_18 : decode cX9_cut 18 = .ok (.bipush (-2), 2) := by decide +kernel
theorem dX9_cut_20 : decode cX9_cut 20 = .ok (.ireturn, 1) := by decide +kernel
theorem dX9_drawn_0 : decode cX9_drawn 0 = .ok (.aload_n 0, 1) := by decide +kernel
theorem dX9_drawn_1 : decode cX9_drawn 1 = .ok (.getfield 19, 3) := by decide +kernel
theorem dX9_drawn_4 : decode cX9_drawn 4 = .ok (.invokevirtual 141, 3) := by decide +kernel
theorem dX9_drawn_7 : decode cX9_drawn 7 = .ok (.ifCond .ne 19, 3) := by decide +kernel
theorem dX9_drawn_26 : decode cX9_drawn 26 = .ok (.bipush (-2), 2) := by decide +kernel
theorem dX9_drawn_28 : decode cX9_drawn 28 = .ok (.ireturn, 1) := by decide +kernel
theorem dX9_ears_0 : decode cX9_ears 0 = .ok (.aload_n 0, 1) := by decide +kernel
theorem dX9_ears_1 : decode cX9_ears 1 = .ok (.getfield 19, 3) := by decide +kernel
theorem dX9_ears_4 : decode cX9_ears 4 = .ok (.iload_n 1, 1) := by decide +kernel
theorem dX9_ears_5 : decode cX9_ears 5 = .ok (.invokevirtual 170, 3) := by decide +kernel
theorem dX9_ears_8 : decode cX9_ears 8 = .ok (.ifCond .ne 6, 3) := by decide +kernel
theorem dX9_ears_11 : decode cX9_ears 11 = .ok (.bipush (-2), 2) := by decide +kernel
theorem dX9_ears_13 : decode cX9_ears 13 = .ok (.ireturn, 1) := by decide +kernel
theorem dX9_farthest_0 : decode cX9_farthest 0 = .ok (.aload_n 0, 1) := by decide +kernel
theorem dX9_farthest_1 : decode cX9_farthest 1 = .ok (.getfield 19, 3) := by decide +kernel
theorem dX9_farthest_4 : decode cX9_farthest 4 = .ok (.iload_n 1, 1) := by decide +kernel
theorem dX9_farthest_5 : decode cX9_farthest 5 = .ok (.invokevirtual 116, 3) := by decide +kernel
theorem dX9_farthest_8 : decode cX9_farthest 8 = .ok (.ifCond .ne 6, 3) := by decide +kernel
theorem dX9_farthest_11 : decode cX9_farthest 11 = .ok (.bipush (-2), 2) := by decide +kernel
theorem dX9_farthest_13 : decode cX9_farthest 13 = .ok (.ireturn, 1) := by decide +kernel
theorem dX9_fewest_0 : decode cX9_fewest 0 = .ok (.aload_n 0, 1) := by decide +kernel
theorem dX9_fewest_1 : decode cX9_fewest 1 = .ok (.getfield 19, 3) := by decide +kernel
theorem dX9_fewest_4 : decode cX9_fewest 4 = .ok (.iload_n 1, 1) := by decide +kernel
theorem dX9_fewest_5 : decode cX9_fewest 5 = .ok (.invokevirtual 238, 3) := by decide +kernel
theorem dX9_fewest_8 : decode cX9_fewest 8 = .ok (.ifCond .ne 6, 3) := by decide +kernel
theorem dX9_fewest_11 : decode cX9_fewest 11 = .ok (.bipush (-2), 2) := by decide +kernel
theorem dX9_fewest_13 : decode cX9_fewest 13 = .ok (.ireturn, 1) := by decide +kernel
theorem dX9_first_0 : decode cX9_first 0 = .ok (.aload_n 0, 1) := by decide +kernel
theorem dX9_first_1 : decode cX9_first 1 = .ok (.getfield 19, 3) := by decide +kernel
theorem dX9_first_4 : decode cX9_first 4 = .ok (.invokevirtual 141, 3) := by decide +kernel
theorem dX9_first_7 : decode cX9_first 7 = .ok (.ifCond .eq 6, 3) := by decide +kernel
theorem dX9_first_10 : decode cX9_first 10 = .ok (.bipush (-2), 2) := by decide +kernel
theorem dX9_first_12 : decode cX9_first 12 = .ok (.ireturn, 1) := by decide +kernel
theorem dX9_flight_0 : decode cX9_flight 0 = .ok (.aload_n 0, 1) := by decide +kernel
theorem dX9_flight_1 : decode cX9_flight 1 = .ok (.getfield 19, 3) := by decide +kernel
theorem dX9_flight_4 : decode cX9_flight 4 = .ok (.iload_n 1, 1) := by decide +kernel
theorem dX9_flight_5 : decode cX9_flight 5 = .ok (.invokevirtual 116, 3) := by decide +kernel
theorem dX9_flight_8 : decode cX9_flight 8 = .ok (.ifCond .ne 6, 3) := by decide +kernel
theorem dX9_flight_11 : decode cX9_flight 11 = .ok (.bipush (-2), 2) := by decide +kernel
theorem dX9_flight_13 : decode cX9_flight 13 = .ok (.ireturn, 1) := by decide +kernel
theorem dX9_flown_0 : decode cX9_flown 0 = .ok (.aload_n 0, 1) := by decide +kernel
theorem dX9_flown_1 : decode cX9_flown 1 = .ok (.getfield 19, 3) := by decide +kernel
theorem dX9_flown_4 : decode cX9_flown 4 = .ok (.invokevirtual 141, 3) := by decide +kernel
theorem dX9_flown_7 : decode cX9_flown 7 = .ok (.ifCond .ne 19, 3) := by decide +kernel
theorem dX9_flown_26 : decode cX9_flown 26 = .ok (.bipush (-2), 2) := by decide +kernel
theorem dX9_flown_28 : decode cX9_flown 28 = .ok (.ireturn, 1) := by decide +kernel
theorem dX9_geese_0 : decode cX9_geese 0 = .ok (.aload_n 0, 1) := by decide +kernel
theorem dX9_geese_1 : decode cX9_geese 1 = .ok (.getfield 19, 3) := by decide +kernel
theorem dX9_geese_4 : decode cX9_geese 4 = .ok (.iload_n 1, 1) := by decide +kernel
theorem dX9_geese_5 : decode cX9_geese 5 = .ok (.invokevirtual 170, 3) := by decide +kernel
theorem dX9_geese_8 : decode cX9_geese 8 = .ok (.ifCond .eq 10, 3) := by decide +kernel
theorem dX9_geese_18 : decode cX9_geese 18 = .ok (.bipush (-2), 2) := by decide +kernel
theorem dX9_geese_20 : decode cX9_geese 20 = .ok (.ireturn, 1) := by decide +kernel
theorem dX9_has_0 : decode cX9_has 0 = .ok (.aload_n 0, 1) := by decide +kernel
theorem dX9_has_1 : decode cX9_has 1 = .ok (.iload_n 1, 1) := by decide +kernel
theorem dX9_has_2 : decode cX9_has 2 = .ok (.iload_n 2, 1) := by decide +kernel
theorem dX9_has_3 : decode cX9_has 3 = .ok (.invokevirtual 333, 3) := by decide +kernel
theorem dX9_has_6 : decode cX9_has 6 = .ok (.ifCond .eq 18, 3) := by decide +kernel
theorem dX9_has_24 : decode cX9_has 24 = .ok (.sipush (-1000), 3) := by decide +kernel
theorem dX9_has_27 : decode cX9_has 27 = .ok (.ireturn, 1) := by decide +kernel
theorem dX9_heads_0 : decode cX9_heads 0 = .ok (.aload_n 0, 1) := by decide +kernel
theorem dX9_heads_1 : decode cX9_heads 1 = .ok (.getfield 19, 3) := by decide +kernel
theorem dX9_heads_4 : decode cX9_heads 4 = .ok (.iload_n 1, 1) := by decide +kernel
theorem dX9_heads_5 : decode cX9_heads 5 = .ok (.invokevirtual 116, 3) := by decide +kernel
theorem dX9_heads_8 : decode cX9_heads 8 = .ok (.ifCond .eq 10, 3) := by decide +kernel
theorem dX9_heads_18 : decode cX9_heads 18 = .ok (.bipush (-2), 2) := by decide +kernel
theorem dX9_heads_20 : decode cX9_heads 20 = .ok (.ireturn, 1) := by decide +kernel
theorem dX9_heard_0 : decode cX9_heard 0 = .ok (.aload_n 0, 1) := by decide +kernel
theorem dX9_heard_1 : decode cX9_heard 1 = .ok (.getfield 19, 3) := by decide +kernel
theorem dX9_heard_4 : decode cX9_heard 4 = .ok (.iload_n 1, 1) := by decide +kernel
theorem dX9_heard_5 : decode cX9_heard 5 = .ok (.invokevirtual 130, 3) := by decide +kernel
theorem dX9_heard_8 : decode cX9_heard 8 = .ok (.ifCond .ne 6, 3) := by decide +kernel
theorem dX9_heard_11 : decode cX9_heard 11 = .ok (.bipush (-2), 2) := by decide +kernel
theorem dX9_heard_13 : decode cX9_heard 13 = .ok (.ireturn, 1) := by decide +kernel
theorem dX9_hears_0 : decode cX9_hears 0 = .ok (.aload_n 0, 1) := by decide +kernel
theorem dX9_hears_1 : decode cX9_hears 1 = .ok (.getfield 19, 3) := by decide +kernel
theorem dX9_hears_4 : decode cX9_hears 4 = .ok (.iload_n 1, 1) := by decide +kernel
theorem dX9_hears_5 : decode cX9_hears 5 = .ok (.invokevirtual 130, 3) := by decide +kernel
theorem dX9_hears_8 : decode cX9_hears 8 = .ok (.ifCond .eq 14, 3) := by decide +kernel
theorem dX9_hears_22 : decode cX9_hears 22 = .ok (.bipush (-2), 2) := by decide +kernel
theorem dX9_hears_24 : decode cX9_hears 24 = .ok (.ireturn, 1) := by decide +kernel
theorem dX9_home_0 : decode cX9_home 0 = .ok (.aload_n 0, 1) := by decide +kernel
theorem dX9_home_1 : decode cX9_home 1 = .ok (.getfield 19, 3) := by decide +kernel
theorem dX9_home_4 : decode cX9_home 4 = .ok (.iload_n 1, 1) := by decide +kernel
theorem dX9_home_5 : decode cX9_home 5 = .ok (.invokevirtual 130, 3) := by decide +kernel
theorem dX9_home_8 : decode cX9_home 8 = .ok (.ifCond .ne 6, 3) := by decide +kernel
theorem dX9_home_11 : decode cX9_home 11 = .ok (.bipush (-2), 2) := by decide +kernel
theorem dX9_home_13 : decode cX9_home 13 = .ok (.ireturn, 1) := by decide +kernel
theorem dX9_homes_0 : decode cX9_homes 0 = .ok (.aload_n 0, 1) := by decide +kernel
theorem dX9_homes_1 : decode cX9_homes 1 = .ok (.getfield 19, 3) := by decide +kernel
theorem dX9_homes_4 : decode cX9_homes 4 = .ok (.invokevirtual 141, 3) := by decide +kernel
theorem dX9_homes_7 : decode cX9_homes 7 = .ok (.ifCond .eq 6, 3) := by decide +kernel
theorem dX9_homes_10 : decode cX9_homes 10 = .ok (.bipush (-2), 2) := by decide +kernel
theorem dX9_homes_12 : decode cX9_homes 12 = .ok (.ireturn, 1) := by decide +kernel
theorem dX9_income_0 : decode cX9_income 0 = .ok (.aload_n 0, 1) := by decide +kernel
theorem dX9_income_1 : decode cX9_income 1 = .ok (.getfield 19, 3) := by decide +kernel
theorem dX9_income_4 : decode cX9_income 4 = .ok (.invokevirtual 141, 3) := by decide +kernel
theorem dX9_income_7 : decode cX9_income 7 = .ok (.ifCond .eq 8, 3) := by decide +kernel
theorem dX9_income_10 : decode cX9_income 10 = .ok (.bipush (-2), 2) := by decide +kernel
theorem dX9_income_12 : decode cX9_income 12 = .ok (.goto 21, 3) := by decide +kernel
theorem dX9_income_33 : decode cX9_income 33 = .ok (.ireturn, 1) := by decide +kernel
theorem dX9_isSlot_0 : decode cX9_isSlot 0 = .ok (.iload_n 0, 1) := by decide +kernel
theorem dX9_isSlot_1 : decode cX9_isSlot 1 = .ok (.ifCond .lt 12, 3) := by decide +kernel
theorem dX9_isSlot_4 : decode cX9_isSlot 4 = .ok (.iload_n 0, 1) := by decide +kernel
theorem dX9_isSlot_5 : decode cX9_isSlot 5 = .ok (.iconst 4, 1) := by decide +kernel
theorem dX9_isSlot_6 : decode cX9_isSlot 6 = .ok (.if_icmp .ge 7, 3) := by decide +kernel
theorem dX9_isSlot_9 : decode cX9_isSlot 9 = .ok (.iconst 1, 1) := by decide +kernel
theorem dX9_isSlot_10 : decode cX9_isSlot 10 = .ok (.goto 4, 3) := by decide +kernel
theorem dX9_isSlot_13 : decode cX9_isSlot 13 = .ok (.iconst 0, 1) := by decide +kernel
theorem dX9_isSlot_14 : decode cX9_isSlot 14 = .ok (.ireturn, 1) := by decide +kernel
theorem dX9_lacks_0 : decode cX9_lacks 0 = .ok (.aload_n 0, 1) := by decide +kernel
theorem dX9_lacks_1 : decode cX9_lacks 1 = .ok (.getfield 19, 3) := by decide +kernel
theorem dX9_lacks_4 : decode cX9_lacks 4 = .ok (.invokevirtual 141, 3) := by decide +kernel
theorem dX9_lacks_7 : decode cX9_lacks 7 = .ok (.ifCond .eq 6, 3) := by decide +kernel
theorem dX9_lacks_10 : decode cX9_lacks 10 = .ok (.bipush (-2), 2) := by decide +kernel
theorem dX9_lacks_12 : decode cX9_lacks 12 = .ok (.ireturn, 1) := by decide +kernel
theorem dX9_lamps_0 : decode cX9_lamps 0 = .ok (.aload_n 0, 1) := by decide +kernel
theorem dX9_lamps_1 : decode cX9_lamps 1 = .ok (.getfield 19, 3) := by decide +kernel
theorem dX9_lamps_4 : decode cX9_lamps 4 = .ok (.invokevirtual 141, 3) := by decide +kernel
theorem dX9_lamps_7 : decode cX9_lamps 7 = .ok (.ifCond .eq 8, 3) := by decide +kernel
theorem dX9_lamps_10 : decode cX9_lamps 10 = .ok (.bipush (-2), 2) := by decide +kernel
theorem dX9_lamps_12 : decode cX9_lamps 12 = .ok (.goto 10, 3) := by decide +kernel
theorem dX9_lamps_22 : decode cX9_lamps 22 = .ok (.ireturn, 1) := by decide +kernel
theorem dX9_law_0 : decode cX9_law 0 = .ok (.aload_n 0, 1) := by decide +kernel
theorem dX9_law_1 : decode cX9_law 1 = .ok (.getfield 19, 3) := by decide +kernel
theorem dX9_law_4 : decode cX9_law 4 = .ok (.invokevirtual 141, 3) := by decide +kernel
theorem dX9_law_7 : decode cX9_law 7 = .ok (.ifCond .eq 6, 3) := by decide +kernel
theorem dX9_law_10 : decode cX9_law 10 = .ok (.bipush (-2), 2) := by decide +kernel
theorem dX9_law_12 : decode cX9_law 12 = .ok (.ireturn, 1) := by decide +kernel
theorem dX9_laws_0 : decode cX9_laws 0 = .ok (.aload_n 0, 1) := by decide +kernel
theorem dX9_laws_1 : decode cX9_laws 1 = .ok (.iload_n 1, 1) := by decide +kernel
theorem dX9_laws_2 : decode cX9_laws 2 = .ok (.invokevirtual 268, 3) := by decide +kernel
theorem dX9_laws_5 : decode cX9_laws 5 = .ok (.istore_n 2, 1) := by decide +kernel
theorem dX9_laws_6 : decode cX9_laws 6 = .ok (.iload_n 2, 1) := by decide +kernel
theorem dX9_laws_7 : decode cX9_laws 7 = .ok (.ifCond .eq 7, 3) := by decide +kernel
theorem dX9_laws_10 : decode cX9_laws 10 = .ok (.iload_n 2, 1) := by decide +kernel
theorem dX9_laws_11 : decode cX9_laws 11 = .ok (.goto 16, 3) := by decide +kernel
theorem dX9_laws_27 : decode cX9_laws 27 = .ok (.ireturn, 1) := by decide +kernel
theorem dX9_leaves_0 : decode cX9_leaves 0 = .ok (.aload_n 0, 1) := by decide +kernel
theorem dX9_leaves_1 : decode cX9_leaves 1 = .ok (.iload_n 1, 1) := by decide +kernel
theorem dX9_leaves_2 : decode cX9_leaves 2 = .ok (.invokevirtual 278, 3) := by decide +kernel
theorem dX9_leaves_5 : decode cX9_leaves 5 = .ok (.istore_n 2, 1) := by decide +kernel
theorem dX9_leaves_6 : decode cX9_leaves 6 = .ok (.iload_n 2, 1) := by decide +kernel
theorem dX9_leaves_7 : decode cX9_leaves 7 = .ok (.ifCond .eq 5, 3) := by decide +kernel
theorem dX9_leaves_10 : decode cX9_leaves 10 = .ok (.iload_n 2, 1) := by decide +kernel
theorem dX9_leaves_11 : decode cX9_leaves 11 = .ok (.ireturn, 1) := by decide +kernel
theorem dX9_less_0 : decode cX9_less 0 = .ok (.aload_n 0, 1) := by decide +kernel
theorem dX9_less_1 : decode cX9_less 1 = .ok (.getfield 19, 3) := by decide +kernel
theorem dX9_less_4 : decode cX9_less 4 = .ok (.invokevirtual 141, 3) := by decide +kernel
theorem dX9_less_7 : decode cX9_less 7 = .ok (.ifCond .eq 8, 3) := by decide +kernel
theorem dX9_less_10 : decode cX9_less 10 = .ok (.bipush (-2), 2) := by decide +kernel
theorem dX9_less_12 : decode cX9_less 12 = .ok (.goto 14, 3) := by decide +kernel
theorem dX9_less_26 : decode cX9_less 26 = .ok (.ireturn, 1) := by decide +kernel
theorem dX9_light_0 : decode cX9_light 0 = .ok (.aload_n 0, 1) := by decide +kernel
theorem dX9_light_1 : decode cX9_light 1 = .ok (.getfield 19, 3) := by decide +kernel
theorem dX9_light_4 : decode cX9_light 4 = .ok (.iload_n 1, 1) := by decide +kernel
theorem dX9_light_5 : decode cX9_light 5 = .ok (.invokevirtual 170, 3) := by decide +kernel
theorem dX9_light_8 : decode cX9_light 8 = .ok (.ifCond .eq 10, 3) := by decide +kernel
theorem dX9_light_18 : decode cX9_light 18 = .ok (.bipush (-2), 2) := by decide +kernel
theorem dX9_light_20 : decode cX9_light 20 = .ok (.ireturn, 1) := by decide +kernel
theorem dX9_lights_0 : decode cX9_lights 0 = .ok (.aload_n 0, 1) := by decide +kernel
theorem dX9_lights_1 : decode cX9_lights 1 = .ok (.getfield 19, 3) := by decide +kernel
theorem dX9_lights_4 : decode cX9_lights 4 = .ok (.iload_n 1, 1) := by decide +kernel
theorem dX9_lights_5 : decode cX9_lights 5 = .ok (.invokevirtual 238, 3) := by decide +kernel
theorem dX9_lights_8 : decode cX9_lights 8 = .ok (.ifCond .ne 6, 3) := by decide +kernel
theorem dX9_lights_11 : decode cX9_lights 11 = .ok (.bipush (-2), 2) := by decide +kernel
theorem dX9_lights_13 : decode cX9_lights 13 = .ok (.ireturn, 1) := by decide +kernel
theorem dX9_lone_0 : decode cX9_lone 0 = .ok (.aload_n 0, 1) := by decide +kernel
theorem dX9_lone_1 : decode cX9_lone 1 = .ok (.getfield 19, 3) := by decide +kernel
theorem dX9_lone_4 : decode cX9_lone 4 = .ok (.invokevirtual 141, 3) := by decide +kernel
theorem dX9_lone_7 : decode cX9_lone 7 = .ok (.ifCond .eq 6, 3) := by decide +kernel
theorem dX9_lone_10 : decode cX9_lone 10 = .ok (.bipush (-2), 2) := by decide +kernel
theorem dX9_lone_12 : decode cX9_lone 12 = .ok (.ireturn, 1) := by decide +kernel
theorem dX9_loud_0 : decode cX9_loud 0 = .ok (.aload_n 0, 1) := by decide +kernel
theorem dX9_loud_1 : decode cX9_loud 1 = .ok (.getfield 19, 3) := by decide +kernel
theorem dX9_loud_4 : decode cX9_loud 4 = .ok (.invokevirtual 141, 3) := by decide +kernel
theorem dX9_loud_7 : decode cX9_loud 7 = .ok (.ifCond .eq 6, 3) := by decide +kernel
theorem dX9_loud_10 : decode cX9_loud 10 = .ok (.bipush (-2), 2) := by decide +kernel
theorem dX9_loud_12 : decode cX9_loud 12 = .ok (.ireturn, 1) := by decide +kernel
theorem dX9_luck_0 : decode cX9_luck 0 = .ok (.aload_n 0, 1) := by decide +kernel
theorem dX9_luck_1 : decode cX9_luck 1 = .ok (.getfield 19, 3) := by decide +kernel
theorem dX9_luck_4 : decode cX9_luck 4 = .ok (.iload_n 3, 1) := by decide +kernel
theorem dX9_luck_5 : decode cX9_luck 5 = .ok (.invokevirtual 130, 3) := by decide +kernel
theorem dX9_luck_8 : decode cX9_luck 8 = .ok (.ifCond .eq 21, 3) := by decide +kernel
theorem dX9_luck_29 : decode cX9_luck 29 = .ok (.bipush (-2), 2) := by decide +kernel
theorem dX9_luck_31 : decode cX9_luck 31 = .ok (.ireturn, 1) := by decide +kernel
theorem dX9_mean_0 : decode cX9_mean 0 = .ok (.aload_n 0, 1) := by decide +kernel
theorem dX9_mean_1 : decode cX9_mean 1 = .ok (.getfield 19, 3) := by decide +kernel
theorem dX9_mean_4 : decode cX9_mean 4 = .ok (.invokevirtual 141, 3) := by decide +kernel
theorem dX9_mean_7 : decode cX9_mean 7 = .ok (.ifCond .ne 10, 3) := by decide +kernel
theorem dX9_mean_17 : decode cX9_mean 17 = .ok (.bipush (-2), 2) := by decide +kernel
theorem dX9_mean_19 : decode cX9_mean 19 = .ok (.ireturn, 1) := by decide +kernel
theorem dX9_meets_0 : decode cX9_meets 0 = .ok (.aload_n 0, 1) := by decide +kernel
theorem dX9_meets_1 : decode cX9_meets 1 = .ok (.getfield 19, 3) := by decide +kernel
theorem dX9_meets_4 : decode cX9_meets 4 = .ok (.iload_n 1, 1) := by decide +kernel
theorem dX9_meets_5 : decode cX9_meets 5 = .ok (.invokevirtual 116, 3) := by decide +kernel
theorem dX9_meets_8 : decode cX9_meets 8 = .ok (.ifCond .eq 14, 3) := by decide +kernel
theorem dX9_meets_22 : decode cX9_meets 22 = .ok (.bipush (-2), 2) := by decide +kernel
theorem dX9_meets_24 : decode cX9_meets 24 = .ok (.ireturn, 1) := by decide +kernel
theorem dX9_member_0 : decode cX9_member 0 = .ok (.aload_n 0, 1) := by decide +kernel
theorem dX9_member_1 : decode cX9_member 1 = .ok (.getfield 19, 3) := by decide +kernel
theorem dX9_member_4 : decode cX9_member 4 = .ok (.iload_n 1, 1) := by decide +kernel
theorem dX9_member_5 : decode cX9_member 5 = .ok (.invokevirtual 130, 3) := by decide +kernel
theorem dX9_member_8 : decode cX9_member 8 = .ok (.ifCond .ne 6, 3) := by decide +kernel
theorem dX9_member_11 : decode cX9_member 11 = .ok (.bipush (-2), 2) := by decide +kernel
theorem dX9_member_13 : decode cX9_member 13 = .ok (.ireturn, 1) := by decide +kernel
theorem dX9_more_0 : decode cX9_more 0 = .ok (.aload_n 0, 1) := by decide +kernel
theorem dX9_more_1 : decode cX9_more 1 = .ok (.getfield 19, 3) := by decide +kernel
theorem dX9_more_4 : decode cX9_more 4 = .ok (.invokevirtual 141, 3) := by decide +kernel
theorem dX9_more_7 : decode cX9_more 7 = .ok (.ifCond .eq 8, 3) := by decide +kernel
theorem dX9_more_10 : decode cX9_more 10 = .ok (.bipush (-2), 2) := by decide +kernel
theorem dX9_more_12 : decode cX9_more 12 = .ok (.goto 24, 3) := by decide +kernel
theorem dX9_more_36 : decode cX9_more 36 = .ok (.ireturn, 1) := by decide +kernel
theorem dX9_most_0 : decode cX9_most 0 = .ok (.aload_n 0, 1) := by decide +kernel
theorem dX9_most_1 : decode cX9_most 1 = .ok (.getfield 19, 3) := by decide +kernel
theorem dX9_most_4 : decode cX9_most 4 = .ok (.invokevirtual 141, 3) := by decide +kernel
theorem dX9_most_7 : decode cX9_most 7 = .ok (.ifCond .ne 10, 3) := by decide +kernel
theorem dX9_most_17 : decode cX9_most 17 = .ok (.bipush (-2), 2) := by decide +kernel
theorem dX9_most_19 : decode cX9_most 19 = .ok (.ireturn, 1) := by decide +kernel
theorem dX9_near_0 : decode cX9_near 0 = .ok (.aload_n 0, 1) := by decide +kernel
theorem dX9_near_1 : decode cX9_near 1 = .ok (.getfield 19, 3) := by decide +kernel
theorem dX9_near_4 : decode cX9_near 4 = .ok (.iload_n 1, 1) := by decide +kernel
theorem dX9_near_5 : decode cX9_near 5 = .ok (.invokevirtual 130, 3) := by decide +kernel
theorem dX9_near_8 : decode cX9_near 8 = .ok (.ifCond .ne 6, 3) := by decide +kernel
theorem dX9_near_11 : decode cX9_near 11 = .ok (.bipush (-2), 2) := by decide +kernel
theorem dX9_near_13 : decode cX9_near 13 = .ok (.ireturn, 1) := by decide +kernel
theorem dX9_odds_0 : decode cX9_odds 0 = .ok (.aload_n 0, 1) := by decide +kernel
theorem dX9_odds_1 : decode cX9_odds 1 = .ok (.getfield 19, 3) := by decide +kernel
theorem dX9_odds_4 : decode cX9_odds 4 = .ok (.iload_n 2, 1) := by decide +kernel
theorem dX9_odds_5 : decode cX9_odds 5 = .ok (.invokevirtual 130, 3) := by decide +kernel
theorem dX9_odds_8 : decode cX9_odds 8 = .ok (.ifCond .eq 10, 3) := by decide +kernel
theorem dX9_odds_18 : decode cX9_odds 18 = .ok (.bipush (-2), 2) := by decide +kernel
theorem dX9_odds_20 : decode cX9_odds 20 = .ok (.ireturn, 1) := by decide +kernel
theorem dX9_out_0 : decode cX9_out 0 = .ok (.aload_n 0, 1) := by decide +kernel
theorem dX9_out_1 : decode cX9_out 1 = .ok (.getfield 19, 3) := by decide +kernel
theorem dX9_out_4 : decode cX9_out 4 = .ok (.iload_n 1, 1) := by decide +kernel
theorem dX9_out_5 : decode cX9_out 5 = .ok (.invokevirtual 116, 3) := by decide +kernel
theorem dX9_out_8 : decode cX9_out 8 = .ok (.ifCond .ne 6, 3) := by decide +kernel
theorem dX9_out_11 : decode cX9_out 11 = .ok (.bipush (-2), 2) := by decide +kernel
theorem dX9_out_13 : decode cX9_out 13 = .ok (.ireturn, 1) := by decide +kernel
theorem dX9_over_0 : decode cX9_over 0 = .ok (.aload_n 0, 1) := by decide +kernel
theorem dX9_over_1 : decode cX9_over 1 = .ok (.getfield 19, 3) := by decide +kernel
theorem dX9_over_4 : decode cX9_over 4 = .ok (.iload_n 1, 1) := by decide +kernel
theorem dX9_over_5 : decode cX9_over 5 = .ok (.invokevirtual 170, 3) := by decide +kernel
theorem dX9_over_8 : decode cX9_over 8 = .ok (.ifCond .ne 6, 3) := by decide +kernel
theorem dX9_over_11 : decode cX9_over 11 = .ok (.bipush (-2), 2) := by decide +kernel
theorem dX9_over_13 : decode cX9_over 13 = .ok (.ireturn, 1) := by decide +kernel
theorem dX9_price_0 : decode cX9_price 0 = .ok (.aload_n 0, 1) := by decide +kernel
theorem dX9_price_1 : decode cX9_price 1 = .ok (.getfield 19, 3) := by decide +kernel
theorem dX9_price_4 : decode cX9_price 4 = .ok (.invokevirtual 141, 3) := by decide +kernel
theorem dX9_price_7 : decode cX9_price 7 = .ok (.ifCond .ne 14, 3) := by decide +kernel
theorem dX9_price_21 : decode cX9_price 21 = .ok (.bipush (-2), 2) := by decide +kernel
theorem dX9_price_23 : decode cX9_price 23 = .ok (.ireturn, 1) := by decide +kernel
theorem dX9_quiet_0 : decode cX9_quiet 0 = .ok (.aload_n 0, 1) := by decide +kernel
theorem dX9_quiet_1 : decode cX9_quiet 1 = .ok (.getfield 19, 3) := by decide +kernel
theorem dX9_quiet_4 : decode cX9_quiet 4 = .ok (.invokevirtual 141, 3) := by decide +kernel
theorem dX9_quiet_7 : decode cX9_quiet 7 = .ok (.ifCond .eq 6, 3) := by decide +kernel
theorem dX9_quiet_10 : decode cX9_quiet 10 = .ok (.bipush (-2), 2) := by decide +kernel
theorem dX9_quiet_12 : decode cX9_quiet 12 = .ok (.ireturn, 1) := by decide +kernel
theorem dX9_rate_0 : decode cX9_rate 0 = .ok (.aload_n 0, 1) := by decide +kernel
theorem dX9_rate_1 : decode cX9_rate 1 = .ok (.getfield 19, 3) := by decide +kernel
theorem dX9_rate_4 : decode cX9_rate 4 = .ok (.iload_n 1, 1) := by decide +kernel
theorem dX9_rate_5 : decode cX9_rate 5 = .ok (.invokevirtual 130, 3) := by decide +kernel
theorem dX9_rate_8 : decode cX9_rate 8 = .ok (.ifCond .eq 13, 3) := by decide +kernel
theorem dX9_rate_21 : decode cX9_rate 21 = .ok (.bipush (-2), 2) := by decide +kernel
theorem dX9_rate_23 : decode cX9_rate 23 = .ok (.ireturn, 1) := by decide +kernel
theorem dX9_reportRefusal_0 : decode cX9_reportRefusal 0 = .ok (.aload_n 0, 1) := by decide +kernel
theorem dX9_reportRefusal_1 : decode cX9_reportRefusal 1 = .ok (.iload_n 1, 1) := by decide +kernel
theorem dX9_reportRefusal_2 : decode cX9_reportRefusal 2 = .ok (.invokevirtual 445, 3) := by decide +kernel
theorem dX9_reportRefusal_5 : decode cX9_reportRefusal 5 = .ok (.istore_n 2, 1) := by decide +kernel
theorem dX9_reportRefusal_6 : decode cX9_reportRefusal 6 = .ok (.iload_n 2, 1) := by decide +kernel
theorem dX9_reportRefusal_7 : decode cX9_reportRefusal 7 = .ok (.ifCond .eq 5, 3) := by decide +kernel
theorem dX9_reportRefusal_10 : decode cX9_reportRefusal 10 = .ok (.iload_n 2, 1) := by decide +kernel
theorem dX9_reportRefusal_11 : decode cX9_reportRefusal 11 = .ok (.ireturn, 1) := by decide +kernel
theorem dX9_rests_0 : decode cX9_rests 0 = .ok (.aload_n 0, 1) := by decide +kernel
theorem dX9_rests_1 : decode cX9_rests 1 = .ok (.iload_n 1, 1) := by decide +kernel
theorem dX9_rests_2 : decode cX9_rests 2 = .ok (.iload_n 2, 1) := by decide +kernel
theorem dX9_rests_3 : decode cX9_rests 3 = .ok (.invokevirtual 333, 3) := by decide +kernel
theorem dX9_rests_6 : decode cX9_rests 6 = .ok (.ifCond .ne 6, 3) := by decide +kernel
theorem dX9_rests_9 : decode cX9_rests 9 = .ok (.bipush (-2), 2) := by decide +kernel
theorem dX9_rests_11 : decode cX9_rests 11 = .ok (.ireturn, 1) := by decide +kernel
theorem dX9_rowRefusal_0 : decode cX9_rowRefusal 0 = .ok (.iload_n 1, 1) := by decide +kernel
theorem dX9_rowRefusal_1 : decode cX9_rowRefusal 1 = .ok (.invokestatic 395, 3) := by decide +kernel
theorem dX9_rowRefusal_4 : decode cX9_rowRefusal 4 = .ok (.ifCond .eq 13, 3) := by decide +kernel
theorem dX9_rowRefusal_7 : decode cX9_rowRefusal 7 = .ok (.aload_n 0, 1) := by decide +kernel
theorem dX9_rowRefusal_8 : decode cX9_rowRefusal 8 = .ok (.getfield 19, 3) := by decide +kernel
theorem dX9_rowRefusal_11 : decode cX9_rowRefusal 11 = .ok (.invokevirtual 141, 3) := by decide +kernel
theorem dX9_rowRefusal_14 : decode cX9_rowRefusal 14 = .ok (.ifCond .eq 6, 3) := by decide +kernel
theorem dX9_rowRefusal_17 : decode cX9_rowRefusal 17 = .ok (.bipush (-2), 2) := by decide +kernel
theorem dX9_rowRefusal_19 : decode cX9_rowRefusal 19 = .ok (.ireturn, 1) := by decide +kernel
theorem dX9_served_0 : decode cX9_served 0 = .ok (.aload_n 0, 1) := by decide +kernel
theorem dX9_served_1 : decode cX9_served 1 = .ok (.getfield 19, 3) := by decide +kernel
theorem dX9_served_4 : decode cX9_served 4 = .ok (.invokevirtual 141, 3) := by decide +kernel
theorem dX9_served_7 : decode cX9_served 7 = .ok (.ifCond .eq 8, 3) := by decide +kernel
theorem dX9_served_10 : decode cX9_served 10 = .ok (.bipush (-2), 2) := by decide +kernel
theorem dX9_served_12 : decode cX9_served 12 = .ok (.goto 21, 3) := by decide +kernel
theorem dX9_served_33 : decode cX9_served 33 = .ok (.ireturn, 1) := by decide +kernel
theorem dX9_sightRefusal_0 : decode cX9_sightRefusal 0 = .ok (.aload_n 0, 1) := by decide +kernel
theorem dX9_sightRefusal_1 : decode cX9_sightRefusal 1 = .ok (.iload_n 1, 1) := by decide +kernel
theorem dX9_sightRefusal_2 : decode cX9_sightRefusal 2 = .ok (.invokevirtual 445, 3) := by decide +kernel
theorem dX9_sightRefusal_5 : decode cX9_sightRefusal 5 = .ok (.istore_n 2, 1) := by decide +kernel
theorem dX9_sightRefusal_6 : decode cX9_sightRefusal 6 = .ok (.iload_n 2, 1) := by decide +kernel
theorem dX9_sightRefusal_7 : decode cX9_sightRefusal 7 = .ok (.ifCond .eq 5, 3) := by decide +kernel
theorem dX9_sightRefusal_10 : decode cX9_sightRefusal 10 = .ok (.iload_n 2, 1) := by decide +kernel
theorem dX9_sightRefusal_11 : decode cX9_sightRefusal 11 = .ok (.ireturn, 1) := by decide +kernel
theorem dX9_spare_0 : decode cX9_spare 0 = .ok (.aload_n 0, 1) := by decide +kernel
theorem dX9_spare_1 : decode cX9_spare 1 = .ok (.getfield 19, 3) := by decide +kernel
theorem dX9_spare_4 : decode cX9_spare 4 = .ok (.invokevirtual 141, 3) := by decide +kernel
theorem dX9_spare_7 : decode cX9_spare 7 = .ok (.ifCond .eq 6, 3) := by decide +kernel
theorem dX9_spare_10 : decode cX9_spare 10 = .ok (.bipush (-2), 2) := by decide +kernel
theorem dX9_spare_12 : decode cX9_spare 12 = .ok (.ireturn, 1) := by decide +kernel
theorem dX9_spots_0 : decode cX9_spots 0 = .ok (.aload_n 0, 1) := by decide +kernel
theorem dX9_spots_1 : decode cX9_spots 1 = .ok (.iload_n 1, 1) := by decide +kernel
theorem dX9_spots_2 : decode cX9_spots 2 = .ok (.invokevirtual 278, 3) := by decide +kernel
theorem dX9_spots_5 : decode cX9_spots 5 = .ok (.istore_n 2, 1) := by decide +kernel
theorem dX9_spots_6 : decode cX9_spots 6 = .ok (.iload_n 2, 1) := by decide +kernel
theorem dX9_spots_7 : decode cX9_spots 7 = .ok (.ifCond .eq 5, 3) := by decide +kernel
theorem dX9_spots_10 : decode cX9_spots 10 = .ok (.iload_n 2, 1) := by decide +kernel
theorem dX9_spots_11 : decode cX9_spots 11 = .ok (.ireturn, 1) := by decide +kernel
theorem dX9_swap_0 : decode cX9_swap 0 = .ok (.aload_n 0, 1) := by decide +kernel
theorem dX9_swap_1 : decode cX9_swap 1 = .ok (.getfield 19, 3) := by decide +kernel
theorem dX9_swap_4 : decode cX9_swap 4 = .ok (.invokevirtual 141, 3) := by decide +kernel
theorem dX9_swap_7 : decode cX9_swap 7 = .ok (.ifCond .eq 8, 3) := by decide +kernel
theorem dX9_swap_10 : decode cX9_swap 10 = .ok (.bipush (-2), 2) := by decide +kernel
theorem dX9_swap_12 : decode cX9_swap 12 = .ok (.goto 10, 3) := by decide +kernel
theorem dX9_swap_22 : decode cX9_swap 22 = .ok (.ireturn, 1) := by decide +kernel
theorem dX9_swaps_0 : decode cX9_swaps 0 = .ok (.aload_n 0, 1) := by decide +kernel
theorem dX9_swaps_1 : decode cX9_swaps 1 = .ok (.getfield 19, 3) := by decide +kernel
theorem dX9_swaps_4 : decode cX9_swaps 4 = .ok (.invokevirtual 141, 3) := by decide +kernel
theorem dX9_swaps_7 : decode cX9_swaps 7 = .ok (.ifCond .eq 8, 3) := by decide +kernel
theorem dX9_swaps_10 : decode cX9_swaps 10 = .ok (.bipush (-2), 2) := by decide +kernel
theorem dX9_swaps_12 : decode cX9_swaps 12 = .ok (.goto 10, 3) := by decide +kernel
theorem dX9_swaps_22 : decode cX9_swaps 22 = .ok (.ireturn, 1) := by decide +kernel
theorem dX9_turn_0 : decode cX9_turn 0 = .ok (.aload_n 0, 1) := by decide +kernel
theorem dX9_turn_1 : decode cX9_turn 1 = .ok (.getfield 19, 3) := by decide +kernel
theorem dX9_turn_4 : decode cX9_turn 4 = .ok (.iload_n 1, 1) := by decide +kernel
theorem dX9_turn_5 : decode cX9_turn 5 = .ok (.invokevirtual 116, 3) := by decide +kernel
theorem dX9_turn_8 : decode cX9_turn 8 = .ok (.ifCond .eq 12, 3) := by decide +kernel
theorem dX9_turn_20 : decode cX9_turn 20 = .ok (.bipush (-2), 2) := by decide +kernel
theorem dX9_turn_22 : decode cX9_turn 22 = .ok (.ireturn, 1) := by decide +kernel
theorem dX9_undo_0 : decode cX9_undo 0 = .ok (.aload_n 0, 1) := by decide +kernel
theorem dX9_undo_1 : decode cX9_undo 1 = .ok (.getfield 19, 3) := by decide +kernel
theorem dX9_undo_4 : decode cX9_undo 4 = .ok (.invokevirtual 141, 3) := by decide +kernel
theorem dX9_undo_7 : decode cX9_undo 7 = .ok (.ifCond .eq 6, 3) := by decide +kernel
theorem dX9_undo_10 : decode cX9_undo 10 = .ok (.bipush (-2), 2) := by decide +kernel
theorem dX9_undo_12 : decode cX9_undo 12 = .ok (.ireturn, 1) := by decide +kernel
theorem dX9_unpaid_0 : decode cX9_unpaid 0 = .ok (.aload_n 0, 1) := by decide +kernel
theorem dX9_unpaid_1 : decode cX9_unpaid 1 = .ok (.getfield 19, 3) := by decide +kernel
theorem dX9_unpaid_4 : decode cX9_unpaid 4 = .ok (.invokevirtual 141, 3) := by decide +kernel
theorem dX9_unpaid_7 : decode cX9_unpaid 7 = .ok (.ifCond .eq 8, 3) := by decide +kernel
theorem dX9_unpaid_10 : decode cX9_unpaid 10 = .ok (.bipush (-2), 2) := by decide +kernel
theorem dX9_unpaid_12 : decode cX9_unpaid 12 = .ok (.goto 7, 3) := by decide +kernel
theorem dX9_unpaid_19 : decode cX9_unpaid 19 = .ok (.ireturn, 1) := by decide +kernel
theorem dX9_way_0 : decode cX9_way 0 = .ok (.aload_n 0, 1) := by decide +kernel
theorem dX9_way_1 : decode cX9_way 1 = .ok (.getfield 19, 3) := by decide +kernel
theorem dX9_way_4 : decode cX9_way 4 = .ok (.iload_n 1, 1) := by decide +kernel
theorem dX9_way_5 : decode cX9_way 5 = .ok (.invokevirtual 116, 3) := by decide +kernel
theorem dX9_way_8 : decode cX9_way 8 = .ok (.ifCond .ne 6, 3) := by decide +kernel
theorem dX9_way_11 : decode cX9_way 11 = .ok (.bipush (-2), 2) := by decide +kernel
theorem dX9_way_13 : decode cX9_way 13 = .ok (.ireturn, 1) := by decide +kernel
theorem dX9_who_0 : decode cX9_who 0 = .ok (.aload_n 0, 1) := by decide +kernel
theorem dX9_who_1 : decode cX9_who 1 = .ok (.iload_n 1, 1) := by decide +kernel
theorem dX9_who_2 : decode cX9_who 2 = .ok (.invokevirtual 278, 3) := by decide +kernel
theorem dX9_who_5 : decode cX9_who 5 = .ok (.istore_n 2, 1) := by decide +kernel
theorem dX9_who_6 : decode cX9_who 6 = .ok (.iload_n 2, 1) := by decide +kernel
theorem dX9_who_7 : decode cX9_who 7 = .ok (.ifCond .eq 7, 3) := by decide +kernel
theorem dX9_who_10 : decode cX9_who 10 = .ok (.iload_n 2, 1) := by decide +kernel
theorem dX9_who_11 : decode cX9_who 11 = .ok (.goto 23, 3) := by decide +kernel
theorem dX9_who_34 : decode cX9_who 34 = .ok (.ireturn, 1) := by decide +kernel
theorem wd0 : Cond.fieldLink RX3 42 "GooseShares$Land" "lines" "I" ∈ gW := gm (tm_1 51 (by decide +kernel)) rfl
theorem wd1 : Cond.fieldLink RX3 46 "GooseShares$Land" "wide" "I" ∈ gW := gm (tm_1 54 (by decide +kernel)) rfl
theorem wd2 : Cond.fieldLink RX3 49 "GooseShares$Land" "high" "I" ∈ gW := gm (tm_1 57 (by decide +kernel)) rfl
theorem wd3 : Cond.fieldLink RX3 61 "GooseShares$Land" "flights" "I" ∈ gW := gm (tm_1 75 (by decide +kernel)) rfl
theorem wd4 : Cond.fieldLink RX3 64 "GooseShares$Land" "members" "I" ∈ gW := gm (tm_1 80 (by decide +kernel)) rfl
theorem wd5 : Cond.instanceMethod yX3_cells ∈ gW := gm (tm_3 11 (by decide +kernel)) rfl
theorem wd6 : Cond.selects RX3 yX3_cells yX3_cells ∈ gW := gm (tm_3 12 (by decide +kernel)) rfl
theorem wd7 : Cond.initialized RX3 ∈ gW := gm (tm_1 3 (by decide +kernel)) rfl
theorem wd8 : Cond.code yX3_cells cX3_cells 1 (some .int) ∈ gW := gm (tm_3 13 (by decide +kernel)) rfl
theorem wd9 : Cond.methodLink RX3 79 yX3_cells ∈ gW := gm (tm_3 28 (by decide +kernel)) rfl
theorem wd10 : Cond.instanceMethod yX3_isNone ∈ gW := gm (tm_3 80 (by decide +kernel)) rfl
theorem wd11 : Cond.selects RX3 yX3_isNone yX3_isNone ∈ gW := gm (tm_3 81 (by decide +kernel)) rfl
theorem wd12 : Cond.code yX3_isNone cX3_isNone 1 (some .boolean) ∈ gW := gm (tm_3 82 (by decide +kernel)) rfl
theorem wd13 : Cond.methodLink RX3 99 yX3_isNone ∈ gW := gm (tm_4 83 (by decide +kernel)) rfl
theorem wd14 : Cond.static yX9_isSlot ∈ gW := gm (tm_4 180 (by decide +kernel)) rfl
theorem wd15 : Cond.initialized RX9 ∈ gW := gm (tm_1 1 (by decide +kernel)) rfl
theorem wd16 : Cond.code yX9_isSlot cX9_isSlot 1 (some .boolean) ∈ gW := gm (tm_4 181 (by decide +kernel)) rfl
theorem wd17 : Cond.methodLink RX9 395 yX9_isSlot ∈ gW := gm (tm_4 179 (by decide +kernel)) rfl
theorem wd18 : Cond.fieldLink RX9 19 "GooseShares" "now" "LGooseShares$Land;" ∈ gW := gm (tm_2 99 (by decide +kernel)) rfl
theorem wd19 : Cond.methodLink RX9 141 yX3_isNone ∈ gW := gm (tm_3 79 (by decide +kernel)) rfl
theorem wd20 : Cond.instanceMethod yX9_rowRefusal ∈ gW := gm (tm_4 177 (by decide +kernel)) rfl
theorem wd21 : Cond.selects RX9 yX9_rowRefusal yX9_rowRefusal ∈ gW := gm (gmP 10 (by decide +kernel)) rfl
theorem wd22 : Cond.code yX9_rowRefusal cX9_rowRefusal 2 (some .int) ∈ gW := gm (tm_4 178 (by decide +kernel)) rfl
theorem wd23 : Cond.methodLink RX9 445 yX9_rowRefusal ∈ gW := gm (tm_4 175 (by decide +kernel)) rfl
theorem wd24 : Cond.instanceMethod yX3_hasMember ∈ gW := gm (tm_3 72 (by decide +kernel)) rfl
theorem wd25 : Cond.selects RX3 yX3_hasMember yX3_hasMember ∈ gW := gm (tm_3 73 (by decide +kernel)) rfl
theorem wd26 : Cond.code yX3_hasMember cX3_hasMember 2 (some .boolean) ∈ gW := gm (tm_3 74 (by decide +kernel)) rfl
theorem wd27 : Cond.methodLink RX9 130 yX3_hasMember ∈ gW := gm (tm_3 71 (by decide +kernel)) rfl
theorem wd28 : Cond.instanceMethod yX3_hasFlight ∈ gW := gm (tm_3 64 (by decide +kernel)) rfl
theorem wd29 : Cond.selects RX3 yX3_hasFlight yX3_hasFlight ∈ gW := gm (tm_3 65 (by decide +kernel)) rfl
theorem wd30 : Cond.code yX3_hasFlight cX3_hasFlight 2 (some .boolean) ∈ gW := gm (tm_3 66 (by decide +kernel)) rfl
theorem wd31 : Cond.methodLink RX9 116 yX3_hasFlight ∈ gW := gm (tm_3 63 (by decide +kernel)) rfl
theorem wd32 : Cond.instanceMethod yX3_hasCell ∈ gW := gm (tm_3 150 (by decide +kernel)) rfl
theorem wd33 : Cond.selects RX3 yX3_hasCell yX3_hasCell ∈ gW := gm (tm_3 151 (by decide +kernel)) rfl
theorem wd34 : Cond.code yX3_hasCell cX3_hasCell 2 (some .boolean) ∈ gW := gm (tm_3 152 (by decide +kernel)) rfl
theorem wd35 : Cond.methodLink RX9 170 yX3_hasCell ∈ gW := gm (tm_3 149 (by decide +kernel)) rfl
theorem wd36 : Cond.instanceMethod yX3_hasSet ∈ gW := gm (tm_4 80 (by decide +kernel)) rfl
theorem wd37 : Cond.selects RX3 yX3_hasSet yX3_hasSet ∈ gW := gm (tm_4 81 (by decide +kernel)) rfl
theorem wd38 : Cond.code yX3_hasSet cX3_hasSet 2 (some .boolean) ∈ gW := gm (tm_4 82 (by decide +kernel)) rfl
theorem wd39 : Cond.methodLink RX9 238 yX3_hasSet ∈ gW := gm (tm_4 79 (by decide +kernel)) rfl
theorem wd40 : Cond.instanceMethod yX9_sightRefusal ∈ gW := gm (tm_4 173 (by decide +kernel)) rfl
theorem wd41 : Cond.selects RX9 yX9_sightRefusal yX9_sightRefusal ∈ gW := gm (gmP 9 (by decide +kernel)) rfl
theorem wd42 : Cond.code yX9_sightRefusal cX9_sightRefusal 3 (some .int) ∈ gW := gm (tm_4 174 (by decide +kernel)) rfl
theorem wd43 : Cond.methodLink RX9 268 yX9_sightRefusal ∈ gW := gm (tm_4 171 (by decide +kernel)) rfl
theorem wd44 : Cond.instanceMethod yX9_reportRefusal ∈ gW := gm (tm_4 227 (by decide +kernel)) rfl
theorem wd45 : Cond.selects RX9 yX9_reportRefusal yX9_reportRefusal ∈ gW := gm (gmP 11 (by decide +kernel)) rfl
theorem wd46 : Cond.code yX9_reportRefusal cX9_reportRefusal 3 (some .int) ∈ gW := gm (tm_4 228 (by decide +kernel)) rfl
theorem wd47 : Cond.methodLink RX9 278 yX9_reportRefusal ∈ gW := gm (tm_4 225 (by decide +kernel)) rfl
theorem wd48 : Cond.instanceMethod yX9_areTwo ∈ gW := gm (tm_5 152 (by decide +kernel)) rfl
theorem wd49 : Cond.selects RX9 yX9_areTwo yX9_areTwo ∈ gW := gm (gmP 12 (by decide +kernel)) rfl
theorem wd50 : Cond.code yX9_areTwo cX9_areTwo 3 (some .boolean) ∈ gW := gm (tm_5 153 (by decide +kernel)) rfl
theorem wd51 : Cond.methodLink RX9 333 yX9_areTwo ∈ gW := gm (tm_5 150 (by decide +kernel)) rfl
theorem my_X3_cells : gWV RX3 yX3_cells cX3_cells 1 (some .int) 0 := ⟨⟨wd5, wd6, wd7, wd8⟩, ⟨rfl, by decide +kernel, by decide +kernel, by decide +kernel⟩⟩
theorem my_X3_isNone : gWV RX3 yX3_isNone cX3_isNone 1 (some .boolean) 0 := ⟨⟨wd10, wd11, wd7, wd12⟩, ⟨rfl, by decide +kernel, by decide +kernel, by decide +kernel⟩⟩
theorem my_X9_isSlot : gWS RX9 yX9_isSlot cX9_isSlot 1 (some .boolean) 1 := ⟨⟨wd14, wd15, wd16⟩, ⟨rfl, by decide +kernel, by decide +kernel, by decide +kernel⟩⟩
theorem my_X9_rowRefusal : gWV RX9 yX9_rowRefusal cX9_rowRefusal 2 (some .int) 1 := ⟨⟨wd20, wd21, wd15, wd22⟩, ⟨rfl, by decide +kernel, by decide +kernel, by decide +kernel⟩⟩
theorem my_X3_hasMember : gWV RX3 yX3_hasMember cX3_hasMember 2 (some .boolean) 1 := ⟨⟨wd24, wd25, wd7, wd26⟩, ⟨rfl, by decide +kernel, by decide +kernel, by decide +kernel⟩⟩
theorem my_X3_hasFlight : gWV RX3 yX3_hasFlight cX3_hasFlight 2 (some .boolean) 1 := ⟨⟨wd28, wd29, wd7, wd30⟩, ⟨rfl, by decide +kernel, by decide +kernel, by decide +kernel⟩⟩
theorem my_X3_hasCell : gWV RX3 yX3_hasCell cX3_hasCell 2 (some .boolean) 1 := ⟨⟨wd32, wd33, wd7, wd34⟩, ⟨rfl, by decide +kernel, by decide +kernel, by decide +kernel⟩⟩
theorem my_X3_hasSet : gWV RX3 yX3_hasSet cX3_hasSet 2 (some .boolean) 1 := ⟨⟨wd36, wd37, wd7, wd38⟩, ⟨rfl, by decide +kernel, by decide +kernel, by decide +kernel⟩⟩
theorem my_X9_sightRefusal : gWV RX9 yX9_sightRefusal cX9_sightRefusal 3 (some .int) 1 := ⟨⟨wd40, wd41, wd15, wd42⟩, ⟨rfl, by decide +kernel, by decide +kernel, by decide +kernel⟩⟩
theorem my_X9_reportRefusal : gWV RX9 yX9_reportRefusal cX9_reportRefusal 3 (some .int) 1 := ⟨⟨wd44, wd45, wd15, wd46⟩, ⟨rfl, by decide +kernel, by decide +kernel, by decide +kernel⟩⟩
theorem my_X9_areTwo : gWV RX9 yX9_areTwo cX9_areTwo 3 (some .boolean) 2 := ⟨⟨wd48, wd49, wd15, wd50⟩, ⟨rfl, by decide +kernel, by decide +kernel, by decide +kernel⟩⟩
theorem ti_0 : (0 : Int32).toInt = 0 := by decide
end
section
set_option maxHeartbeats 4000000 in
set_option maxRecDepth 100000 in
theorem k_isNone (l : Launch) (E : gE) (L : List Nat) (f : gF) {xn : Nat} {na : Nat → Nat} (mn : xn ∈ L) (fn : f xn = .inr (3, [.int (0 : Int32), .int (0 : Int32), .int (0 : Int32), .int (0 : Int32), .int (0 : Int32), .int (0 : Int32), .int (0 : Int32), .int (0 : Int32), .int (0 : Int32), .int (0 : Int32), .ref (na 0), .ref (na 1), .ref (na 2), .ref (na 3), .ref (na 4), .ref (na 5), .ref (na 6), .ref (na 7), .ref (na 8), .ref (na 9)])) : gMi l E yX3_isNone cX3_isNone 1 .boolean (gRm 1 0 0) [.ref xn] L f (gRO (1 : Int32) L f) := by
  refine gMi.intro (by decide) (Nat.le_of_ble_eq_true rfl) ?_
  intro p e s m below meth c A ls C hr hA hH hl
  have C : gC E cX3_isNone 1 RX3 p s m _ meth c := C
  have hl : lv_has ls 1 [(0, .ref xn)] := hl
  have hx := C.1
  have hb := C.2.1
  refine lv_aload_n hx hb dX3_isNone_0 rfl (lv_at hl 0 rfl) ?_
  refine g_get C hH mn fn iX3 rfl 0 (by decide) wd0 rfl rfl dX3_isNone_1 ?_
  refine lv_if_ne (tgt := 11) hx hb dX3_isNone_4 (by decide) (fun h => absurd (by decide) h) (fun _ => ?_)
  refine lv_iconst (v := (1 : Int32)) hx hb dX3_isNone_7 (by decide) ?_
  refine lv_goto (tgt := 12) hx hb dX3_isNone_8 (by decide) ?_
  refine g_zret C hr (by first | rfl | decide | (exact rfl)) hH (Nat.le_of_ble_eq_true rfl) (Nat.le_of_ble_eq_true rfl) dX3_isNone_12 ?_
  exact ⟨rfl, rfl, rfl⟩
set_option maxHeartbeats 4000000 in
set_option maxRecDepth 100000 in
theorem k_cells (l : Launch) (E : gE) (L : List Nat) (f : gF) {xn : Nat} {na : Nat → Nat} (mn : xn ∈ L) (fn : f xn = .inr (3, [.int (0 : Int32), .int (0 : Int32), .int (0 : Int32), .int (0 : Int32), .int (0 : Int32), .int (0 : Int32), .int (0 : Int32), .int (0 : Int32), .int (0 : Int32), .int (0 : Int32), .ref (na 0), .ref (na 1), .ref (na 2), .ref (na 3), .ref (na 4), .ref (na 5), .ref (na 6), .ref (na 7), .ref (na 8), .ref (na 9)])) : gMi l E yX3_cells cX3_cells 1 .int (gRm 1 0 0) [.ref xn] L f (gRO (0 : Int32) L f) := by
  refine gMi.intro (by decide) (Nat.le_of_ble_eq_true rfl) ?_
  intro p e s m below meth c A ls C hr hA hH hl
  have C : gC E cX3_cells 1 RX3 p s m _ meth c := C
  have hl : lv_has ls 1 [(0, .ref xn)] := hl
  have hx := C.1
  have hb := C.2.1
  refine lv_aload_n hx hb dX3_cells_0 rfl (lv_at hl 0 rfl) ?_
  refine g_get C hH mn fn iX3 rfl 1 (by decide) wd1 rfl rfl dX3_cells_1 ?_
  refine lv_aload_n hx hb dX3_cells_4 rfl (lv_at hl 0 rfl) ?_
  refine g_get C hH mn fn iX3 rfl 2 (by decide) wd2 rfl rfl dX3_cells_5 ?_
  refine lv_imul hx hb dX3_cells_8 ?_
  refine lv_topi (fun z1 ez1 => ?_)
  obtain rfl : z1 = (0 : Int32) := ez1.trans (by decide)
  refine g_iret C hr hH (Nat.le_of_ble_eq_true rfl) (Nat.le_of_ble_eq_true rfl) dX3_cells_9 ?_
  exact ⟨rfl, rfl, rfl⟩
set_option maxHeartbeats 4000000 in
set_option maxRecDepth 100000 in
theorem k_hasFlight (l : Launch) (E : gE) (L : List Nat) (f : gF) {xn : Nat} {na : Nat → Nat} (mn : xn ∈ L) (fn : f xn = .inr (3, [.int (0 : Int32), .int (0 : Int32), .int (0 : Int32), .int (0 : Int32), .int (0 : Int32), .int (0 : Int32), .int (0 : Int32), .int (0 : Int32), .int (0 : Int32), .int (0 : Int32), .ref (na 0), .ref (na 1), .ref (na 2), .ref (na 3), .ref (na 4), .ref (na 5), .ref (na 6), .ref (na 7), .ref (na 8), .ref (na 9)])) (p0 : Int32) : gMi l E yX3_hasFlight cX3_hasFlight 2 .boolean (gRm 1 0 0) [.ref xn, .int p0] L f (gRO (0 : Int32) L f) := by
  refine gMi.intro (by decide) (Nat.le_of_ble_eq_true rfl) ?_
  intro p e s m below meth c A ls C hr hA hH hl
  have C : gC E cX3_hasFlight 2 RX3 p s m _ meth c := C
  have hl : lv_has ls 2 [(0, .ref xn), (1, .int p0)] := hl
  have hx := C.1
  have hb := C.2.1
  refine lv_iload_n hx hb dX3_hasFlight_0 rfl (lv_at hl 1 rfl) ?_
  refine lv_if_lt (tgt := 16) hx hb dX3_hasFlight_1 (by decide) (fun c1 => ?_) (fun c1 => ?_)
  · skip
    refine lv_iconst (v := (0 : Int32)) hx hb dX3_hasFlight_16 (by decide) ?_
    refine g_zret C hr (by first | rfl | decide | (exact rfl)) hH (Nat.le_of_ble_eq_true rfl) (Nat.le_of_ble_eq_true rfl) dX3_hasFlight_17 ?_
    exact ⟨rfl, rfl, rfl⟩
  · skip
    refine lv_iload_n hx hb dX3_hasFlight_4 rfl (lv_at hl 1 rfl) ?_
    refine lv_aload_n hx hb dX3_hasFlight_5 rfl (lv_at hl 0 rfl) ?_
    refine g_get C hH mn fn iX3 rfl 6 (by decide) wd3 rfl rfl dX3_hasFlight_6 ?_
    refine lv_icmp_ge (tgt := 16) hx hb dX3_hasFlight_9 (by decide) (fun c2 => ?_) (fun c2 => ?_)
    · skip
      refine lv_iconst (v := (0 : Int32)) hx hb dX3_hasFlight_16 (by decide) ?_
      refine g_zret C hr (by first | rfl | decide | (exact rfl)) hH (Nat.le_of_ble_eq_true rfl) (Nat.le_of_ble_eq_true rfl) dX3_hasFlight_17 ?_
      exact ⟨rfl, rfl, rfl⟩
    · skip
      exfalso; simp only [fa_lt, fa_le, fa_eq, ti_0] at c1 c2; omega
set_option maxHeartbeats 4000000 in
set_option maxRecDepth 100000 in
theorem k_hasMember (l : Launch) (E : gE) (L : List Nat) (f : gF) {xn : Nat} {na : Nat → Nat} (mn : xn ∈ L) (fn : f xn = .inr (3, [.int (0 : Int32), .int (0 : Int32), .int (0 : Int32), .int (0 : Int32), .int (0 : Int32), .int (0 : Int32), .int (0 : Int32), .int (0 : Int32), .int (0 : Int32), .int (0 : Int32), .ref (na 0), .ref (na 1), .ref (na 2), .ref (na 3), .ref (na 4), .ref (na 5), .ref (na 6), .ref (na 7), .ref (na 8), .ref (na 9)])) (p0 : Int32) : gMi l E yX3_hasMember cX3_hasMember 2 .boolean (gRm 1 0 0) [.ref xn, .int p0] L f (gRO (0 : Int32) L f) := by
  refine gMi.intro (by decide) (Nat.le_of_ble_eq_true rfl) ?_
  intro p e s m below meth c A ls C hr hA hH hl
  have C : gC E cX3_hasMember 2 RX3 p s m _ meth c := C
  have hl : lv_has ls 2 [(0, .ref xn), (1, .int p0)] := hl
  have hx := C.1
  have hb := C.2.1
  refine lv_iload_n hx hb dX3_hasMember_0 rfl (lv_at hl 1 rfl) ?_
  refine lv_if_lt (tgt := 16) hx hb dX3_hasMember_1 (by decide) (fun c1 => ?_) (fun c1 => ?_)
  · skip
    refine lv_iconst (v := (0 : Int32)) hx hb dX3_hasMember_16 (by decide) ?_
    refine g_zret C hr (by first | rfl | decide | (exact rfl)) hH (Nat.le_of_ble_eq_true rfl) (Nat.le_of_ble_eq_true rfl) dX3_hasMember_17 ?_
    exact ⟨rfl, rfl, rfl⟩
  · skip
    refine lv_iload_n hx hb dX3_hasMember_4 rfl (lv_at hl 1 rfl) ?_
    refine lv_aload_n hx hb dX3_hasMember_5 rfl (lv_at hl 0 rfl) ?_
    refine g_get C hH mn fn iX3 rfl 7 (by decide) wd4 rfl rfl dX3_hasMember_6 ?_
    refine lv_icmp_ge (tgt := 16) hx hb dX3_hasMember_9 (by decide) (fun c2 => ?_) (fun c2 => ?_)
    · skip
      refine lv_iconst (v := (0 : Int32)) hx hb dX3_hasMember_16 (by decide) ?_
      refine g_zret C hr (by first | rfl | decide | (exact rfl)) hH (Nat.le_of_ble_eq_true rfl) (Nat.le_of_ble_eq_true rfl) dX3_hasMember_17 ?_
      exact ⟨rfl, rfl, rfl⟩
    · skip
      exfalso; simp only [fa_lt, fa_le, fa_eq, ti_0] at c1 c2; omega
set_option maxHeartbeats 4000000 in
set_option maxRecDepth 100000 in
theorem k_hasCell (l : Launch) (E : gE) (L : List Nat) (f : gF) {xn : Nat} {na : Nat → Nat} (mn : xn ∈ L) (fn : f xn = .inr (3, [.int (0 : Int32), .int (0 : Int32), .int (0 : Int32), .int (0 : Int32), .int (0 : Int32), .int (0 : Int32), .int (0 : Int32), .int (0 : Int32), .int (0 : Int32), .int (0 : Int32), .ref (na 0), .ref (na 1), .ref (na 2), .ref (na 3), .ref (na 4), .ref (na 5), .ref (na 6), .ref (na 7), .ref (na 8), .ref (na 9)])) (p0 : Int32) : gMi l E yX3_hasCell cX3_hasCell 2 .boolean (gRm 2 0 0) [.ref xn, .int p0] L f (gRO (0 : Int32) L f) := by
  refine gMi.intro (by decide) (Nat.le_of_ble_eq_true rfl) ?_
  intro p e s m below meth c A ls C hr hA hH hl
  have C : gC E cX3_hasCell 2 RX3 p s m _ meth c := C
  have hl : lv_has ls 2 [(0, .ref xn), (1, .int p0)] := hl
  have hx := C.1
  have hb := C.2.1
  refine lv_iload_n hx hb dX3_hasCell_0 rfl (lv_at hl 1 rfl) ?_
  refine lv_if_lt (tgt := 16) hx hb dX3_hasCell_1 (by decide) (fun c1 => ?_) (fun c1 => ?_)
  · skip
    refine lv_iconst (v := (0 : Int32)) hx hb dX3_hasCell_16 (by decide) ?_
    refine g_zret C hr (by first | rfl | decide | (exact rfl)) hH (Nat.le_of_ble_eq_true rfl) (Nat.le_of_ble_eq_true rfl) dX3_hasCell_17 ?_
    exact ⟨rfl, rfl, rfl⟩
  · skip
    refine lv_iload_n hx hb dX3_hasCell_4 rfl (lv_at hl 1 rfl) ?_
    refine lv_aload_n hx hb dX3_hasCell_5 rfl (lv_at hl 0 rfl) ?_
    refine g_Vi C hl.1 hA hH (As := []) (rest := [.int p0]) (k_cells l E L f mn fn) my_X3_cells wd9 mn fn rfl rfl rfl (Nat.le_of_ble_eq_true rfl) ⟨Nat.le_of_ble_eq_true rfl, Nat.le_of_ble_eq_true rfl⟩ ⟨Nat.le_of_ble_eq_true rfl, Nat.le_of_ble_eq_true rfl⟩ dX3_hasCell_6 (fun r4 L3 f2 H locs hp hH => ?_)
    obtain ⟨er4, rfl, rfl⟩ := hp
    subst er4
    refine lv_icmp_ge (tgt := 16) hx hb dX3_hasCell_9 (by decide) (fun c5 => ?_) (fun c5 => ?_)
    · skip
      refine lv_iconst (v := (0 : Int32)) hx hb dX3_hasCell_16 (by decide) ?_
      refine g_zret C hr (by first | rfl | decide | (exact rfl)) hH (Nat.le_of_ble_eq_true rfl) (Nat.le_of_ble_eq_true rfl) dX3_hasCell_17 ?_
      exact ⟨rfl, rfl, rfl⟩
    · skip
      exfalso; simp only [fa_lt, fa_le, fa_eq, ti_0] at c1 c5; omega
set_option maxHeartbeats 4000000 in
set_option maxRecDepth 100000 in
theorem k_hasSet (l : Launch) (E : gE) (L : List Nat) (f : gF) {xn : Nat} {na : Nat → Nat} (mn : xn ∈ L) (fn : f xn = .inr (3, [.int (0 : Int32), .int (0 : Int32), .int (0 : Int32), .int (0 : Int32), .int (0 : Int32), .int (0 : Int32), .int (0 : Int32), .int (0 : Int32), .int (0 : Int32), .int (0 : Int32), .ref (na 0), .ref (na 1), .ref (na 2), .ref (na 3), .ref (na 4), .ref (na 5), .ref (na 6), .ref (na 7), .ref (na 8), .ref (na 9)])) (p0 : Int32) : gMi l E yX3_hasSet cX3_hasSet 2 .boolean (gRm 2 0 0) [.ref xn, .int p0] L f (gRO (0 : Int32) L f) := by
  refine gMi.intro (by decide) (Nat.le_of_ble_eq_true rfl) ?_
  intro p e s m below meth c A ls C hr hA hH hl
  have C : gC E cX3_hasSet 2 RX3 p s m _ meth c := C
  have hl : lv_has ls 2 [(0, .ref xn), (1, .int p0)] := hl
  have hx := C.1
  have hb := C.2.1
  refine lv_aload_n hx hb dX3_hasSet_0 rfl (lv_at hl 0 rfl) ?_
  refine g_Vi C hl.1 hA hH (As := []) (rest := []) (k_isNone l E L f mn fn) my_X3_isNone wd13 mn fn rfl rfl rfl (Nat.le_of_ble_eq_true rfl) ⟨Nat.le_of_ble_eq_true rfl, Nat.le_of_ble_eq_true rfl⟩ ⟨Nat.le_of_ble_eq_true rfl, Nat.le_of_ble_eq_true rfl⟩ dX3_hasSet_1 (fun r3 L2 f1 H locs hp hH => ?_)
  obtain ⟨er3, rfl, rfl⟩ := hp
  subst er3
  refine lv_if_ne (tgt := 23) hx hb dX3_hasSet_4 (by decide) (fun _ => ?_) (fun h => absurd h (by decide))
  refine lv_iconst (v := (0 : Int32)) hx hb dX3_hasSet_23 (by decide) ?_
  refine g_zret C hr (by first | rfl | decide | (exact rfl)) hH (Nat.le_of_ble_eq_true rfl) (Nat.le_of_ble_eq_true rfl) dX3_hasSet_24 ?_
  exact ⟨rfl, rfl, rfl⟩
set_option maxHeartbeats 4000000 in
set_option maxRecDepth 100000 in
theorem k_isSlot (l : Launch) (E : gE) (L : List Nat) (f : gF) (p0 : Int32) : gMi l E yX9_isSlot cX9_isSlot 1 .boolean (gRm 1 0 0) [.int p0] L f (gRO (gSlot p0) L f) := by
  refine gMi.intro (by decide) (Nat.le_of_ble_eq_true rfl) ?_
  intro p e s m below meth c A ls C hr hA hH hl
  have C : gC E cX9_isSlot 1 RX9 p s m _ meth c := C
  have hl : lv_has ls 1 [(0, .int p0)] := hl
  have hx := C.1
  have hb := C.2.1
  refine lv_iload_n hx hb dX9_isSlot_0 rfl (lv_at hl 0 rfl) ?_
  refine lv_if_lt (tgt := 13) hx hb dX9_isSlot_1 (by decide) (fun c1 => ?_) (fun c1 => ?_)
  · skip
    refine lv_iconst (v := (0 : Int32)) hx hb dX9_isSlot_13 (by decide) ?_
    refine g_zret C hr (by first | rfl | decide | (exact rfl)) hH (Nat.le_of_ble_eq_true rfl) (Nat.le_of_ble_eq_true rfl) dX9_isSlot_14 ?_
    exact ⟨by rw [gSlot, if_pos c1], rfl, rfl⟩
  · skip
    refine lv_iload_n hx hb dX9_isSlot_4 rfl (lv_at hl 0 rfl) ?_
    refine lv_iconst (v := (4 : Int32)) hx hb dX9_isSlot_5 (by decide) ?_
    refine lv_icmp_ge (tgt := 13) hx hb dX9_isSlot_6 (by decide) (fun c2 => ?_) (fun c2 => ?_)
    · skip
      refine lv_iconst (v := (0 : Int32)) hx hb dX9_isSlot_13 (by decide) ?_
      refine g_zret C hr (by first | rfl | decide | (exact rfl)) hH (Nat.le_of_ble_eq_true rfl) (Nat.le_of_ble_eq_true rfl) dX9_isSlot_14 ?_
      exact ⟨by rw [gSlot, if_neg c1, if_pos c2], rfl, rfl⟩
    · skip
      refine lv_iconst (v := (1 : Int32)) hx hb dX9_isSlot_9 (by decide) ?_
      refine lv_goto (tgt := 14) hx hb dX9_isSlot_10 (by decide) ?_
      refine g_zret C hr (by first | rfl | decide | (exact rfl)) hH (Nat.le_of_ble_eq_true rfl) (Nat.le_of_ble_eq_true rfl) dX9_isSlot_14 ?_
      exact ⟨by rw [gSlot, if_neg c1, if_neg c2], rfl, rfl⟩
set_option maxHeartbeats 4000000 in
set_option maxRecDepth 100000 in
theorem k_rowRefusal (l : Launch) (E : gE) (L : List Nat) (f : gF) {x xt xn xr xi xw xs xl xc xh xf xm : Nat} (mx : x ∈ L) (fx : f x = .inr (9, [.ref xt, .ref xn, .ref xr, .ref xi, .ref xw, .ref xs, .ref xl, .ref xc, .ref xh, .ref xf, .ref xm])) {na : Nat → Nat} (mn : xn ∈ L) (fn : f xn = .inr (3, [.int (0 : Int32), .int (0 : Int32), .int (0 : Int32), .int (0 : Int32), .int (0 : Int32), .int (0 : Int32), .int (0 : Int32), .int (0 : Int32), .int (0 : Int32), .int (0 : Int32), .ref (na 0), .ref (na 1), .ref (na 2), .ref (na 3), .ref (na 4), .ref (na 5), .ref (na 6), .ref (na 7), .ref (na 8), .ref (na 9)])) (p0 : Int32) : gMi l E yX9_rowRefusal cX9_rowRefusal 2 .int (gRm 3 0 0) [.ref x, .int p0] L f (gRO (-2 : Int32) L f) := by
  refine gMi.intro (by decide) (Nat.le_of_ble_eq_true rfl) ?_
  intro p e s m below meth c A ls C hr hA hH hl
  have C : gC E cX9_rowRefusal 2 RX9 p s m _ meth c := C
  have hl : lv_has ls 2 [(0, .ref x), (1, .int p0)] := hl
  have hx := C.1
  have hb := C.2.1
  refine lv_iload_n hx hb dX9_rowRefusal_0 rfl (lv_at hl 1 rfl) ?_
  refine g_Si C hl.1 hA hH (As := [.int p0]) (rest := []) (k_isSlot l E L f p0) my_X9_isSlot wd17 rfl rfl (Nat.le_of_ble_eq_true rfl) ⟨Nat.le_of_ble_eq_true rfl, Nat.le_of_ble_eq_true rfl⟩ ⟨Nat.le_of_ble_eq_true rfl, Nat.le_of_ble_eq_true rfl⟩ dX9_rowRefusal_1 (fun r3 L2 f1 H locs hp hH => ?_)
  obtain ⟨er3, rfl, rfl⟩ := hp
  subst er3
  refine lv_if_eq (tgt := 17) hx hb dX9_rowRefusal_4 (by decide) (fun c4 => ?_) (fun c4 => ?_)
  · skip
    refine lv_bipush (v := (-2 : Int32)) hx hb dX9_rowRefusal_17 (by decide) ?_
    refine g_iret C hr hH (Nat.le_of_ble_eq_true rfl) (Nat.le_of_ble_eq_true rfl) dX9_rowRefusal_19 ?_
    exact ⟨rfl, rfl, rfl⟩
  · skip
    refine lv_aload_n hx hb dX9_rowRefusal_7 rfl (lv_at hl 0 rfl) ?_
    refine g_get C hH mx fx iX9 rfl 1 (by decide) wd18 rfl rfl dX9_rowRefusal_8 ?_
    refine g_Vi C hl.1 hA hH (As := []) (rest := []) (k_isNone l E L f mn fn) my_X3_isNone wd19 mn fn rfl rfl rfl (Nat.le_of_ble_eq_true rfl) ⟨Nat.le_of_ble_eq_true rfl, Nat.le_of_ble_eq_true rfl⟩ ⟨Nat.le_of_ble_eq_true rfl, Nat.le_of_ble_eq_true rfl⟩ dX9_rowRefusal_11 (fun r7 L6 f5 H locs hp hH => ?_)
    obtain ⟨er7, rfl, rfl⟩ := hp
    subst er7
    refine lv_if_eq (tgt := 20) hx hb dX9_rowRefusal_14 (by decide) (fun h => absurd h (by decide)) (fun _ => ?_)
    refine lv_bipush (v := (-2 : Int32)) hx hb dX9_rowRefusal_17 (by decide) ?_
    refine g_iret C hr hH (Nat.le_of_ble_eq_true rfl) (Nat.le_of_ble_eq_true rfl) dX9_rowRefusal_19 ?_
    exact ⟨rfl, rfl, rfl⟩
set_option maxHeartbeats 4000000 in
set_option maxRecDepth 100000 in
theorem k_sightRefusal (l : Launch) (E : gE) (L : List Nat) (f : gF) {x xt xn xr xi xw xs xl xc xh xf xm : Nat} (mx : x ∈ L) (fx : f x = .inr (9, [.ref xt, .ref xn, .ref xr, .ref xi, .ref xw, .ref xs, .ref xl, .ref xc, .ref xh, .ref xf, .ref xm])) {na : Nat → Nat} (mn : xn ∈ L) (fn : f xn = .inr (3, [.int (0 : Int32), .int (0 : Int32), .int (0 : Int32), .int (0 : Int32), .int (0 : Int32), .int (0 : Int32), .int (0 : Int32), .int (0 : Int32), .int (0 : Int32), .int (0 : Int32), .ref (na 0), .ref (na 1), .ref (na 2), .ref (na 3), .ref (na 4), .ref (na 5), .ref (na 6), .ref (na 7), .ref (na 8), .ref (na 9)])) (p0 : Int32) : gMi l E yX9_sightRefusal cX9_sightRefusal 3 .int (gRm 4 0 0) [.ref x, .int p0] L f (gRO (-2 : Int32) L f) := by
  refine gMi.intro (by decide) (Nat.le_of_ble_eq_true rfl) ?_
  intro p e s m below meth c A ls C hr hA hH hl
  have C : gC E cX9_sightRefusal 3 RX9 p s m _ meth c := C
  have hl : lv_has ls 3 [(0, .ref x), (1, .int p0)] := hl
  have hx := C.1
  have hb := C.2.1
  refine lv_aload_n hx hb dX9_sightRefusal_0 rfl (lv_at hl 0 rfl) ?_
  refine lv_iload_n hx hb dX9_sightRefusal_1 rfl (lv_at hl 1 rfl) ?_
  refine g_Vi C hl.1 hA hH (As := [.int p0]) (rest := []) (k_rowRefusal l E L f mx fx mn fn p0) my_X9_rowRefusal wd23 mx fx rfl rfl rfl (Nat.le_of_ble_eq_true rfl) ⟨Nat.le_of_ble_eq_true rfl, Nat.le_of_ble_eq_true rfl⟩ ⟨Nat.le_of_ble_eq_true rfl, Nat.le_of_ble_eq_true rfl⟩ dX9_sightRefusal_2 (fun r3 L2 f1 H locs hp hH => ?_)
  obtain ⟨er3, rfl, rfl⟩ := hp
  subst er3
  refine lv_istore_n (lv' := [(2, .int (-2 : Int32)), (0, .ref x), (1, .int p0)]) hx hb dX9_sightRefusal_5 rfl hl (by decide) rfl (fun ls hl => ?_)
  refine lv_iload_n hx hb dX9_sightRefusal_6 rfl (lv_at hl 0 rfl) ?_
  refine lv_if_eq (tgt := 12) hx hb dX9_sightRefusal_7 (by decide) (fun h => absurd h (by decide)) (fun _ => ?_)
  refine lv_iload_n hx hb dX9_sightRefusal_10 rfl (lv_at hl 0 rfl) ?_
  refine g_iret C hr hH (Nat.le_of_ble_eq_true rfl) (Nat.le_of_ble_eq_true rfl) dX9_sightRefusal_11 ?_
  exact ⟨rfl, rfl, rfl⟩
set_option maxHeartbeats 4000000 in
set_option maxRecDepth 100000 in
theorem k_reportRefusal (l : Launch) (E : gE) (L : List Nat) (f : gF) {x xt xn xr xi xw xs xl xc xh xf xm : Nat} (mx : x ∈ L) (fx : f x = .inr (9, [.ref xt, .ref xn, .ref xr, .ref xi, .ref xw, .ref xs, .ref xl, .ref xc, .ref xh, .ref xf, .ref xm])) {na : Nat → Nat} (mn : xn ∈ L) (fn : f xn = .inr (3, [.int (0 : Int32), .int (0 : Int32), .int (0 : Int32), .int (0 : Int32), .int (0 : Int32), .int (0 : Int32), .int (0 : Int32), .int (0 : Int32), .int (0 : Int32), .int (0 : Int32), .ref (na 0), .ref (na 1), .ref (na 2), .ref (na 3), .ref (na 4), .ref (na 5), .ref (na 6), .ref (na 7), .ref (na 8), .ref (na 9)])) (p0 : Int32) : gMi l E yX9_reportRefusal cX9_reportRefusal 3 .int (gRm 4 0 0) [.ref x, .int p0] L f (gRO (-2 : Int32) L f) := by
  refine gMi.intro (by decide) (Nat.le_of_ble_eq_true rfl) ?_
  intro p e s m below meth c A ls C hr hA hH hl
  have C : gC E cX9_reportRefusal 3 RX9 p s m _ meth c := C
  have hl : lv_has ls 3 [(0, .ref x), (1, .int p0)] := hl
  have hx := C.1
  have hb := C.2.1
  refine lv_aload_n hx hb dX9_reportRefusal_0 rfl (lv_at hl 0 rfl) ?_
  refine lv_iload_n hx hb dX9_reportRefusal_1 rfl (lv_at hl 1 rfl) ?_
  refine g_Vi C hl.1 hA hH (As := [.int p0]) (rest := []) (k_rowRefusal l E L f mx fx mn fn p0) my_X9_rowRefusal wd23 mx fx rfl rfl rfl (Nat.le_of_ble_eq_true rfl) ⟨Nat.le_of_ble_eq_true rfl, Nat.le_of_ble_eq_true rfl⟩ ⟨Nat.le_of_ble_eq_true rfl, Nat.le_of_ble_eq_true rfl⟩ dX9_reportRefusal_2 (fun r3 L2 f1 H locs hp hH => ?_)
  obtain ⟨er3, rfl, rfl⟩ := hp
  subst er3
  refine lv_istore_n (lv' := [(2, .int (-2 : Int32)), (0, .ref x), (1, .int p0)]) hx hb dX9_reportRefusal_5 rfl hl (by decide) rfl (fun ls hl => ?_)
  refine lv_iload_n hx hb dX9_reportRefusal_6 rfl (lv_at hl 0 rfl) ?_
  refine lv_if_eq (tgt := 12) hx hb dX9_reportRefusal_7 (by decide) (fun h => absurd h (by decide)) (fun _ => ?_)
  refine lv_iload_n hx hb dX9_reportRefusal_10 rfl (lv_at hl 0 rfl) ?_
  refine g_iret C hr hH (Nat.le_of_ble_eq_true rfl) (Nat.le_of_ble_eq_true rfl) dX9_reportRefusal_11 ?_
  exact ⟨rfl, rfl, rfl⟩
set_option maxHeartbeats 4000000 in
set_option maxRecDepth 100000 in
theorem k_areTwo (l : Launch) (E : gE) (L : List Nat) (f : gF) {x xt xn xr xi xw xs xl xc xh xf xm : Nat} (mx : x ∈ L) (fx : f x = .inr (9, [.ref xt, .ref xn, .ref xr, .ref xi, .ref xw, .ref xs, .ref xl, .ref xc, .ref xh, .ref xf, .ref xm])) {na : Nat → Nat} (mn : xn ∈ L) (fn : f xn = .inr (3, [.int (0 : Int32), .int (0 : Int32), .int (0 : Int32), .int (0 : Int32), .int (0 : Int32), .int (0 : Int32), .int (0 : Int32), .int (0 : Int32), .int (0 : Int32), .int (0 : Int32), .ref (na 0), .ref (na 1), .ref (na 2), .ref (na 3), .ref (na 4), .ref (na 5), .ref (na 6), .ref (na 7), .ref (na 8), .ref (na 9)])) (p0 p1 : Int32) : gMi l E yX9_areTwo cX9_areTwo 3 .boolean (gRm 3 0 0) [.ref x, .int p0, .int p1] L f (gRO (0 : Int32) L f) := by
  refine gMi.intro (by decide) (Nat.le_of_ble_eq_true rfl) ?_
  intro p e s m below meth c A ls C hr hA hH hl
  have C : gC E cX9_areTwo 3 RX9 p s m _ meth c := C
  have hl : lv_has ls 3 [(0, .ref x), (1, .int p0), (2, .int p1)] := hl
  have hx := C.1
  have hb := C.2.1
  refine lv_aload_n hx hb dX9_areTwo_0 rfl (lv_at hl 0 rfl) ?_
  refine g_get C hH mx fx iX9 rfl 1 (by decide) wd18 rfl rfl dX9_areTwo_1 ?_
  refine lv_iload_n hx hb dX9_areTwo_4 rfl (lv_at hl 1 rfl) ?_
  refine g_Vi C hl.1 hA hH (As := [.int p0]) (rest := []) (k_hasMember l E L f mn fn p0) my_X3_hasMember wd27 mn fn rfl rfl rfl (Nat.le_of_ble_eq_true rfl) ⟨Nat.le_of_ble_eq_true rfl, Nat.le_of_ble_eq_true rfl⟩ ⟨Nat.le_of_ble_eq_true rfl, Nat.le_of_ble_eq_true rfl⟩ dX9_areTwo_5 (fun r3 L2 f1 H locs hp hH => ?_)
  obtain ⟨er3, rfl, rfl⟩ := hp
  subst er3
  refine lv_if_eq (tgt := 31) hx hb dX9_areTwo_8 (by decide) (fun _ => ?_) (fun h => absurd (by decide) h)
  refine lv_iconst (v := (0 : Int32)) hx hb dX9_areTwo_31 (by decide) ?_
  refine g_zret C hr (by first | rfl | decide | (exact rfl)) hH (Nat.le_of_ble_eq_true rfl) (Nat.le_of_ble_eq_true rfl) dX9_areTwo_32 ?_
  exact ⟨rfl, rfl, rfl⟩
set_option maxHeartbeats 4000000 in
set_option maxRecDepth 100000 in
theorem k_flight (l : Launch) (E : gE) (L : List Nat) (f : gF) {x xt xn xr xi xw xs xl xc xh xf xm : Nat} (mx : x ∈ L) (fx : f x = .inr (9, [.ref xt, .ref xn, .ref xr, .ref xi, .ref xw, .ref xs, .ref xl, .ref xc, .ref xh, .ref xf, .ref xm])) {na : Nat → Nat} (mn : xn ∈ L) (fn : f xn = .inr (3, [.int (0 : Int32), .int (0 : Int32), .int (0 : Int32), .int (0 : Int32), .int (0 : Int32), .int (0 : Int32), .int (0 : Int32), .int (0 : Int32), .int (0 : Int32), .int (0 : Int32), .ref (na 0), .ref (na 1), .ref (na 2), .ref (na 3), .ref (na 4), .ref (na 5), .ref (na 6), .ref (na 7), .ref (na 8), .ref (na 9)])) (p0 p1 : Int32) : gMi l E yX9_flight cX9_flight 3 .int (gRm 5 0 0) [.ref x, .int p0, .int p1] L f (gRO (-2 : Int32) L f) := by
  refine gMi.intro (by decide) (Nat.le_of_ble_eq_true rfl) ?_
  intro p e s m below meth c A ls C hr hA hH hl
  have C : gC E cX9_flight 3 RX9 p s m _ meth c := C
  have hl : lv_has ls 3 [(0, .ref x), (1, .int p0), (2, .int p1)] := hl
  have hx := C.1
  have hb := C.2.1
  refine lv_aload_n hx hb dX9_flight_0 rfl (lv_at hl 0 rfl) ?_
  refine g_get C hH mx fx iX9 rfl 1 (by decide) wd18 rfl rfl dX9_flight_1 ?_
  refine lv_iload_n hx hb dX9_flight_4 rfl (lv_at hl 1 rfl) ?_
  refine g_Vi C hl.1 hA hH (As := [.int p0]) (rest := []) (k_hasFlight l E L f mn fn p0) my_X3_hasFlight wd31 mn fn rfl rfl rfl (Nat.le_of_ble_eq_true rfl) ⟨Nat.le_of_ble_eq_true rfl, Nat.le_of_ble_eq_true rfl⟩ ⟨Nat.le_of_ble_eq_true rfl, Nat.le_of_ble_eq_true rfl⟩ dX9_flight_5 (fun r3 L2 f1 H locs hp hH => ?_)
  obtain ⟨er3, rfl, rfl⟩ := hp
  subst er3
  refine lv_if_ne (tgt := 14) hx hb dX9_flight_8 (by decide) (fun h => absurd (by decide) h) (fun _ => ?_)
  refine lv_bipush (v := (-2 : Int32)) hx hb dX9_flight_11 (by decide) ?_
  refine g_iret C hr hH (Nat.le_of_ble_eq_true rfl) (Nat.le_of_ble_eq_true rfl) dX9_flight_13 ?_
  exact ⟨rfl, rfl, rfl⟩
set_option maxHeartbeats 4000000 in
set_option maxRecDepth 100000 in
theorem k_member (l : Launch) (E : gE) (L : List Nat) (f : gF) {x xt xn xr xi xw xs xl xc xh xf xm : Nat} (mx : x ∈ L) (fx : f x = .inr (9, [.ref xt, .ref xn, .ref xr, .ref xi, .ref xw, .ref xs, .ref xl, .ref xc, .ref xh, .ref xf, .ref xm])) {na : Nat → Nat} (mn : xn ∈ L) (fn : f xn = .inr (3, [.int (0 : Int32), .int (0 : Int32), .int (0 : Int32), .int (0 : Int32), .int (0 : Int32), .int (0 : Int32), .int (0 : Int32), .int (0 : Int32), .int (0 : Int32), .int (0 : Int32), .ref (na 0), .ref (na 1), .ref (na 2), .ref (na 3), .ref (na 4), .ref (na 5), .ref (na 6), .ref (na 7), .ref (na 8), .ref (na 9)])) (p0 p1 : Int32) : gMi l E yX9_member cX9_member 3 .int (gRm 5 0 0) [.ref x, .int p0, .int p1] L f (gRO (-2 : Int32) L f) := by
  refine gMi.intro (by decide) (Nat.le_of_ble_eq_true rfl) ?_
  intro p e s m below meth c A ls C hr hA hH hl
  have C : gC E cX9_member 3 RX9 p s m _ meth c := C
  have hl : lv_has ls 3 [(0, .ref x), (1, .int p0), (2, .int p1)] := hl
  have hx := C.1
  have hb := C.2.1
  refine lv_aload_n hx hb dX9_member_0 rfl (lv_at hl 0 rfl) ?_
  refine g_get C hH mx fx iX9 rfl 1 (by decide) wd18 rfl rfl dX9_member_1 ?_
  refine lv_iload_n hx hb dX9_member_4 rfl (lv_at hl 1 rfl) ?_
  refine g_Vi C hl.1 hA hH (As := [.int p0]) (rest := []) (k_hasMember l E L f mn fn p0) my_X3_hasMember wd27 mn fn rfl rfl rfl (Nat.le_of_ble_eq_true rfl) ⟨Nat.le_of_ble_eq_true rfl, Nat.le_of_ble_eq_true rfl⟩ ⟨Nat.le_of_ble_eq_true rfl, Nat.le_of_ble_eq_true rfl⟩ dX9_member_5 (fun r3 L2 f1 H locs hp hH => ?_)
  obtain ⟨er3, rfl, rfl⟩ := hp
  subst er3
  refine lv_if_ne (tgt := 14) hx hb dX9_member_8 (by decide) (fun h => absurd (by decide) h) (fun _ => ?_)
  refine lv_bipush (v := (-2 : Int32)) hx hb dX9_member_11 (by decide) ?_
  refine g_iret C hr hH (Nat.le_of_ble_eq_true rfl) (Nat.le_of_ble_eq_true rfl) dX9_member_13 ?_
  exact ⟨rfl, rfl, rfl⟩
set_option maxHeartbeats 4000000 in
set_option maxRecDepth 100000 in
theorem k_lamps (l : Launch) (E : gE) (L : List Nat) (f : gF) {x xt xn xr xi xw xs xl xc xh xf xm : Nat} (mx : x ∈ L) (fx : f x = .inr (9, [.ref xt, .ref xn, .ref xr, .ref xi, .ref xw, .ref xs, .ref xl, .ref xc, .ref xh, .ref xf, .ref xm])) {na : Nat → Nat} (mn : xn ∈ L) (fn : f xn = .inr (3, [.int (0 : Int32), .int (0 : Int32), .int (0 : Int32), .int (0 : Int32), .int (0 : Int32), .int (0 : Int32), .int (0 : Int32), .int (0 : Int32), .int (0 : Int32), .int (0 : Int32), .ref (na 0), .ref (na 1), .ref (na 2), .ref (na 3), .ref (na 4), .ref (na 5), .ref (na 6), .ref (na 7), .ref (na 8), .ref (na 9)])) : gMi l E yX9_lamps cX9_lamps 1 .int (gRm 5 0 0) [.ref x] L f (gRO (-2 : Int32) L f) := by
  refine gMi.intro (by decide) (Nat.le_of_ble_eq_true rfl) ?_
  intro p e s m below meth c A ls C hr hA hH hl
  have C : gC E cX9_lamps 1 RX9 p s m _ meth c := C
  have hl : lv_has ls 1 [(0, .ref x)] := hl
  have hx := C.1
  have hb := C.2.1
  refine lv_aload_n hx hb dX9_lamps_0 rfl (lv_at hl 0 rfl) ?_
  refine g_get C hH mx fx iX9 rfl 1 (by decide) wd18 rfl rfl dX9_lamps_1 ?_
  refine g_Vi C hl.1 hA hH (As := []) (rest := []) (k_isNone l E L f mn fn) my_X3_isNone wd19 mn fn rfl rfl rfl (Nat.le_of_ble_eq_true rfl) ⟨Nat.le_of_ble_eq_true rfl, Nat.le_of_ble_eq_true rfl⟩ ⟨Nat.le_of_ble_eq_true rfl, Nat.le_of_ble_eq_true rfl⟩ dX9_lamps_4 (fun r3 L2 f1 H locs hp hH => ?_)
  obtain ⟨er3, rfl, rfl⟩ := hp
  subst er3
  refine lv_if_eq (tgt := 15) hx hb dX9_lamps_7 (by decide) (fun h => absurd h (by decide)) (fun _ => ?_)
  refine lv_bipush (v := (-2 : Int32)) hx hb dX9_lamps_10 (by decide) ?_
  refine lv_goto (tgt := 22) hx hb dX9_lamps_12 (by decide) ?_
  refine g_iret C hr hH (Nat.le_of_ble_eq_true rfl) (Nat.le_of_ble_eq_true rfl) dX9_lamps_22 ?_
  exact ⟨rfl, rfl, rfl⟩
set_option maxHeartbeats 4000000 in
set_option maxRecDepth 100000 in
theorem k_at (l : Launch) (E : gE) (L : List Nat) (f : gF) {x xt xn xr xi xw xs xl xc xh xf xm : Nat} (mx : x ∈ L) (fx : f x = .inr (9, [.ref xt, .ref xn, .ref xr, .ref xi, .ref xw, .ref xs, .ref xl, .ref xc, .ref xh, .ref xf, .ref xm])) {na : Nat → Nat} (mn : xn ∈ L) (fn : f xn = .inr (3, [.int (0 : Int32), .int (0 : Int32), .int (0 : Int32), .int (0 : Int32), .int (0 : Int32), .int (0 : Int32), .int (0 : Int32), .int (0 : Int32), .int (0 : Int32), .int (0 : Int32), .ref (na 0), .ref (na 1), .ref (na 2), .ref (na 3), .ref (na 4), .ref (na 5), .ref (na 6), .ref (na 7), .ref (na 8), .ref (na 9)])) (p0 p1 : Int32) : gMi l E yX9_at cX9_at 3 .int (gRm 5 0 0) [.ref x, .int p0, .int p1] L f (gRO (-2 : Int32) L f) := by
  refine gMi.intro (by decide) (Nat.le_of_ble_eq_true rfl) ?_
  intro p e s m below meth c A ls C hr hA hH hl
  have C : gC E cX9_at 3 RX9 p s m _ meth c := C
  have hl : lv_has ls 3 [(0, .ref x), (1, .int p0), (2, .int p1)] := hl
  have hx := C.1
  have hb := C.2.1
  refine lv_aload_n hx hb dX9_at_0 rfl (lv_at hl 0 rfl) ?_
  refine g_get C hH mx fx iX9 rfl 1 (by decide) wd18 rfl rfl dX9_at_1 ?_
  refine lv_iload_n hx hb dX9_at_4 rfl (lv_at hl 1 rfl) ?_
  refine g_Vi C hl.1 hA hH (As := [.int p0]) (rest := []) (k_hasFlight l E L f mn fn p0) my_X3_hasFlight wd31 mn fn rfl rfl rfl (Nat.le_of_ble_eq_true rfl) ⟨Nat.le_of_ble_eq_true rfl, Nat.le_of_ble_eq_true rfl⟩ ⟨Nat.le_of_ble_eq_true rfl, Nat.le_of_ble_eq_true rfl⟩ dX9_at_5 (fun r3 L2 f1 H locs hp hH => ?_)
  obtain ⟨er3, rfl, rfl⟩ := hp
  subst er3
  refine lv_if_eq (tgt := 18) hx hb dX9_at_8 (by decide) (fun _ => ?_) (fun h => absurd (by decide) h)
  refine lv_bipush (v := (-2 : Int32)) hx hb dX9_at_18 (by decide) ?_
  refine g_iret C hr hH (Nat.le_of_ble_eq_true rfl) (Nat.le_of_ble_eq_true rfl) dX9_at_20 ?_
  exact ⟨rfl, rfl, rfl⟩
set_option maxHeartbeats 4000000 in
set_option maxRecDepth 100000 in
theorem k_heads (l : Launch) (E : gE) (L : List Nat) (f : gF) {x xt xn xr xi xw xs xl xc xh xf xm : Nat} (mx : x ∈ L) (fx : f x = .inr (9, [.ref xt, .ref xn, .ref xr, .ref xi, .ref xw, .ref xs, .ref xl, .ref xc, .ref xh, .ref xf, .ref xm])) {na : Nat → Nat} (mn : xn ∈ L) (fn : f xn = .inr (3, [.int (0 : Int32), .int (0 : Int32), .int (0 : Int32), .int (0 : Int32), .int (0 : Int32), .int (0 : Int32), .int (0 : Int32), .int (0 : Int32), .int (0 : Int32), .int (0 : Int32), .ref (na 0), .ref (na 1), .ref (na 2), .ref (na 3), .ref (na 4), .ref (na 5), .ref (na 6), .ref (na 7), .ref (na 8), .ref (na 9)])) (p0 p1 : Int32) : gMi l E yX9_heads cX9_heads 3 .int (gRm 5 0 0) [.ref x, .int p0, .int p1] L f (gRO (-2 : Int32) L f) := by
  refine gMi.intro (by decide) (Nat.le_of_ble_eq_true rfl) ?_
  intro p e s m below meth c A ls C hr hA hH hl
  have C : gC E cX9_heads 3 RX9 p s m _ meth c := C
  have hl : lv_has ls 3 [(0, .ref x), (1, .int p0), (2, .int p1)] := hl
  have hx := C.1
  have hb := C.2.1
  refine lv_aload_n hx hb dX9_heads_0 rfl (lv_at hl 0 rfl) ?_
  refine g_get C hH mx fx iX9 rfl 1 (by decide) wd18 rfl rfl dX9_heads_1 ?_
  refine lv_iload_n hx hb dX9_heads_4 rfl (lv_at hl 1 rfl) ?_
  refine g_Vi C hl.1 hA hH (As := [.int p0]) (rest := []) (k_hasFlight l E L f mn fn p0) my_X3_hasFlight wd31 mn fn rfl rfl rfl (Nat.le_of_ble_eq_true rfl) ⟨Nat.le_of_ble_eq_true rfl, Nat.le_of_ble_eq_true rfl⟩ ⟨Nat.le_of_ble_eq_true rfl, Nat.le_of_ble_eq_true rfl⟩ dX9_heads_5 (fun r3 L2 f1 H locs hp hH => ?_)
  obtain ⟨er3, rfl, rfl⟩ := hp
  subst er3
  refine lv_if_eq (tgt := 18) hx hb dX9_heads_8 (by decide) (fun _ => ?_) (fun h => absurd (by decide) h)
  refine lv_bipush (v := (-2 : Int32)) hx hb dX9_heads_18 (by decide) ?_
  refine g_iret C hr hH (Nat.le_of_ble_eq_true rfl) (Nat.le_of_ble_eq_true rfl) dX9_heads_20 ?_
  exact ⟨rfl, rfl, rfl⟩
set_option maxHeartbeats 4000000 in
set_option maxRecDepth 100000 in
theorem k_out (l : Launch) (E : gE) (L : List Nat) (f : gF) {x xt xn xr xi xw xs xl xc xh xf xm : Nat} (mx : x ∈ L) (fx : f x = .inr (9, [.ref xt, .ref xn, .ref xr, .ref xi, .ref xw, .ref xs, .ref xl, .ref xc, .ref xh, .ref xf, .ref xm])) {na : Nat → Nat} (mn : xn ∈ L) (fn : f xn = .inr (3, [.int (0 : Int32), .int (0 : Int32), .int (0 : Int32), .int (0 : Int32), .int (0 : Int32), .int (0 : Int32), .int (0 : Int32), .int (0 : Int32), .int (0 : Int32), .int (0 : Int32), .ref (na 0), .ref (na 1), .ref (na 2), .ref (na 3), .ref (na 4), .ref (na 5), .ref (na 6), .ref (na 7), .ref (na 8), .ref (na 9)])) (p0 : Int32) : gMi l E yX9_out cX9_out 2 .int (gRm 5 0 0) [.ref x, .int p0] L f (gRO (-2 : Int32) L f) := by
  refine gMi.intro (by decide) (Nat.le_of_ble_eq_true rfl) ?_
  intro p e s m below meth c A ls C hr hA hH hl
  have C : gC E cX9_out 2 RX9 p s m _ meth c := C
  have hl : lv_has ls 2 [(0, .ref x), (1, .int p0)] := hl
  have hx := C.1
  have hb := C.2.1
  refine lv_aload_n hx hb dX9_out_0 rfl (lv_at hl 0 rfl) ?_
  refine g_get C hH mx fx iX9 rfl 1 (by decide) wd18 rfl rfl dX9_out_1 ?_
  refine lv_iload_n hx hb dX9_out_4 rfl (lv_at hl 1 rfl) ?_
  refine g_Vi C hl.1 hA hH (As := [.int p0]) (rest := []) (k_hasFlight l E L f mn fn p0) my_X3_hasFlight wd31 mn fn rfl rfl rfl (Nat.le_of_ble_eq_true rfl) ⟨Nat.le_of_ble_eq_true rfl, Nat.le_of_ble_eq_true rfl⟩ ⟨Nat.le_of_ble_eq_true rfl, Nat.le_of_ble_eq_true rfl⟩ dX9_out_5 (fun r3 L2 f1 H locs hp hH => ?_)
  obtain ⟨er3, rfl, rfl⟩ := hp
  subst er3
  refine lv_if_ne (tgt := 14) hx hb dX9_out_8 (by decide) (fun h => absurd (by decide) h) (fun _ => ?_)
  refine lv_bipush (v := (-2 : Int32)) hx hb dX9_out_11 (by decide) ?_
  refine g_iret C hr hH (Nat.le_of_ble_eq_true rfl) (Nat.le_of_ble_eq_true rfl) dX9_out_13 ?_
  exact ⟨rfl, rfl, rfl⟩
set_option maxHeartbeats 4000000 in
set_option maxRecDepth 100000 in
theorem k_bends (l : Launch) (E : gE) (L : List Nat) (f : gF) {x xt xn xr xi xw xs xl xc xh xf xm : Nat} (mx : x ∈ L) (fx : f x = .inr (9, [.ref xt, .ref xn, .ref xr, .ref xi, .ref xw, .ref xs, .ref xl, .ref xc, .ref xh, .ref xf, .ref xm])) {na : Nat → Nat} (mn : xn ∈ L) (fn : f xn = .inr (3, [.int (0 : Int32), .int (0 : Int32), .int (0 : Int32), .int (0 : Int32), .int (0 : Int32), .int (0 : Int32), .int (0 : Int32), .int (0 : Int32), .int (0 : Int32), .int (0 : Int32), .ref (na 0), .ref (na 1), .ref (na 2), .ref (na 3), .ref (na 4), .ref (na 5), .ref (na 6), .ref (na 7), .ref (na 8), .ref (na 9)])) (p0 : Int32) : gMi l E yX9_bends cX9_bends 2 .int (gRm 5 0 0) [.ref x, .int p0] L f (gRO (-2 : Int32) L f) := by
  refine gMi.intro (by decide) (Nat.le_of_ble_eq_true rfl) ?_
  intro p e s m below meth c A ls C hr hA hH hl
  have C : gC E cX9_bends 2 RX9 p s m _ meth c := C
  have hl : lv_has ls 2 [(0, .ref x), (1, .int p0)] := hl
  have hx := C.1
  have hb := C.2.1
  refine lv_aload_n hx hb dX9_bends_0 rfl (lv_at hl 0 rfl) ?_
  refine g_get C hH mx fx iX9 rfl 1 (by decide) wd18 rfl rfl dX9_bends_1 ?_
  refine lv_iload_n hx hb dX9_bends_4 rfl (lv_at hl 1 rfl) ?_
  refine g_Vi C hl.1 hA hH (As := [.int p0]) (rest := []) (k_hasFlight l E L f mn fn p0) my_X3_hasFlight wd31 mn fn rfl rfl rfl (Nat.le_of_ble_eq_true rfl) ⟨Nat.le_of_ble_eq_true rfl, Nat.le_of_ble_eq_true rfl⟩ ⟨Nat.le_of_ble_eq_true rfl, Nat.le_of_ble_eq_true rfl⟩ dX9_bends_5 (fun r3 L2 f1 H locs hp hH => ?_)
  obtain ⟨er3, rfl, rfl⟩ := hp
  subst er3
  refine lv_if_ne (tgt := 14) hx hb dX9_bends_8 (by decide) (fun h => absurd (by decide) h) (fun _ => ?_)
  refine lv_bipush (v := (-2 : Int32)) hx hb dX9_bends_11 (by decide) ?_
  refine g_iret C hr hH (Nat.le_of_ble_eq_true rfl) (Nat.le_of_ble_eq_true rfl) dX9_bends_13 ?_
  exact ⟨rfl, rfl, rfl⟩
set_option maxHeartbeats 4000000 in
set_option maxRecDepth 100000 in
theorem k_way (l : Launch) (E : gE) (L : List Nat) (f : gF) {x xt xn xr xi xw xs xl xc xh xf xm : Nat} (mx : x ∈ L) (fx : f x = .inr (9, [.ref xt, .ref xn, .ref xr, .ref xi, .ref xw, .ref xs, .ref xl, .ref xc, .ref xh, .ref xf, .ref xm])) {na : Nat → Nat} (mn : xn ∈ L) (fn : f xn = .inr (3, [.int (0 : Int32), .int (0 : Int32), .int (0 : Int32), .int (0 : Int32), .int (0 : Int32), .int (0 : Int32), .int (0 : Int32), .int (0 : Int32), .int (0 : Int32), .int (0 : Int32), .ref (na 0), .ref (na 1), .ref (na 2), .ref (na 3), .ref (na 4), .ref (na 5), .ref (na 6), .ref (na 7), .ref (na 8), .ref (na 9)])) (p0 : Int32) : gMi l E yX9_way cX9_way 2 .int (gRm 5 0 0) [.ref x, .int p0] L f (gRO (-2 : Int32) L f) := by
  refine gMi.intro (by decide) (Nat.le_of_ble_eq_true rfl) ?_
  intro p e s m below meth c A ls C hr hA hH hl
  have C : gC E cX9_way 2 RX9 p s m _ meth c := C
  have hl : lv_has ls 2 [(0, .ref x), (1, .int p0)] := hl
  have hx := C.1
  have hb := C.2.1
  refine lv_aload_n hx hb dX9_way_0 rfl (lv_at hl 0 rfl) ?_
  refine g_get C hH mx fx iX9 rfl 1 (by decide) wd18 rfl rfl dX9_way_1 ?_
  refine lv_iload_n hx hb dX9_way_4 rfl (lv_at hl 1 rfl) ?_
  refine g_Vi C hl.1 hA hH (As := [.int p0]) (rest := []) (k_hasFlight l E L f mn fn p0) my_X3_hasFlight wd31 mn fn rfl rfl rfl (Nat.le_of_ble_eq_true rfl) ⟨Nat.le_of_ble_eq_true rfl, Nat.le_of_ble_eq_true rfl⟩ ⟨Nat.le_of_ble_eq_true rfl, Nat.le_of_ble_eq_true rfl⟩ dX9_way_5 (fun r3 L2 f1 H locs hp hH => ?_)
  obtain ⟨er3, rfl, rfl⟩ := hp
  subst er3
  refine lv_if_ne (tgt := 14) hx hb dX9_way_8 (by decide) (fun h => absurd (by decide) h) (fun _ => ?_)
  refine lv_bipush (v := (-2 : Int32)) hx hb dX9_way_11 (by decide) ?_
  refine g_iret C hr hH (Nat.le_of_ble_eq_true rfl) (Nat.le_of_ble_eq_true rfl) dX9_way_13 ?_
  exact ⟨rfl, rfl, rfl⟩
set_option maxHeartbeats 4000000 in
set_option maxRecDepth 100000 in
theorem k_over (l : Launch) (E : gE) (L : List Nat) (f : gF) {x xt xn xr xi xw xs xl xc xh xf xm : Nat} (mx : x ∈ L) (fx : f x = .inr (9, [.ref xt, .ref xn, .ref xr, .ref xi, .ref xw, .ref xs, .ref xl, .ref xc, .ref xh, .ref xf, .ref xm])) {na : Nat → Nat} (mn : xn ∈ L) (fn : f xn = .inr (3, [.int (0 : Int32), .int (0 : Int32), .int (0 : Int32), .int (0 : Int32), .int (0 : Int32), .int (0 : Int32), .int (0 : Int32), .int (0 : Int32), .int (0 : Int32), .int (0 : Int32), .ref (na 0), .ref (na 1), .ref (na 2), .ref (na 3), .ref (na 4), .ref (na 5), .ref (na 6), .ref (na 7), .ref (na 8), .ref (na 9)])) (p0 : Int32) : gMi l E yX9_over cX9_over 2 .int (gRm 5 0 0) [.ref x, .int p0] L f (gRO (-2 : Int32) L f) := by
  refine gMi.intro (by decide) (Nat.le_of_ble_eq_true rfl) ?_
  intro p e s m below meth c A ls C hr hA hH hl
  have C : gC E cX9_over 2 RX9 p s m _ meth c := C
  have hl : lv_has ls 2 [(0, .ref x), (1, .int p0)] := hl
  have hx := C.1
  have hb := C.2.1
  refine lv_aload_n hx hb dX9_over_0 rfl (lv_at hl 0 rfl) ?_
  refine g_get C hH mx fx iX9 rfl 1 (by decide) wd18 rfl rfl dX9_over_1 ?_
  refine lv_iload_n hx hb dX9_over_4 rfl (lv_at hl 1 rfl) ?_
  refine g_Vi C hl.1 hA hH (As := [.int p0]) (rest := []) (k_hasCell l E L f mn fn p0) my_X3_hasCell wd35 mn fn rfl rfl rfl (Nat.le_of_ble_eq_true rfl) ⟨Nat.le_of_ble_eq_true rfl, Nat.le_of_ble_eq_true rfl⟩ ⟨Nat.le_of_ble_eq_true rfl, Nat.le_of_ble_eq_true rfl⟩ dX9_over_5 (fun r3 L2 f1 H locs hp hH => ?_)
  obtain ⟨er3, rfl, rfl⟩ := hp
  subst er3
  refine lv_if_ne (tgt := 14) hx hb dX9_over_8 (by decide) (fun h => absurd (by decide) h) (fun _ => ?_)
  refine lv_bipush (v := (-2 : Int32)) hx hb dX9_over_11 (by decide) ?_
  refine g_iret C hr hH (Nat.le_of_ble_eq_true rfl) (Nat.le_of_ble_eq_true rfl) dX9_over_13 ?_
  exact ⟨rfl, rfl, rfl⟩
set_option maxHeartbeats 4000000 in
set_option maxRecDepth 100000 in
theorem k_geese (l : Launch) (E : gE) (L : List Nat) (f : gF) {x xt xn xr xi xw xs xl xc xh xf xm : Nat} (mx : x ∈ L) (fx : f x = .inr (9, [.ref xt, .ref xn, .ref xr, .ref xi, .ref xw, .ref xs, .ref xl, .ref xc, .ref xh, .ref xf, .ref xm])) {na : Nat → Nat} (mn : xn ∈ L) (fn : f xn = .inr (3, [.int (0 : Int32), .int (0 : Int32), .int (0 : Int32), .int (0 : Int32), .int (0 : Int32), .int (0 : Int32), .int (0 : Int32), .int (0 : Int32), .int (0 : Int32), .int (0 : Int32), .ref (na 0), .ref (na 1), .ref (na 2), .ref (na 3), .ref (na 4), .ref (na 5), .ref (na 6), .ref (na 7), .ref (na 8), .ref (na 9)])) (p0 p1 : Int32) : gMi l E yX9_geese cX9_geese 3 .int (gRm 5 0 0) [.ref x, .int p0, .int p1] L f (gRO (-2 : Int32) L f) := by
  refine gMi.intro (by decide) (Nat.le_of_ble_eq_true rfl) ?_
  intro p e s m below meth c A ls C hr hA hH hl
  have C : gC E cX9_geese 3 RX9 p s m _ meth c := C
  have hl : lv_has ls 3 [(0, .ref x), (1, .int p0), (2, .int p1)] := hl
  have hx := C.1
  have hb := C.2.1
  refine lv_aload_n hx hb dX9_geese_0 rfl (lv_at hl 0 rfl) ?_
  refine g_get C hH mx fx iX9 rfl 1 (by decide) wd18 rfl rfl dX9_geese_1 ?_
  refine lv_iload_n hx hb dX9_geese_4 rfl (lv_at hl 1 rfl) ?_
  refine g_Vi C hl.1 hA hH (As := [.int p0]) (rest := []) (k_hasCell l E L f mn fn p0) my_X3_hasCell wd35 mn fn rfl rfl rfl (Nat.le_of_ble_eq_true rfl) ⟨Nat.le_of_ble_eq_true rfl, Nat.le_of_ble_eq_true rfl⟩ ⟨Nat.le_of_ble_eq_true rfl, Nat.le_of_ble_eq_true rfl⟩ dX9_geese_5 (fun r3 L2 f1 H locs hp hH => ?_)
  obtain ⟨er3, rfl, rfl⟩ := hp
  subst er3
  refine lv_if_eq (tgt := 18) hx hb dX9_geese_8 (by decide) (fun _ => ?_) (fun h => absurd (by decide) h)
  refine lv_bipush (v := (-2 : Int32)) hx hb dX9_geese_18 (by decide) ?_
  refine g_iret C hr hH (Nat.le_of_ble_eq_true rfl) (Nat.le_of_ble_eq_true rfl) dX9_geese_20 ?_
  exact ⟨rfl, rfl, rfl⟩
set_option maxHeartbeats 4000000 in
set_option maxRecDepth 100000 in
theorem k_hears (l : Launch) (E : gE) (L : List Nat) (f : gF) {x xt xn xr xi xw xs xl xc xh xf xm : Nat} (mx : x ∈ L) (fx : f x = .inr (9, [.ref xt, .ref xn, .ref xr, .ref xi, .ref xw, .ref xs, .ref xl, .ref xc, .ref xh, .ref xf, .ref xm])) {na : Nat → Nat} (mn : xn ∈ L) (fn : f xn = .inr (3, [.int (0 : Int32), .int (0 : Int32), .int (0 : Int32), .int (0 : Int32), .int (0 : Int32), .int (0 : Int32), .int (0 : Int32), .int (0 : Int32), .int (0 : Int32), .int (0 : Int32), .ref (na 0), .ref (na 1), .ref (na 2), .ref (na 3), .ref (na 4), .ref (na 5), .ref (na 6), .ref (na 7), .ref (na 8), .ref (na 9)])) (p0 p1 : Int32) : gMi l E yX9_hears cX9_hears 3 .int (gRm 5 0 0) [.ref x, .int p0, .int p1] L f (gRO (-2 : Int32) L f) := by
  refine gMi.intro (by decide) (Nat.le_of_ble_eq_true rfl) ?_
  intro p e s m below meth c A ls C hr hA hH hl
  have C : gC E cX9_hears 3 RX9 p s m _ meth c := C
  have hl : lv_has ls 3 [(0, .ref x), (1, .int p0), (2, .int p1)] := hl
  have hx := C.1
  have hb := C.2.1
  refine lv_aload_n hx hb dX9_hears_0 rfl (lv_at hl 0 rfl) ?_
  refine g_get C hH mx fx iX9 rfl 1 (by decide) wd18 rfl rfl dX9_hears_1 ?_
  refine lv_iload_n hx hb dX9_hears_4 rfl (lv_at hl 1 rfl) ?_
  refine g_Vi C hl.1 hA hH (As := [.int p0]) (rest := []) (k_hasMember l E L f mn fn p0) my_X3_hasMember wd27 mn fn rfl rfl rfl (Nat.le_of_ble_eq_true rfl) ⟨Nat.le_of_ble_eq_true rfl, Nat.le_of_ble_eq_true rfl⟩ ⟨Nat.le_of_ble_eq_true rfl, Nat.le_of_ble_eq_true rfl⟩ dX9_hears_5 (fun r3 L2 f1 H locs hp hH => ?_)
  obtain ⟨er3, rfl, rfl⟩ := hp
  subst er3
  refine lv_if_eq (tgt := 22) hx hb dX9_hears_8 (by decide) (fun _ => ?_) (fun h => absurd (by decide) h)
  refine lv_bipush (v := (-2 : Int32)) hx hb dX9_hears_22 (by decide) ?_
  refine g_iret C hr hH (Nat.le_of_ble_eq_true rfl) (Nat.le_of_ble_eq_true rfl) dX9_hears_24 ?_
  exact ⟨rfl, rfl, rfl⟩
set_option maxHeartbeats 4000000 in
set_option maxRecDepth 100000 in
theorem k_heard (l : Launch) (E : gE) (L : List Nat) (f : gF) {x xt xn xr xi xw xs xl xc xh xf xm : Nat} (mx : x ∈ L) (fx : f x = .inr (9, [.ref xt, .ref xn, .ref xr, .ref xi, .ref xw, .ref xs, .ref xl, .ref xc, .ref xh, .ref xf, .ref xm])) {na : Nat → Nat} (mn : xn ∈ L) (fn : f xn = .inr (3, [.int (0 : Int32), .int (0 : Int32), .int (0 : Int32), .int (0 : Int32), .int (0 : Int32), .int (0 : Int32), .int (0 : Int32), .int (0 : Int32), .int (0 : Int32), .int (0 : Int32), .ref (na 0), .ref (na 1), .ref (na 2), .ref (na 3), .ref (na 4), .ref (na 5), .ref (na 6), .ref (na 7), .ref (na 8), .ref (na 9)])) (p0 : Int32) : gMi l E yX9_heard cX9_heard 2 .int (gRm 5 0 0) [.ref x, .int p0] L f (gRO (-2 : Int32) L f) := by
  refine gMi.intro (by decide) (Nat.le_of_ble_eq_true rfl) ?_
  intro p e s m below meth c A ls C hr hA hH hl
  have C : gC E cX9_heard 2 RX9 p s m _ meth c := C
  have hl : lv_has ls 2 [(0, .ref x), (1, .int p0)] := hl
  have hx := C.1
  have hb := C.2.1
  refine lv_aload_n hx hb dX9_heard_0 rfl (lv_at hl 0 rfl) ?_
  refine g_get C hH mx fx iX9 rfl 1 (by decide) wd18 rfl rfl dX9_heard_1 ?_
  refine lv_iload_n hx hb dX9_heard_4 rfl (lv_at hl 1 rfl) ?_
  refine g_Vi C hl.1 hA hH (As := [.int p0]) (rest := []) (k_hasMember l E L f mn fn p0) my_X3_hasMember wd27 mn fn rfl rfl rfl (Nat.le_of_ble_eq_true rfl) ⟨Nat.le_of_ble_eq_true rfl, Nat.le_of_ble_eq_true rfl⟩ ⟨Nat.le_of_ble_eq_true rfl, Nat.le_of_ble_eq_true rfl⟩ dX9_heard_5 (fun r3 L2 f1 H locs hp hH => ?_)
  obtain ⟨er3, rfl, rfl⟩ := hp
  subst er3
  refine lv_if_ne (tgt := 14) hx hb dX9_heard_8 (by decide) (fun h => absurd (by decide) h) (fun _ => ?_)
  refine lv_bipush (v := (-2 : Int32)) hx hb dX9_heard_11 (by decide) ?_
  refine g_iret C hr hH (Nat.le_of_ble_eq_true rfl) (Nat.le_of_ble_eq_true rfl) dX9_heard_13 ?_
  exact ⟨rfl, rfl, rfl⟩
set_option maxHeartbeats 4000000 in
set_option maxRecDepth 100000 in
theorem k_ears (l : Launch) (E : gE) (L : List Nat) (f : gF) {x xt xn xr xi xw xs xl xc xh xf xm : Nat} (mx : x ∈ L) (fx : f x = .inr (9, [.ref xt, .ref xn, .ref xr, .ref xi, .ref xw, .ref xs, .ref xl, .ref xc, .ref xh, .ref xf, .ref xm])) {na : Nat → Nat} (mn : xn ∈ L) (fn : f xn = .inr (3, [.int (0 : Int32), .int (0 : Int32), .int (0 : Int32), .int (0 : Int32), .int (0 : Int32), .int (0 : Int32), .int (0 : Int32), .int (0 : Int32), .int (0 : Int32), .int (0 : Int32), .ref (na 0), .ref (na 1), .ref (na 2), .ref (na 3), .ref (na 4), .ref (na 5), .ref (na 6), .ref (na 7), .ref (na 8), .ref (na 9)])) (p0 : Int32) : gMi l E yX9_ears cX9_ears 2 .int (gRm 5 0 0) [.ref x, .int p0] L f (gRO (-2 : Int32) L f) := by
  refine gMi.intro (by decide) (Nat.le_of_ble_eq_true rfl) ?_
  intro p e s m below meth c A ls C hr hA hH hl
  have C : gC E cX9_ears 2 RX9 p s m _ meth c := C
  have hl : lv_has ls 2 [(0, .ref x), (1, .int p0)] := hl
  have hx := C.1
  have hb := C.2.1
  refine lv_aload_n hx hb dX9_ears_0 rfl (lv_at hl 0 rfl) ?_
  refine g_get C hH mx fx iX9 rfl 1 (by decide) wd18 rfl rfl dX9_ears_1 ?_
  refine lv_iload_n hx hb dX9_ears_4 rfl (lv_at hl 1 rfl) ?_
  refine g_Vi C hl.1 hA hH (As := [.int p0]) (rest := []) (k_hasCell l E L f mn fn p0) my_X3_hasCell wd35 mn fn rfl rfl rfl (Nat.le_of_ble_eq_true rfl) ⟨Nat.le_of_ble_eq_true rfl, Nat.le_of_ble_eq_true rfl⟩ ⟨Nat.le_of_ble_eq_true rfl, Nat.le_of_ble_eq_true rfl⟩ dX9_ears_5 (fun r3 L2 f1 H locs hp hH => ?_)
  obtain ⟨er3, rfl, rfl⟩ := hp
  subst er3
  refine lv_if_ne (tgt := 14) hx hb dX9_ears_8 (by decide) (fun h => absurd (by decide) h) (fun _ => ?_)
  refine lv_bipush (v := (-2 : Int32)) hx hb dX9_ears_11 (by decide) ?_
  refine g_iret C hr hH (Nat.le_of_ble_eq_true rfl) (Nat.le_of_ble_eq_true rfl) dX9_ears_13 ?_
  exact ⟨rfl, rfl, rfl⟩
set_option maxHeartbeats 4000000 in
set_option maxRecDepth 100000 in
theorem k_loud (l : Launch) (E : gE) (L : List Nat) (f : gF) {x xt xn xr xi xw xs xl xc xh xf xm : Nat} (mx : x ∈ L) (fx : f x = .inr (9, [.ref xt, .ref xn, .ref xr, .ref xi, .ref xw, .ref xs, .ref xl, .ref xc, .ref xh, .ref xf, .ref xm])) {na : Nat → Nat} (mn : xn ∈ L) (fn : f xn = .inr (3, [.int (0 : Int32), .int (0 : Int32), .int (0 : Int32), .int (0 : Int32), .int (0 : Int32), .int (0 : Int32), .int (0 : Int32), .int (0 : Int32), .int (0 : Int32), .int (0 : Int32), .ref (na 0), .ref (na 1), .ref (na 2), .ref (na 3), .ref (na 4), .ref (na 5), .ref (na 6), .ref (na 7), .ref (na 8), .ref (na 9)])) : gMi l E yX9_loud cX9_loud 3 .int (gRm 5 0 0) [.ref x] L f (gRO (-2 : Int32) L f) := by
  refine gMi.intro (by decide) (Nat.le_of_ble_eq_true rfl) ?_
  intro p e s m below meth c A ls C hr hA hH hl
  have C : gC E cX9_loud 3 RX9 p s m _ meth c := C
  have hl : lv_has ls 3 [(0, .ref x)] := hl
  have hx := C.1
  have hb := C.2.1
  refine lv_aload_n hx hb dX9_loud_0 rfl (lv_at hl 0 rfl) ?_
  refine g_get C hH mx fx iX9 rfl 1 (by decide) wd18 rfl rfl dX9_loud_1 ?_
  refine g_Vi C hl.1 hA hH (As := []) (rest := []) (k_isNone l E L f mn fn) my_X3_isNone wd19 mn fn rfl rfl rfl (Nat.le_of_ble_eq_true rfl) ⟨Nat.le_of_ble_eq_true rfl, Nat.le_of_ble_eq_true rfl⟩ ⟨Nat.le_of_ble_eq_true rfl, Nat.le_of_ble_eq_true rfl⟩ dX9_loud_4 (fun r3 L2 f1 H locs hp hH => ?_)
  obtain ⟨er3, rfl, rfl⟩ := hp
  subst er3
  refine lv_if_eq (tgt := 13) hx hb dX9_loud_7 (by decide) (fun h => absurd h (by decide)) (fun _ => ?_)
  refine lv_bipush (v := (-2 : Int32)) hx hb dX9_loud_10 (by decide) ?_
  refine g_iret C hr hH (Nat.le_of_ble_eq_true rfl) (Nat.le_of_ble_eq_true rfl) dX9_loud_12 ?_
  exact ⟨rfl, rfl, rfl⟩
set_option maxHeartbeats 4000000 in
set_option maxRecDepth 100000 in
theorem k_quiet (l : Launch) (E : gE) (L : List Nat) (f : gF) {x xt xn xr xi xw xs xl xc xh xf xm : Nat} (mx : x ∈ L) (fx : f x = .inr (9, [.ref xt, .ref xn, .ref xr, .ref xi, .ref xw, .ref xs, .ref xl, .ref xc, .ref xh, .ref xf, .ref xm])) {na : Nat → Nat} (mn : xn ∈ L) (fn : f xn = .inr (3, [.int (0 : Int32), .int (0 : Int32), .int (0 : Int32), .int (0 : Int32), .int (0 : Int32), .int (0 : Int32), .int (0 : Int32), .int (0 : Int32), .int (0 : Int32), .int (0 : Int32), .ref (na 0), .ref (na 1), .ref (na 2), .ref (na 3), .ref (na 4), .ref (na 5), .ref (na 6), .ref (na 7), .ref (na 8), .ref (na 9)])) : gMi l E yX9_quiet cX9_quiet 3 .int (gRm 5 0 0) [.ref x] L f (gRO (-2 : Int32) L f) := by
  refine gMi.intro (by decide) (Nat.le_of_ble_eq_true rfl) ?_
  intro p e s m below meth c A ls C hr hA hH hl
  have C : gC E cX9_quiet 3 RX9 p s m _ meth c := C
  have hl : lv_has ls 3 [(0, .ref x)] := hl
  have hx := C.1
  have hb := C.2.1
  refine lv_aload_n hx hb dX9_quiet_0 rfl (lv_at hl 0 rfl) ?_
  refine g_get C hH mx fx iX9 rfl 1 (by decide) wd18 rfl rfl dX9_quiet_1 ?_
  refine g_Vi C hl.1 hA hH (As := []) (rest := []) (k_isNone l E L f mn fn) my_X3_isNone wd19 mn fn rfl rfl rfl (Nat.le_of_ble_eq_true rfl) ⟨Nat.le_of_ble_eq_true rfl, Nat.le_of_ble_eq_true rfl⟩ ⟨Nat.le_of_ble_eq_true rfl, Nat.le_of_ble_eq_true rfl⟩ dX9_quiet_4 (fun r3 L2 f1 H locs hp hH => ?_)
  obtain ⟨er3, rfl, rfl⟩ := hp
  subst er3
  refine lv_if_eq (tgt := 13) hx hb dX9_quiet_7 (by decide) (fun h => absurd h (by decide)) (fun _ => ?_)
  refine lv_bipush (v := (-2 : Int32)) hx hb dX9_quiet_10 (by decide) ?_
  refine g_iret C hr hH (Nat.le_of_ble_eq_true rfl) (Nat.le_of_ble_eq_true rfl) dX9_quiet_12 ?_
  exact ⟨rfl, rfl, rfl⟩
set_option maxHeartbeats 4000000 in
set_option maxRecDepth 100000 in
theorem k_served (l : Launch) (E : gE) (L : List Nat) (f : gF) {x xt xn xr xi xw xs xl xc xh xf xm : Nat} (mx : x ∈ L) (fx : f x = .inr (9, [.ref xt, .ref xn, .ref xr, .ref xi, .ref xw, .ref xs, .ref xl, .ref xc, .ref xh, .ref xf, .ref xm])) {na : Nat → Nat} (mn : xn ∈ L) (fn : f xn = .inr (3, [.int (0 : Int32), .int (0 : Int32), .int (0 : Int32), .int (0 : Int32), .int (0 : Int32), .int (0 : Int32), .int (0 : Int32), .int (0 : Int32), .int (0 : Int32), .int (0 : Int32), .ref (na 0), .ref (na 1), .ref (na 2), .ref (na 3), .ref (na 4), .ref (na 5), .ref (na 6), .ref (na 7), .ref (na 8), .ref (na 9)])) : gMi l E yX9_served cX9_served 1 .int (gRm 5 0 0) [.ref x] L f (gRO (-2 : Int32) L f) := by
  refine gMi.intro (by decide) (Nat.le_of_ble_eq_true rfl) ?_
  intro p e s m below meth c A ls C hr hA hH hl
  have C : gC E cX9_served 1 RX9 p s m _ meth c := C
  have hl : lv_has ls 1 [(0, .ref x)] := hl
  have hx := C.1
  have hb := C.2.1
  refine lv_aload_n hx hb dX9_served_0 rfl (lv_at hl 0 rfl) ?_
  refine g_get C hH mx fx iX9 rfl 1 (by decide) wd18 rfl rfl dX9_served_1 ?_
  refine g_Vi C hl.1 hA hH (As := []) (rest := []) (k_isNone l E L f mn fn) my_X3_isNone wd19 mn fn rfl rfl rfl (Nat.le_of_ble_eq_true rfl) ⟨Nat.le_of_ble_eq_true rfl, Nat.le_of_ble_eq_true rfl⟩ ⟨Nat.le_of_ble_eq_true rfl, Nat.le_of_ble_eq_true rfl⟩ dX9_served_4 (fun r3 L2 f1 H locs hp hH => ?_)
  obtain ⟨er3, rfl, rfl⟩ := hp
  subst er3
  refine lv_if_eq (tgt := 15) hx hb dX9_served_7 (by decide) (fun h => absurd h (by decide)) (fun _ => ?_)
  refine lv_bipush (v := (-2 : Int32)) hx hb dX9_served_10 (by decide) ?_
  refine lv_goto (tgt := 33) hx hb dX9_served_12 (by decide) ?_
  refine g_iret C hr hH (Nat.le_of_ble_eq_true rfl) (Nat.le_of_ble_eq_true rfl) dX9_served_33 ?_
  exact ⟨rfl, rfl, rfl⟩
set_option maxHeartbeats 4000000 in
set_option maxRecDepth 100000 in
theorem k_income (l : Launch) (E : gE) (L : List Nat) (f : gF) {x xt xn xr xi xw xs xl xc xh xf xm : Nat} (mx : x ∈ L) (fx : f x = .inr (9, [.ref xt, .ref xn, .ref xr, .ref xi, .ref xw, .ref xs, .ref xl, .ref xc, .ref xh, .ref xf, .ref xm])) {na : Nat → Nat} (mn : xn ∈ L) (fn : f xn = .inr (3, [.int (0 : Int32), .int (0 : Int32), .int (0 : Int32), .int (0 : Int32), .int (0 : Int32), .int (0 : Int32), .int (0 : Int32), .int (0 : Int32), .int (0 : Int32), .int (0 : Int32), .ref (na 0), .ref (na 1), .ref (na 2), .ref (na 3), .ref (na 4), .ref (na 5), .ref (na 6), .ref (na 7), .ref (na 8), .ref (na 9)])) : gMi l E yX9_income cX9_income 1 .int (gRm 5 0 0) [.ref x] L f (gRO (-2 : Int32) L f) := by
  refine gMi.intro (by decide) (Nat.le_of_ble_eq_true rfl) ?_
  intro p e s m below meth c A ls C hr hA hH hl
  have C : gC E cX9_income 1 RX9 p s m _ meth c := C
  have hl : lv_has ls 1 [(0, .ref x)] := hl
  have hx := C.1
  have hb := C.2.1
  refine lv_aload_n hx hb dX9_income_0 rfl (lv_at hl 0 rfl) ?_
  refine g_get C hH mx fx iX9 rfl 1 (by decide) wd18 rfl rfl dX9_income_1 ?_
  refine g_Vi C hl.1 hA hH (As := []) (rest := []) (k_isNone l E L f mn fn) my_X3_isNone wd19 mn fn rfl rfl rfl (Nat.le_of_ble_eq_true rfl) ⟨Nat.le_of_ble_eq_true rfl, Nat.le_of_ble_eq_true rfl⟩ ⟨Nat.le_of_ble_eq_true rfl, Nat.le_of_ble_eq_true rfl⟩ dX9_income_4 (fun r3 L2 f1 H locs hp hH => ?_)
  obtain ⟨er3, rfl, rfl⟩ := hp
  subst er3
  refine lv_if_eq (tgt := 15) hx hb dX9_income_7 (by decide) (fun h => absurd h (by decide)) (fun _ => ?_)
  refine lv_bipush (v := (-2 : Int32)) hx hb dX9_income_10 (by decide) ?_
  refine lv_goto (tgt := 33) hx hb dX9_income_12 (by decide) ?_
  refine g_iret C hr hH (Nat.le_of_ble_eq_true rfl) (Nat.le_of_ble_eq_true rfl) dX9_income_33 ?_
  exact ⟨rfl, rfl, rfl⟩
set_option maxHeartbeats 4000000 in
set_option maxRecDepth 100000 in
theorem k_unpaid (l : Launch) (E : gE) (L : List Nat) (f : gF) {x xt xn xr xi xw xs xl xc xh xf xm : Nat} (mx : x ∈ L) (fx : f x = .inr (9, [.ref xt, .ref xn, .ref xr, .ref xi, .ref xw, .ref xs, .ref xl, .ref xc, .ref xh, .ref xf, .ref xm])) {na : Nat → Nat} (mn : xn ∈ L) (fn : f xn = .inr (3, [.int (0 : Int32), .int (0 : Int32), .int (0 : Int32), .int (0 : Int32), .int (0 : Int32), .int (0 : Int32), .int (0 : Int32), .int (0 : Int32), .int (0 : Int32), .int (0 : Int32), .ref (na 0), .ref (na 1), .ref (na 2), .ref (na 3), .ref (na 4), .ref (na 5), .ref (na 6), .ref (na 7), .ref (na 8), .ref (na 9)])) : gMi l E yX9_unpaid cX9_unpaid 1 .int (gRm 5 0 0) [.ref x] L f (gRO (-2 : Int32) L f) := by
  refine gMi.intro (by decide) (Nat.le_of_ble_eq_true rfl) ?_
  intro p e s m below meth c A ls C hr hA hH hl
  have C : gC E cX9_unpaid 1 RX9 p s m _ meth c := C
  have hl : lv_has ls 1 [(0, .ref x)] := hl
  have hx := C.1
  have hb := C.2.1
  refine lv_aload_n hx hb dX9_unpaid_0 rfl (lv_at hl 0 rfl) ?_
  refine g_get C hH mx fx iX9 rfl 1 (by decide) wd18 rfl rfl dX9_unpaid_1 ?_
  refine g_Vi C hl.1 hA hH (As := []) (rest := []) (k_isNone l E L f mn fn) my_X3_isNone wd19 mn fn rfl rfl rfl (Nat.le_of_ble_eq_true rfl) ⟨Nat.le_of_ble_eq_true rfl, Nat.le_of_ble_eq_true rfl⟩ ⟨Nat.le_of_ble_eq_true rfl, Nat.le_of_ble_eq_true rfl⟩ dX9_unpaid_4 (fun r3 L2 f1 H locs hp hH => ?_)
  obtain ⟨er3, rfl, rfl⟩ := hp
  subst er3
  refine lv_if_eq (tgt := 15) hx hb dX9_unpaid_7 (by decide) (fun h => absurd h (by decide)) (fun _ => ?_)
  refine lv_bipush (v := (-2 : Int32)) hx hb dX9_unpaid_10 (by decide) ?_
  refine lv_goto (tgt := 19) hx hb dX9_unpaid_12 (by decide) ?_
  refine g_iret C hr hH (Nat.le_of_ble_eq_true rfl) (Nat.le_of_ble_eq_true rfl) dX9_unpaid_19 ?_
  exact ⟨rfl, rfl, rfl⟩
set_option maxHeartbeats 4000000 in
set_option maxRecDepth 100000 in
theorem k_first (l : Launch) (E : gE) (L : List Nat) (f : gF) {x xt xn xr xi xw xs xl xc xh xf xm : Nat} (mx : x ∈ L) (fx : f x = .inr (9, [.ref xt, .ref xn, .ref xr, .ref xi, .ref xw, .ref xs, .ref xl, .ref xc, .ref xh, .ref xf, .ref xm])) {na : Nat → Nat} (mn : xn ∈ L) (fn : f xn = .inr (3, [.int (0 : Int32), .int (0 : Int32), .int (0 : Int32), .int (0 : Int32), .int (0 : Int32), .int (0 : Int32), .int (0 : Int32), .int (0 : Int32), .int (0 : Int32), .int (0 : Int32), .ref (na 0), .ref (na 1), .ref (na 2), .ref (na 3), .ref (na 4), .ref (na 5), .ref (na 6), .ref (na 7), .ref (na 8), .ref (na 9)])) : gMi l E yX9_first cX9_first 5 .int (gRm 5 0 0) [.ref x] L f (gRO (-2 : Int32) L f) := by
  refine gMi.intro (by decide) (Nat.le_of_ble_eq_true rfl) ?_
  intro p e s m below meth c A ls C hr hA hH hl
  have C : gC E cX9_first 5 RX9 p s m _ meth c := C
  have hl : lv_has ls 5 [(0, .ref x)] := hl
  have hx := C.1
  have hb := C.2.1
  refine lv_aload_n hx hb dX9_first_0 rfl (lv_at hl 0 rfl) ?_
  refine g_get C hH mx fx iX9 rfl 1 (by decide) wd18 rfl rfl dX9_first_1 ?_
  refine g_Vi C hl.1 hA hH (As := []) (rest := []) (k_isNone l E L f mn fn) my_X3_isNone wd19 mn fn rfl rfl rfl (Nat.le_of_ble_eq_true rfl) ⟨Nat.le_of_ble_eq_true rfl, Nat.le_of_ble_eq_true rfl⟩ ⟨Nat.le_of_ble_eq_true rfl, Nat.le_of_ble_eq_true rfl⟩ dX9_first_4 (fun r3 L2 f1 H locs hp hH => ?_)
  obtain ⟨er3, rfl, rfl⟩ := hp
  subst er3
  refine lv_if_eq (tgt := 13) hx hb dX9_first_7 (by decide) (fun h => absurd h (by decide)) (fun _ => ?_)
  refine lv_bipush (v := (-2 : Int32)) hx hb dX9_first_10 (by decide) ?_
  refine g_iret C hr hH (Nat.le_of_ble_eq_true rfl) (Nat.le_of_ble_eq_true rfl) dX9_first_12 ?_
  exact ⟨rfl, rfl, rfl⟩
set_option maxHeartbeats 4000000 in
set_option maxRecDepth 100000 in
theorem k_lacks (l : Launch) (E : gE) (L : List Nat) (f : gF) {x xt xn xr xi xw xs xl xc xh xf xm : Nat} (mx : x ∈ L) (fx : f x = .inr (9, [.ref xt, .ref xn, .ref xr, .ref xi, .ref xw, .ref xs, .ref xl, .ref xc, .ref xh, .ref xf, .ref xm])) {na : Nat → Nat} (mn : xn ∈ L) (fn : f xn = .inr (3, [.int (0 : Int32), .int (0 : Int32), .int (0 : Int32), .int (0 : Int32), .int (0 : Int32), .int (0 : Int32), .int (0 : Int32), .int (0 : Int32), .int (0 : Int32), .int (0 : Int32), .ref (na 0), .ref (na 1), .ref (na 2), .ref (na 3), .ref (na 4), .ref (na 5), .ref (na 6), .ref (na 7), .ref (na 8), .ref (na 9)])) : gMi l E yX9_lacks cX9_lacks 5 .int (gRm 5 0 0) [.ref x] L f (gRO (-2 : Int32) L f) := by
  refine gMi.intro (by decide) (Nat.le_of_ble_eq_true rfl) ?_
  intro p e s m below meth c A ls C hr hA hH hl
  have C : gC E cX9_lacks 5 RX9 p s m _ meth c := C
  have hl : lv_has ls 5 [(0, .ref x)] := hl
  have hx := C.1
  have hb := C.2.1
  refine lv_aload_n hx hb dX9_lacks_0 rfl (lv_at hl 0 rfl) ?_
  refine g_get C hH mx fx iX9 rfl 1 (by decide) wd18 rfl rfl dX9_lacks_1 ?_
  refine g_Vi C hl.1 hA hH (As := []) (rest := []) (k_isNone l E L f mn fn) my_X3_isNone wd19 mn fn rfl rfl rfl (Nat.le_of_ble_eq_true rfl) ⟨Nat.le_of_ble_eq_true rfl, Nat.le_of_ble_eq_true rfl⟩ ⟨Nat.le_of_ble_eq_true rfl, Nat.le_of_ble_eq_true rfl⟩ dX9_lacks_4 (fun r3 L2 f1 H locs hp hH => ?_)
  obtain ⟨er3, rfl, rfl⟩ := hp
  subst er3
  refine lv_if_eq (tgt := 13) hx hb dX9_lacks_7 (by decide) (fun h => absurd h (by decide)) (fun _ => ?_)
  refine lv_bipush (v := (-2 : Int32)) hx hb dX9_lacks_10 (by decide) ?_
  refine g_iret C hr hH (Nat.le_of_ble_eq_true rfl) (Nat.le_of_ble_eq_true rfl) dX9_lacks_12 ?_
  exact ⟨rfl, rfl, rfl⟩
set_option maxHeartbeats 4000000 in
set_option maxRecDepth 100000 in
theorem k_near (l : Launch) (E : gE) (L : List Nat) (f : gF) {x xt xn xr xi xw xs xl xc xh xf xm : Nat} (mx : x ∈ L) (fx : f x = .inr (9, [.ref xt, .ref xn, .ref xr, .ref xi, .ref xw, .ref xs, .ref xl, .ref xc, .ref xh, .ref xf, .ref xm])) {na : Nat → Nat} (mn : xn ∈ L) (fn : f xn = .inr (3, [.int (0 : Int32), .int (0 : Int32), .int (0 : Int32), .int (0 : Int32), .int (0 : Int32), .int (0 : Int32), .int (0 : Int32), .int (0 : Int32), .int (0 : Int32), .int (0 : Int32), .ref (na 0), .ref (na 1), .ref (na 2), .ref (na 3), .ref (na 4), .ref (na 5), .ref (na 6), .ref (na 7), .ref (na 8), .ref (na 9)])) (p0 : Int32) : gMi l E yX9_near cX9_near 2 .int (gRm 5 0 0) [.ref x, .int p0] L f (gRO (-2 : Int32) L f) := by
  refine gMi.intro (by decide) (Nat.le_of_ble_eq_true rfl) ?_
  intro p e s m below meth c A ls C hr hA hH hl
  have C : gC E cX9_near 2 RX9 p s m _ meth c := C
  have hl : lv_has ls 2 [(0, .ref x), (1, .int p0)] := hl
  have hx := C.1
  have hb := C.2.1
  refine lv_aload_n hx hb dX9_near_0 rfl (lv_at hl 0 rfl) ?_
  refine g_get C hH mx fx iX9 rfl 1 (by decide) wd18 rfl rfl dX9_near_1 ?_
  refine lv_iload_n hx hb dX9_near_4 rfl (lv_at hl 1 rfl) ?_
  refine g_Vi C hl.1 hA hH (As := [.int p0]) (rest := []) (k_hasMember l E L f mn fn p0) my_X3_hasMember wd27 mn fn rfl rfl rfl (Nat.le_of_ble_eq_true rfl) ⟨Nat.le_of_ble_eq_true rfl, Nat.le_of_ble_eq_true rfl⟩ ⟨Nat.le_of_ble_eq_true rfl, Nat.le_of_ble_eq_true rfl⟩ dX9_near_5 (fun r3 L2 f1 H locs hp hH => ?_)
  obtain ⟨er3, rfl, rfl⟩ := hp
  subst er3
  refine lv_if_ne (tgt := 14) hx hb dX9_near_8 (by decide) (fun h => absurd (by decide) h) (fun _ => ?_)
  refine lv_bipush (v := (-2 : Int32)) hx hb dX9_near_11 (by decide) ?_
  refine g_iret C hr hH (Nat.le_of_ble_eq_true rfl) (Nat.le_of_ble_eq_true rfl) dX9_near_13 ?_
  exact ⟨rfl, rfl, rfl⟩
set_option maxHeartbeats 4000000 in
set_option maxRecDepth 100000 in
theorem k_lone (l : Launch) (E : gE) (L : List Nat) (f : gF) {x xt xn xr xi xw xs xl xc xh xf xm : Nat} (mx : x ∈ L) (fx : f x = .inr (9, [.ref xt, .ref xn, .ref xr, .ref xi, .ref xw, .ref xs, .ref xl, .ref xc, .ref xh, .ref xf, .ref xm])) {na : Nat → Nat} (mn : xn ∈ L) (fn : f xn = .inr (3, [.int (0 : Int32), .int (0 : Int32), .int (0 : Int32), .int (0 : Int32), .int (0 : Int32), .int (0 : Int32), .int (0 : Int32), .int (0 : Int32), .int (0 : Int32), .int (0 : Int32), .ref (na 0), .ref (na 1), .ref (na 2), .ref (na 3), .ref (na 4), .ref (na 5), .ref (na 6), .ref (na 7), .ref (na 8), .ref (na 9)])) : gMi l E yX9_lone cX9_lone 1 .int (gRm 5 0 0) [.ref x] L f (gRO (-2 : Int32) L f) := by
  refine gMi.intro (by decide) (Nat.le_of_ble_eq_true rfl) ?_
  intro p e s m below meth c A ls C hr hA hH hl
  have C : gC E cX9_lone 1 RX9 p s m _ meth c := C
  have hl : lv_has ls 1 [(0, .ref x)] := hl
  have hx := C.1
  have hb := C.2.1
  refine lv_aload_n hx hb dX9_lone_0 rfl (lv_at hl 0 rfl) ?_
  refine g_get C hH mx fx iX9 rfl 1 (by decide) wd18 rfl rfl dX9_lone_1 ?_
  refine g_Vi C hl.1 hA hH (As := []) (rest := []) (k_isNone l E L f mn fn) my_X3_isNone wd19 mn fn rfl rfl rfl (Nat.le_of_ble_eq_true rfl) ⟨Nat.le_of_ble_eq_true rfl, Nat.le_of_ble_eq_true rfl⟩ ⟨Nat.le_of_ble_eq_true rfl, Nat.le_of_ble_eq_true rfl⟩ dX9_lone_4 (fun r3 L2 f1 H locs hp hH => ?_)
  obtain ⟨er3, rfl, rfl⟩ := hp
  subst er3
  refine lv_if_eq (tgt := 13) hx hb dX9_lone_7 (by decide) (fun h => absurd h (by decide)) (fun _ => ?_)
  refine lv_bipush (v := (-2 : Int32)) hx hb dX9_lone_10 (by decide) ?_
  refine g_iret C hr hH (Nat.le_of_ble_eq_true rfl) (Nat.le_of_ble_eq_true rfl) dX9_lone_12 ?_
  exact ⟨rfl, rfl, rfl⟩
set_option maxHeartbeats 4000000 in
set_option maxRecDepth 100000 in
theorem k_meets (l : Launch) (E : gE) (L : List Nat) (f : gF) {x xt xn xr xi xw xs xl xc xh xf xm : Nat} (mx : x ∈ L) (fx : f x = .inr (9, [.ref xt, .ref xn, .ref xr, .ref xi, .ref xw, .ref xs, .ref xl, .ref xc, .ref xh, .ref xf, .ref xm])) {na : Nat → Nat} (mn : xn ∈ L) (fn : f xn = .inr (3, [.int (0 : Int32), .int (0 : Int32), .int (0 : Int32), .int (0 : Int32), .int (0 : Int32), .int (0 : Int32), .int (0 : Int32), .int (0 : Int32), .int (0 : Int32), .int (0 : Int32), .ref (na 0), .ref (na 1), .ref (na 2), .ref (na 3), .ref (na 4), .ref (na 5), .ref (na 6), .ref (na 7), .ref (na 8), .ref (na 9)])) (p0 p1 : Int32) : gMi l E yX9_meets cX9_meets 3 .int (gRm 5 0 0) [.ref x, .int p0, .int p1] L f (gRO (-2 : Int32) L f) := by
  refine gMi.intro (by decide) (Nat.le_of_ble_eq_true rfl) ?_
  intro p e s m below meth c A ls C hr hA hH hl
  have C : gC E cX9_meets 3 RX9 p s m _ meth c := C
  have hl : lv_has ls 3 [(0, .ref x), (1, .int p0), (2, .int p1)] := hl
  have hx := C.1
  have hb := C.2.1
  refine lv_aload_n hx hb dX9_meets_0 rfl (lv_at hl 0 rfl) ?_
  refine g_get C hH mx fx iX9 rfl 1 (by decide) wd18 rfl rfl dX9_meets_1 ?_
  refine lv_iload_n hx hb dX9_meets_4 rfl (lv_at hl 1 rfl) ?_
  refine g_Vi C hl.1 hA hH (As := [.int p0]) (rest := []) (k_hasFlight l E L f mn fn p0) my_X3_hasFlight wd31 mn fn rfl rfl rfl (Nat.le_of_ble_eq_true rfl) ⟨Nat.le_of_ble_eq_true rfl, Nat.le_of_ble_eq_true rfl⟩ ⟨Nat.le_of_ble_eq_true rfl, Nat.le_of_ble_eq_true rfl⟩ dX9_meets_5 (fun r3 L2 f1 H locs hp hH => ?_)
  obtain ⟨er3, rfl, rfl⟩ := hp
  subst er3
  refine lv_if_eq (tgt := 22) hx hb dX9_meets_8 (by decide) (fun _ => ?_) (fun h => absurd (by decide) h)
  refine lv_bipush (v := (-2 : Int32)) hx hb dX9_meets_22 (by decide) ?_
  refine g_iret C hr hH (Nat.le_of_ble_eq_true rfl) (Nat.le_of_ble_eq_true rfl) dX9_meets_24 ?_
  exact ⟨rfl, rfl, rfl⟩
set_option maxHeartbeats 4000000 in
set_option maxRecDepth 100000 in
theorem k_spare (l : Launch) (E : gE) (L : List Nat) (f : gF) {x xt xn xr xi xw xs xl xc xh xf xm : Nat} (mx : x ∈ L) (fx : f x = .inr (9, [.ref xt, .ref xn, .ref xr, .ref xi, .ref xw, .ref xs, .ref xl, .ref xc, .ref xh, .ref xf, .ref xm])) {na : Nat → Nat} (mn : xn ∈ L) (fn : f xn = .inr (3, [.int (0 : Int32), .int (0 : Int32), .int (0 : Int32), .int (0 : Int32), .int (0 : Int32), .int (0 : Int32), .int (0 : Int32), .int (0 : Int32), .int (0 : Int32), .int (0 : Int32), .ref (na 0), .ref (na 1), .ref (na 2), .ref (na 3), .ref (na 4), .ref (na 5), .ref (na 6), .ref (na 7), .ref (na 8), .ref (na 9)])) : gMi l E yX9_spare cX9_spare 4 .int (gRm 5 0 0) [.ref x] L f (gRO (-2 : Int32) L f) := by
  refine gMi.intro (by decide) (Nat.le_of_ble_eq_true rfl) ?_
  intro p e s m below meth c A ls C hr hA hH hl
  have C : gC E cX9_spare 4 RX9 p s m _ meth c := C
  have hl : lv_has ls 4 [(0, .ref x)] := hl
  have hx := C.1
  have hb := C.2.1
  refine lv_aload_n hx hb dX9_spare_0 rfl (lv_at hl 0 rfl) ?_
  refine g_get C hH mx fx iX9 rfl 1 (by decide) wd18 rfl rfl dX9_spare_1 ?_
  refine g_Vi C hl.1 hA hH (As := []) (rest := []) (k_isNone l E L f mn fn) my_X3_isNone wd19 mn fn rfl rfl rfl (Nat.le_of_ble_eq_true rfl) ⟨Nat.le_of_ble_eq_true rfl, Nat.le_of_ble_eq_true rfl⟩ ⟨Nat.le_of_ble_eq_true rfl, Nat.le_of_ble_eq_true rfl⟩ dX9_spare_4 (fun r3 L2 f1 H locs hp hH => ?_)
  obtain ⟨er3, rfl, rfl⟩ := hp
  subst er3
  refine lv_if_eq (tgt := 13) hx hb dX9_spare_7 (by decide) (fun h => absurd h (by decide)) (fun _ => ?_)
  refine lv_bipush (v := (-2 : Int32)) hx hb dX9_spare_10 (by decide) ?_
  refine g_iret C hr hH (Nat.le_of_ble_eq_true rfl) (Nat.le_of_ble_eq_true rfl) dX9_spare_12 ?_
  exact ⟨rfl, rfl, rfl⟩
set_option maxHeartbeats 4000000 in
set_option maxRecDepth 100000 in
theorem k_calls (l : Launch) (E : gE) (L : List Nat) (f : gF) {x xt xn xr xi xw xs xl xc xh xf xm : Nat} (mx : x ∈ L) (fx : f x = .inr (9, [.ref xt, .ref xn, .ref xr, .ref xi, .ref xw, .ref xs, .ref xl, .ref xc, .ref xh, .ref xf, .ref xm])) {na : Nat → Nat} (mn : xn ∈ L) (fn : f xn = .inr (3, [.int (0 : Int32), .int (0 : Int32), .int (0 : Int32), .int (0 : Int32), .int (0 : Int32), .int (0 : Int32), .int (0 : Int32), .int (0 : Int32), .int (0 : Int32), .int (0 : Int32), .ref (na 0), .ref (na 1), .ref (na 2), .ref (na 3), .ref (na 4), .ref (na 5), .ref (na 6), .ref (na 7), .ref (na 8), .ref (na 9)])) (p0 : Int32) : gMi l E yX9_calls cX9_calls 2 .int (gRm 5 0 0) [.ref x, .int p0] L f (gRO (-2 : Int32) L f) := by
  refine gMi.intro (by decide) (Nat.le_of_ble_eq_true rfl) ?_
  intro p e s m below meth c A ls C hr hA hH hl
  have C : gC E cX9_calls 2 RX9 p s m _ meth c := C
  have hl : lv_has ls 2 [(0, .ref x), (1, .int p0)] := hl
  have hx := C.1
  have hb := C.2.1
  refine lv_aload_n hx hb dX9_calls_0 rfl (lv_at hl 0 rfl) ?_
  refine g_get C hH mx fx iX9 rfl 1 (by decide) wd18 rfl rfl dX9_calls_1 ?_
  refine g_Vi C hl.1 hA hH (As := []) (rest := []) (k_isNone l E L f mn fn) my_X3_isNone wd19 mn fn rfl rfl rfl (Nat.le_of_ble_eq_true rfl) ⟨Nat.le_of_ble_eq_true rfl, Nat.le_of_ble_eq_true rfl⟩ ⟨Nat.le_of_ble_eq_true rfl, Nat.le_of_ble_eq_true rfl⟩ dX9_calls_4 (fun r3 L2 f1 H locs hp hH => ?_)
  obtain ⟨er3, rfl, rfl⟩ := hp
  subst er3
  refine lv_if_ne (tgt := 17) hx hb dX9_calls_7 (by decide) (fun _ => ?_) (fun h => absurd h (by decide))
  refine lv_bipush (v := (-2 : Int32)) hx hb dX9_calls_17 (by decide) ?_
  refine g_iret C hr hH (Nat.le_of_ble_eq_true rfl) (Nat.le_of_ble_eq_true rfl) dX9_calls_19 ?_
  exact ⟨rfl, rfl, rfl⟩
set_option maxHeartbeats 4000000 in
set_option maxRecDepth 100000 in
theorem k_farthest (l : Launch) (E : gE) (L : List Nat) (f : gF) {x xt xn xr xi xw xs xl xc xh xf xm : Nat} (mx : x ∈ L) (fx : f x = .inr (9, [.ref xt, .ref xn, .ref xr, .ref xi, .ref xw, .ref xs, .ref xl, .ref xc, .ref xh, .ref xf, .ref xm])) {na : Nat → Nat} (mn : xn ∈ L) (fn : f xn = .inr (3, [.int (0 : Int32), .int (0 : Int32), .int (0 : Int32), .int (0 : Int32), .int (0 : Int32), .int (0 : Int32), .int (0 : Int32), .int (0 : Int32), .int (0 : Int32), .int (0 : Int32), .ref (na 0), .ref (na 1), .ref (na 2), .ref (na 3), .ref (na 4), .ref (na 5), .ref (na 6), .ref (na 7), .ref (na 8), .ref (na 9)])) (p0 : Int32) : gMi l E yX9_farthest cX9_farthest 6 .int (gRm 5 0 0) [.ref x, .int p0] L f (gRO (-2 : Int32) L f) := by
  refine gMi.intro (by decide) (Nat.le_of_ble_eq_true rfl) ?_
  intro p e s m below meth c A ls C hr hA hH hl
  have C : gC E cX9_farthest 6 RX9 p s m _ meth c := C
  have hl : lv_has ls 6 [(0, .ref x), (1, .int p0)] := hl
  have hx := C.1
  have hb := C.2.1
  refine lv_aload_n hx hb dX9_farthest_0 rfl (lv_at hl 0 rfl) ?_
  refine g_get C hH mx fx iX9 rfl 1 (by decide) wd18 rfl rfl dX9_farthest_1 ?_
  refine lv_iload_n hx hb dX9_farthest_4 rfl (lv_at hl 1 rfl) ?_
  refine g_Vi C hl.1 hA hH (As := [.int p0]) (rest := []) (k_hasFlight l E L f mn fn p0) my_X3_hasFlight wd31 mn fn rfl rfl rfl (Nat.le_of_ble_eq_true rfl) ⟨Nat.le_of_ble_eq_true rfl, Nat.le_of_ble_eq_true rfl⟩ ⟨Nat.le_of_ble_eq_true rfl, Nat.le_of_ble_eq_true rfl⟩ dX9_farthest_5 (fun r3 L2 f1 H locs hp hH => ?_)
  obtain ⟨er3, rfl, rfl⟩ := hp
  subst er3
  refine lv_if_ne (tgt := 14) hx hb dX9_farthest_8 (by decide) (fun h => absurd (by decide) h) (fun _ => ?_)
  refine lv_bipush (v := (-2 : Int32)) hx hb dX9_farthest_11 (by decide) ?_
  refine g_iret C hr hH (Nat.le_of_ble_eq_true rfl) (Nat.le_of_ble_eq_true rfl) dX9_farthest_13 ?_
  exact ⟨rfl, rfl, rfl⟩
set_option maxHeartbeats 4000000 in
set_option maxRecDepth 100000 in
theorem k_fewest (l : Launch) (E : gE) (L : List Nat) (f : gF) {x xt xn xr xi xw xs xl xc xh xf xm : Nat} (mx : x ∈ L) (fx : f x = .inr (9, [.ref xt, .ref xn, .ref xr, .ref xi, .ref xw, .ref xs, .ref xl, .ref xc, .ref xh, .ref xf, .ref xm])) {na : Nat → Nat} (mn : xn ∈ L) (fn : f xn = .inr (3, [.int (0 : Int32), .int (0 : Int32), .int (0 : Int32), .int (0 : Int32), .int (0 : Int32), .int (0 : Int32), .int (0 : Int32), .int (0 : Int32), .int (0 : Int32), .int (0 : Int32), .ref (na 0), .ref (na 1), .ref (na 2), .ref (na 3), .ref (na 4), .ref (na 5), .ref (na 6), .ref (na 7), .ref (na 8), .ref (na 9)])) (p0 : Int32) : gMi l E yX9_fewest cX9_fewest 3 .int (gRm 5 0 0) [.ref x, .int p0] L f (gRO (-2 : Int32) L f) := by
  refine gMi.intro (by decide) (Nat.le_of_ble_eq_true rfl) ?_
  intro p e s m below meth c A ls C hr hA hH hl
  have C : gC E cX9_fewest 3 RX9 p s m _ meth c := C
  have hl : lv_has ls 3 [(0, .ref x), (1, .int p0)] := hl
  have hx := C.1
  have hb := C.2.1
  refine lv_aload_n hx hb dX9_fewest_0 rfl (lv_at hl 0 rfl) ?_
  refine g_get C hH mx fx iX9 rfl 1 (by decide) wd18 rfl rfl dX9_fewest_1 ?_
  refine lv_iload_n hx hb dX9_fewest_4 rfl (lv_at hl 1 rfl) ?_
  refine g_Vi C hl.1 hA hH (As := [.int p0]) (rest := []) (k_hasSet l E L f mn fn p0) my_X3_hasSet wd39 mn fn rfl rfl rfl (Nat.le_of_ble_eq_true rfl) ⟨Nat.le_of_ble_eq_true rfl, Nat.le_of_ble_eq_true rfl⟩ ⟨Nat.le_of_ble_eq_true rfl, Nat.le_of_ble_eq_true rfl⟩ dX9_fewest_5 (fun r3 L2 f1 H locs hp hH => ?_)
  obtain ⟨er3, rfl, rfl⟩ := hp
  subst er3
  refine lv_if_ne (tgt := 14) hx hb dX9_fewest_8 (by decide) (fun h => absurd (by decide) h) (fun _ => ?_)
  refine lv_bipush (v := (-2 : Int32)) hx hb dX9_fewest_11 (by decide) ?_
  refine g_iret C hr hH (Nat.le_of_ble_eq_true rfl) (Nat.le_of_ble_eq_true rfl) dX9_fewest_13 ?_
  exact ⟨rfl, rfl, rfl⟩
set_option maxHeartbeats 4000000 in
set_option maxRecDepth 100000 in
theorem k_lights (l : Launch) (E : gE) (L : List Nat) (f : gF) {x xt xn xr xi xw xs xl xc xh xf xm : Nat} (mx : x ∈ L) (fx : f x = .inr (9, [.ref xt, .ref xn, .ref xr, .ref xi, .ref xw, .ref xs, .ref xl, .ref xc, .ref xh, .ref xf, .ref xm])) {na : Nat → Nat} (mn : xn ∈ L) (fn : f xn = .inr (3, [.int (0 : Int32), .int (0 : Int32), .int (0 : Int32), .int (0 : Int32), .int (0 : Int32), .int (0 : Int32), .int (0 : Int32), .int (0 : Int32), .int (0 : Int32), .int (0 : Int32), .ref (na 0), .ref (na 1), .ref (na 2), .ref (na 3), .ref (na 4), .ref (na 5), .ref (na 6), .ref (na 7), .ref (na 8), .ref (na 9)])) (p0 : Int32) : gMi l E yX9_lights cX9_lights 3 .int (gRm 5 0 0) [.ref x, .int p0] L f (gRO (-2 : Int32) L f) := by
  refine gMi.intro (by decide) (Nat.le_of_ble_eq_true rfl) ?_
  intro p e s m below meth c A ls C hr hA hH hl
  have C : gC E cX9_lights 3 RX9 p s m _ meth c := C
  have hl : lv_has ls 3 [(0, .ref x), (1, .int p0)] := hl
  have hx := C.1
  have hb := C.2.1
  refine lv_aload_n hx hb dX9_lights_0 rfl (lv_at hl 0 rfl) ?_
  refine g_get C hH mx fx iX9 rfl 1 (by decide) wd18 rfl rfl dX9_lights_1 ?_
  refine lv_iload_n hx hb dX9_lights_4 rfl (lv_at hl 1 rfl) ?_
  refine g_Vi C hl.1 hA hH (As := [.int p0]) (rest := []) (k_hasSet l E L f mn fn p0) my_X3_hasSet wd39 mn fn rfl rfl rfl (Nat.le_of_ble_eq_true rfl) ⟨Nat.le_of_ble_eq_true rfl, Nat.le_of_ble_eq_true rfl⟩ ⟨Nat.le_of_ble_eq_true rfl, Nat.le_of_ble_eq_true rfl⟩ dX9_lights_5 (fun r3 L2 f1 H locs hp hH => ?_)
  obtain ⟨er3, rfl, rfl⟩ := hp
  subst er3
  refine lv_if_ne (tgt := 14) hx hb dX9_lights_8 (by decide) (fun h => absurd (by decide) h) (fun _ => ?_)
  refine lv_bipush (v := (-2 : Int32)) hx hb dX9_lights_11 (by decide) ?_
  refine g_iret C hr hH (Nat.le_of_ble_eq_true rfl) (Nat.le_of_ble_eq_true rfl) dX9_lights_13 ?_
  exact ⟨rfl, rfl, rfl⟩
set_option maxHeartbeats 4000000 in
set_option maxRecDepth 100000 in
theorem k_best (l : Launch) (E : gE) (L : List Nat) (f : gF) {x xt xn xr xi xw xs xl xc xh xf xm : Nat} (mx : x ∈ L) (fx : f x = .inr (9, [.ref xt, .ref xn, .ref xr, .ref xi, .ref xw, .ref xs, .ref xl, .ref xc, .ref xh, .ref xf, .ref xm])) {na : Nat → Nat} (mn : xn ∈ L) (fn : f xn = .inr (3, [.int (0 : Int32), .int (0 : Int32), .int (0 : Int32), .int (0 : Int32), .int (0 : Int32), .int (0 : Int32), .int (0 : Int32), .int (0 : Int32), .int (0 : Int32), .int (0 : Int32), .ref (na 0), .ref (na 1), .ref (na 2), .ref (na 3), .ref (na 4), .ref (na 5), .ref (na 6), .ref (na 7), .ref (na 8), .ref (na 9)])) (p0 : Int32) : gMi l E yX9_best cX9_best 2 .int (gRm 5 0 0) [.ref x, .int p0] L f (gRO (-2 : Int32) L f) := by
  refine gMi.intro (by decide) (Nat.le_of_ble_eq_true rfl) ?_
  intro p e s m below meth c A ls C hr hA hH hl
  have C : gC E cX9_best 2 RX9 p s m _ meth c := C
  have hl : lv_has ls 2 [(0, .ref x), (1, .int p0)] := hl
  have hx := C.1
  have hb := C.2.1
  refine lv_aload_n hx hb dX9_best_0 rfl (lv_at hl 0 rfl) ?_
  refine g_get C hH mx fx iX9 rfl 1 (by decide) wd18 rfl rfl dX9_best_1 ?_
  refine g_Vi C hl.1 hA hH (As := []) (rest := []) (k_isNone l E L f mn fn) my_X3_isNone wd19 mn fn rfl rfl rfl (Nat.le_of_ble_eq_true rfl) ⟨Nat.le_of_ble_eq_true rfl, Nat.le_of_ble_eq_true rfl⟩ ⟨Nat.le_of_ble_eq_true rfl, Nat.le_of_ble_eq_true rfl⟩ dX9_best_4 (fun r3 L2 f1 H locs hp hH => ?_)
  obtain ⟨er3, rfl, rfl⟩ := hp
  subst er3
  refine lv_if_ne (tgt := 17) hx hb dX9_best_7 (by decide) (fun _ => ?_) (fun h => absurd h (by decide))
  refine lv_bipush (v := (-2 : Int32)) hx hb dX9_best_17 (by decide) ?_
  refine g_iret C hr hH (Nat.le_of_ble_eq_true rfl) (Nat.le_of_ble_eq_true rfl) dX9_best_19 ?_
  exact ⟨rfl, rfl, rfl⟩
set_option maxHeartbeats 4000000 in
set_option maxRecDepth 100000 in
theorem k_bests (l : Launch) (E : gE) (L : List Nat) (f : gF) {x xt xn xr xi xw xs xl xc xh xf xm : Nat} (mx : x ∈ L) (fx : f x = .inr (9, [.ref xt, .ref xn, .ref xr, .ref xi, .ref xw, .ref xs, .ref xl, .ref xc, .ref xh, .ref xf, .ref xm])) {na : Nat → Nat} (mn : xn ∈ L) (fn : f xn = .inr (3, [.int (0 : Int32), .int (0 : Int32), .int (0 : Int32), .int (0 : Int32), .int (0 : Int32), .int (0 : Int32), .int (0 : Int32), .int (0 : Int32), .int (0 : Int32), .int (0 : Int32), .ref (na 0), .ref (na 1), .ref (na 2), .ref (na 3), .ref (na 4), .ref (na 5), .ref (na 6), .ref (na 7), .ref (na 8), .ref (na 9)])) (p0 : Int32) : gMi l E yX9_bests cX9_bests 2 .int (gRm 5 0 0) [.ref x, .int p0] L f (gRO (-2 : Int32) L f) := by
  refine gMi.intro (by decide) (Nat.le_of_ble_eq_true rfl) ?_
  intro p e s m below meth c A ls C hr hA hH hl
  have C : gC E cX9_bests 2 RX9 p s m _ meth c := C
  have hl : lv_has ls 2 [(0, .ref x), (1, .int p0)] := hl
  have hx := C.1
  have hb := C.2.1
  refine lv_aload_n hx hb dX9_bests_0 rfl (lv_at hl 0 rfl) ?_
  refine g_get C hH mx fx iX9 rfl 1 (by decide) wd18 rfl rfl dX9_bests_1 ?_
  refine g_Vi C hl.1 hA hH (As := []) (rest := []) (k_isNone l E L f mn fn) my_X3_isNone wd19 mn fn rfl rfl rfl (Nat.le_of_ble_eq_true rfl) ⟨Nat.le_of_ble_eq_true rfl, Nat.le_of_ble_eq_true rfl⟩ ⟨Nat.le_of_ble_eq_true rfl, Nat.le_of_ble_eq_true rfl⟩ dX9_bests_4 (fun r3 L2 f1 H locs hp hH => ?_)
  obtain ⟨er3, rfl, rfl⟩ := hp
  subst er3
  refine lv_if_ne (tgt := 17) hx hb dX9_bests_7 (by decide) (fun _ => ?_) (fun h => absurd h (by decide))
  refine lv_bipush (v := (-2 : Int32)) hx hb dX9_bests_17 (by decide) ?_
  refine g_iret C hr hH (Nat.le_of_ble_eq_true rfl) (Nat.le_of_ble_eq_true rfl) dX9_bests_19 ?_
  exact ⟨rfl, rfl, rfl⟩
set_option maxHeartbeats 4000000 in
set_option maxRecDepth 100000 in
theorem k_most (l : Launch) (E : gE) (L : List Nat) (f : gF) {x xt xn xr xi xw xs xl xc xh xf xm : Nat} (mx : x ∈ L) (fx : f x = .inr (9, [.ref xt, .ref xn, .ref xr, .ref xi, .ref xw, .ref xs, .ref xl, .ref xc, .ref xh, .ref xf, .ref xm])) {na : Nat → Nat} (mn : xn ∈ L) (fn : f xn = .inr (3, [.int (0 : Int32), .int (0 : Int32), .int (0 : Int32), .int (0 : Int32), .int (0 : Int32), .int (0 : Int32), .int (0 : Int32), .int (0 : Int32), .int (0 : Int32), .int (0 : Int32), .ref (na 0), .ref (na 1), .ref (na 2), .ref (na 3), .ref (na 4), .ref (na 5), .ref (na 6), .ref (na 7), .ref (na 8), .ref (na 9)])) (p0 : Int32) : gMi l E yX9_most cX9_most 2 .int (gRm 5 0 0) [.ref x, .int p0] L f (gRO (-2 : Int32) L f) := by
  refine gMi.intro (by decide) (Nat.le_of_ble_eq_true rfl) ?_
  intro p e s m below meth c A ls C hr hA hH hl
  have C : gC E cX9_most 2 RX9 p s m _ meth c := C
  have hl : lv_has ls 2 [(0, .ref x), (1, .int p0)] := hl
  have hx := C.1
  have hb := C.2.1
  refine lv_aload_n hx hb dX9_most_0 rfl (lv_at hl 0 rfl) ?_
  refine g_get C hH mx fx iX9 rfl 1 (by decide) wd18 rfl rfl dX9_most_1 ?_
  refine g_Vi C hl.1 hA hH (As := []) (rest := []) (k_isNone l E L f mn fn) my_X3_isNone wd19 mn fn rfl rfl rfl (Nat.le_of_ble_eq_true rfl) ⟨Nat.le_of_ble_eq_true rfl, Nat.le_of_ble_eq_true rfl⟩ ⟨Nat.le_of_ble_eq_true rfl, Nat.le_of_ble_eq_true rfl⟩ dX9_most_4 (fun r3 L2 f1 H locs hp hH => ?_)
  obtain ⟨er3, rfl, rfl⟩ := hp
  subst er3
  refine lv_if_ne (tgt := 17) hx hb dX9_most_7 (by decide) (fun _ => ?_) (fun h => absurd h (by decide))
  refine lv_bipush (v := (-2 : Int32)) hx hb dX9_most_17 (by decide) ?_
  refine g_iret C hr hH (Nat.le_of_ble_eq_true rfl) (Nat.le_of_ble_eq_true rfl) dX9_most_19 ?_
  exact ⟨rfl, rfl, rfl⟩
set_option maxHeartbeats 4000000 in
set_option maxRecDepth 100000 in
theorem k_more (l : Launch) (E : gE) (L : List Nat) (f : gF) {x xt xn xr xi xw xs xl xc xh xf xm : Nat} (mx : x ∈ L) (fx : f x = .inr (9, [.ref xt, .ref xn, .ref xr, .ref xi, .ref xw, .ref xs, .ref xl, .ref xc, .ref xh, .ref xf, .ref xm])) {na : Nat → Nat} (mn : xn ∈ L) (fn : f xn = .inr (3, [.int (0 : Int32), .int (0 : Int32), .int (0 : Int32), .int (0 : Int32), .int (0 : Int32), .int (0 : Int32), .int (0 : Int32), .int (0 : Int32), .int (0 : Int32), .int (0 : Int32), .ref (na 0), .ref (na 1), .ref (na 2), .ref (na 3), .ref (na 4), .ref (na 5), .ref (na 6), .ref (na 7), .ref (na 8), .ref (na 9)])) : gMi l E yX9_more cX9_more 1 .int (gRm 5 0 0) [.ref x] L f (gRO (-2 : Int32) L f) := by
  refine gMi.intro (by decide) (Nat.le_of_ble_eq_true rfl) ?_
  intro p e s m below meth c A ls C hr hA hH hl
  have C : gC E cX9_more 1 RX9 p s m _ meth c := C
  have hl : lv_has ls 1 [(0, .ref x)] := hl
  have hx := C.1
  have hb := C.2.1
  refine lv_aload_n hx hb dX9_more_0 rfl (lv_at hl 0 rfl) ?_
  refine g_get C hH mx fx iX9 rfl 1 (by decide) wd18 rfl rfl dX9_more_1 ?_
  refine g_Vi C hl.1 hA hH (As := []) (rest := []) (k_isNone l E L f mn fn) my_X3_isNone wd19 mn fn rfl rfl rfl (Nat.le_of_ble_eq_true rfl) ⟨Nat.le_of_ble_eq_true rfl, Nat.le_of_ble_eq_true rfl⟩ ⟨Nat.le_of_ble_eq_true rfl, Nat.le_of_ble_eq_true rfl⟩ dX9_more_4 (fun r3 L2 f1 H locs hp hH => ?_)
  obtain ⟨er3, rfl, rfl⟩ := hp
  subst er3
  refine lv_if_eq (tgt := 15) hx hb dX9_more_7 (by decide) (fun h => absurd h (by decide)) (fun _ => ?_)
  refine lv_bipush (v := (-2 : Int32)) hx hb dX9_more_10 (by decide) ?_
  refine lv_goto (tgt := 36) hx hb dX9_more_12 (by decide) ?_
  refine g_iret C hr hH (Nat.le_of_ble_eq_true rfl) (Nat.le_of_ble_eq_true rfl) dX9_more_36 ?_
  exact ⟨rfl, rfl, rfl⟩
set_option maxHeartbeats 4000000 in
set_option maxRecDepth 100000 in
theorem k_less (l : Launch) (E : gE) (L : List Nat) (f : gF) {x xt xn xr xi xw xs xl xc xh xf xm : Nat} (mx : x ∈ L) (fx : f x = .inr (9, [.ref xt, .ref xn, .ref xr, .ref xi, .ref xw, .ref xs, .ref xl, .ref xc, .ref xh, .ref xf, .ref xm])) {na : Nat → Nat} (mn : xn ∈ L) (fn : f xn = .inr (3, [.int (0 : Int32), .int (0 : Int32), .int (0 : Int32), .int (0 : Int32), .int (0 : Int32), .int (0 : Int32), .int (0 : Int32), .int (0 : Int32), .int (0 : Int32), .int (0 : Int32), .ref (na 0), .ref (na 1), .ref (na 2), .ref (na 3), .ref (na 4), .ref (na 5), .ref (na 6), .ref (na 7), .ref (na 8), .ref (na 9)])) : gMi l E yX9_less cX9_less 1 .int (gRm 5 0 0) [.ref x] L f (gRO (-2 : Int32) L f) := by
  refine gMi.intro (by decide) (Nat.le_of_ble_eq_true rfl) ?_
  intro p e s m below meth c A ls C hr hA hH hl
  have C : gC E cX9_less 1 RX9 p s m _ meth c := C
  have hl : lv_has ls 1 [(0, .ref x)] := hl
  have hx := C.1
  have hb := C.2.1
  refine lv_aload_n hx hb dX9_less_0 rfl (lv_at hl 0 rfl) ?_
  refine g_get C hH mx fx iX9 rfl 1 (by decide) wd18 rfl rfl dX9_less_1 ?_
  refine g_Vi C hl.1 hA hH (As := []) (rest := []) (k_isNone l E L f mn fn) my_X3_isNone wd19 mn fn rfl rfl rfl (Nat.le_of_ble_eq_true rfl) ⟨Nat.le_of_ble_eq_true rfl, Nat.le_of_ble_eq_true rfl⟩ ⟨Nat.le_of_ble_eq_true rfl, Nat.le_of_ble_eq_true rfl⟩ dX9_less_4 (fun r3 L2 f1 H locs hp hH => ?_)
  obtain ⟨er3, rfl, rfl⟩ := hp
  subst er3
  refine lv_if_eq (tgt := 15) hx hb dX9_less_7 (by decide) (fun h => absurd h (by decide)) (fun _ => ?_)
  refine lv_bipush (v := (-2 : Int32)) hx hb dX9_less_10 (by decide) ?_
  refine lv_goto (tgt := 26) hx hb dX9_less_12 (by decide) ?_
  refine g_iret C hr hH (Nat.le_of_ble_eq_true rfl) (Nat.le_of_ble_eq_true rfl) dX9_less_26 ?_
  exact ⟨rfl, rfl, rfl⟩
set_option maxHeartbeats 4000000 in
set_option maxRecDepth 100000 in
theorem k_by (l : Launch) (E : gE) (L : List Nat) (f : gF) {x xt xn xr xi xw xs xl xc xh xf xm : Nat} (mx : x ∈ L) (fx : f x = .inr (9, [.ref xt, .ref xn, .ref xr, .ref xi, .ref xw, .ref xs, .ref xl, .ref xc, .ref xh, .ref xf, .ref xm])) {na : Nat → Nat} (mn : xn ∈ L) (fn : f xn = .inr (3, [.int (0 : Int32), .int (0 : Int32), .int (0 : Int32), .int (0 : Int32), .int (0 : Int32), .int (0 : Int32), .int (0 : Int32), .int (0 : Int32), .int (0 : Int32), .int (0 : Int32), .ref (na 0), .ref (na 1), .ref (na 2), .ref (na 3), .ref (na 4), .ref (na 5), .ref (na 6), .ref (na 7), .ref (na 8), .ref (na 9)])) (p0 : Int32) : gMi l E yX9_by cX9_by 2 .int (gRm 5 0 0) [.ref x, .int p0] L f (gRO (-2 : Int32) L f) := by
  refine gMi.intro (by decide) (Nat.le_of_ble_eq_true rfl) ?_
  intro p e s m below meth c A ls C hr hA hH hl
  have C : gC E cX9_by 2 RX9 p s m _ meth c := C
  have hl : lv_has ls 2 [(0, .ref x), (1, .int p0)] := hl
  have hx := C.1
  have hb := C.2.1
  refine lv_aload_n hx hb dX9_by_0 rfl (lv_at hl 0 rfl) ?_
  refine g_get C hH mx fx iX9 rfl 1 (by decide) wd18 rfl rfl dX9_by_1 ?_
  refine g_Vi C hl.1 hA hH (As := []) (rest := []) (k_isNone l E L f mn fn) my_X3_isNone wd19 mn fn rfl rfl rfl (Nat.le_of_ble_eq_true rfl) ⟨Nat.le_of_ble_eq_true rfl, Nat.le_of_ble_eq_true rfl⟩ ⟨Nat.le_of_ble_eq_true rfl, Nat.le_of_ble_eq_true rfl⟩ dX9_by_4 (fun r3 L2 f1 H locs hp hH => ?_)
  obtain ⟨er3, rfl, rfl⟩ := hp
  subst er3
  refine lv_if_ne (tgt := 19) hx hb dX9_by_7 (by decide) (fun _ => ?_) (fun h => absurd h (by decide))
  refine lv_bipush (v := (-2 : Int32)) hx hb dX9_by_19 (by decide) ?_
  refine g_iret C hr hH (Nat.le_of_ble_eq_true rfl) (Nat.le_of_ble_eq_true rfl) dX9_by_21 ?_
  exact ⟨rfl, rfl, rfl⟩
set_option maxHeartbeats 4000000 in
set_option maxRecDepth 100000 in
theorem k_law (l : Launch) (E : gE) (L : List Nat) (f : gF) {x xt xn xr xi xw xs xl xc xh xf xm : Nat} (mx : x ∈ L) (fx : f x = .inr (9, [.ref xt, .ref xn, .ref xr, .ref xi, .ref xw, .ref xs, .ref xl, .ref xc, .ref xh, .ref xf, .ref xm])) {na : Nat → Nat} (mn : xn ∈ L) (fn : f xn = .inr (3, [.int (0 : Int32), .int (0 : Int32), .int (0 : Int32), .int (0 : Int32), .int (0 : Int32), .int (0 : Int32), .int (0 : Int32), .int (0 : Int32), .int (0 : Int32), .int (0 : Int32), .ref (na 0), .ref (na 1), .ref (na 2), .ref (na 3), .ref (na 4), .ref (na 5), .ref (na 6), .ref (na 7), .ref (na 8), .ref (na 9)])) : gMi l E yX9_law cX9_law 5 .int (gRm 5 0 0) [.ref x] L f (gRO (-2 : Int32) L f) := by
  refine gMi.intro (by decide) (Nat.le_of_ble_eq_true rfl) ?_
  intro p e s m below meth c A ls C hr hA hH hl
  have C : gC E cX9_law 5 RX9 p s m _ meth c := C
  have hl : lv_has ls 5 [(0, .ref x)] := hl
  have hx := C.1
  have hb := C.2.1
  refine lv_aload_n hx hb dX9_law_0 rfl (lv_at hl 0 rfl) ?_
  refine g_get C hH mx fx iX9 rfl 1 (by decide) wd18 rfl rfl dX9_law_1 ?_
  refine g_Vi C hl.1 hA hH (As := []) (rest := []) (k_isNone l E L f mn fn) my_X3_isNone wd19 mn fn rfl rfl rfl (Nat.le_of_ble_eq_true rfl) ⟨Nat.le_of_ble_eq_true rfl, Nat.le_of_ble_eq_true rfl⟩ ⟨Nat.le_of_ble_eq_true rfl, Nat.le_of_ble_eq_true rfl⟩ dX9_law_4 (fun r3 L2 f1 H locs hp hH => ?_)
  obtain ⟨er3, rfl, rfl⟩ := hp
  subst er3
  refine lv_if_eq (tgt := 13) hx hb dX9_law_7 (by decide) (fun h => absurd h (by decide)) (fun _ => ?_)
  refine lv_bipush (v := (-2 : Int32)) hx hb dX9_law_10 (by decide) ?_
  refine g_iret C hr hH (Nat.le_of_ble_eq_true rfl) (Nat.le_of_ble_eq_true rfl) dX9_law_12 ?_
  exact ⟨rfl, rfl, rfl⟩
set_option maxHeartbeats 4000000 in
set_option maxRecDepth 100000 in
theorem k_laws (l : Launch) (E : gE) (L : List Nat) (f : gF) {x xt xn xr xi xw xs xl xc xh xf xm : Nat} (mx : x ∈ L) (fx : f x = .inr (9, [.ref xt, .ref xn, .ref xr, .ref xi, .ref xw, .ref xs, .ref xl, .ref xc, .ref xh, .ref xf, .ref xm])) {na : Nat → Nat} (mn : xn ∈ L) (fn : f xn = .inr (3, [.int (0 : Int32), .int (0 : Int32), .int (0 : Int32), .int (0 : Int32), .int (0 : Int32), .int (0 : Int32), .int (0 : Int32), .int (0 : Int32), .int (0 : Int32), .int (0 : Int32), .ref (na 0), .ref (na 1), .ref (na 2), .ref (na 3), .ref (na 4), .ref (na 5), .ref (na 6), .ref (na 7), .ref (na 8), .ref (na 9)])) (p0 : Int32) : gMi l E yX9_laws cX9_laws 3 .int (gRm 5 0 0) [.ref x, .int p0] L f (gRO (-2 : Int32) L f) := by
  refine gMi.intro (by decide) (Nat.le_of_ble_eq_true rfl) ?_
  intro p e s m below meth c A ls C hr hA hH hl
  have C : gC E cX9_laws 3 RX9 p s m _ meth c := C
  have hl : lv_has ls 3 [(0, .ref x), (1, .int p0)] := hl
  have hx := C.1
  have hb := C.2.1
  refine lv_aload_n hx hb dX9_laws_0 rfl (lv_at hl 0 rfl) ?_
  refine lv_iload_n hx hb dX9_laws_1 rfl (lv_at hl 1 rfl) ?_
  refine g_Vi C hl.1 hA hH (As := [.int p0]) (rest := []) (k_sightRefusal l E L f mx fx mn fn p0) my_X9_sightRefusal wd43 mx fx rfl rfl rfl (Nat.le_of_ble_eq_true rfl) ⟨Nat.le_of_ble_eq_true rfl, Nat.le_of_ble_eq_true rfl⟩ ⟨Nat.le_of_ble_eq_true rfl, Nat.le_of_ble_eq_true rfl⟩ dX9_laws_2 (fun r3 L2 f1 H locs hp hH => ?_)
  obtain ⟨er3, rfl, rfl⟩ := hp
  subst er3
  refine lv_istore_n (lv' := [(2, .int (-2 : Int32)), (0, .ref x), (1, .int p0)]) hx hb dX9_laws_5 rfl hl (by decide) rfl (fun ls hl => ?_)
  refine lv_iload_n hx hb dX9_laws_6 rfl (lv_at hl 0 rfl) ?_
  refine lv_if_eq (tgt := 14) hx hb dX9_laws_7 (by decide) (fun h => absurd h (by decide)) (fun _ => ?_)
  refine lv_iload_n hx hb dX9_laws_10 rfl (lv_at hl 0 rfl) ?_
  refine lv_goto (tgt := 27) hx hb dX9_laws_11 (by decide) ?_
  refine g_iret C hr hH (Nat.le_of_ble_eq_true rfl) (Nat.le_of_ble_eq_true rfl) dX9_laws_27 ?_
  exact ⟨rfl, rfl, rfl⟩
set_option maxHeartbeats 4000000 in
set_option maxRecDepth 100000 in
theorem k_ask (l : Launch) (E : gE) (L : List Nat) (f : gF) {x xt xn xr xi xw xs xl xc xh xf xm : Nat} (mx : x ∈ L) (fx : f x = .inr (9, [.ref xt, .ref xn, .ref xr, .ref xi, .ref xw, .ref xs, .ref xl, .ref xc, .ref xh, .ref xf, .ref xm])) {na : Nat → Nat} (mn : xn ∈ L) (fn : f xn = .inr (3, [.int (0 : Int32), .int (0 : Int32), .int (0 : Int32), .int (0 : Int32), .int (0 : Int32), .int (0 : Int32), .int (0 : Int32), .int (0 : Int32), .int (0 : Int32), .int (0 : Int32), .ref (na 0), .ref (na 1), .ref (na 2), .ref (na 3), .ref (na 4), .ref (na 5), .ref (na 6), .ref (na 7), .ref (na 8), .ref (na 9)])) (p0 : Int32) : gMi l E yX9_ask cX9_ask 3 .int (gRm 5 0 0) [.ref x, .int p0] L f (gRO (-2 : Int32) L f) := by
  refine gMi.intro (by decide) (Nat.le_of_ble_eq_true rfl) ?_
  intro p e s m below meth c A ls C hr hA hH hl
  have C : gC E cX9_ask 3 RX9 p s m _ meth c := C
  have hl : lv_has ls 3 [(0, .ref x), (1, .int p0)] := hl
  have hx := C.1
  have hb := C.2.1
  refine lv_aload_n hx hb dX9_ask_0 rfl (lv_at hl 0 rfl) ?_
  refine lv_iload_n hx hb dX9_ask_1 rfl (lv_at hl 1 rfl) ?_
  refine g_Vi C hl.1 hA hH (As := [.int p0]) (rest := []) (k_sightRefusal l E L f mx fx mn fn p0) my_X9_sightRefusal wd43 mx fx rfl rfl rfl (Nat.le_of_ble_eq_true rfl) ⟨Nat.le_of_ble_eq_true rfl, Nat.le_of_ble_eq_true rfl⟩ ⟨Nat.le_of_ble_eq_true rfl, Nat.le_of_ble_eq_true rfl⟩ dX9_ask_2 (fun r3 L2 f1 H locs hp hH => ?_)
  obtain ⟨er3, rfl, rfl⟩ := hp
  subst er3
  refine lv_istore_n (lv' := [(2, .int (-2 : Int32)), (0, .ref x), (1, .int p0)]) hx hb dX9_ask_5 rfl hl (by decide) rfl (fun ls hl => ?_)
  refine lv_iload_n hx hb dX9_ask_6 rfl (lv_at hl 0 rfl) ?_
  refine lv_if_eq (tgt := 14) hx hb dX9_ask_7 (by decide) (fun h => absurd h (by decide)) (fun _ => ?_)
  refine lv_iload_n hx hb dX9_ask_10 rfl (lv_at hl 0 rfl) ?_
  refine lv_goto (tgt := 34) hx hb dX9_ask_11 (by decide) ?_
  refine g_iret C hr hH (Nat.le_of_ble_eq_true rfl) (Nat.le_of_ble_eq_true rfl) dX9_ask_34 ?_
  exact ⟨rfl, rfl, rfl⟩
set_option maxHeartbeats 4000000 in
set_option maxRecDepth 100000 in
theorem k_began (l : Launch) (E : gE) (L : List Nat) (f : gF) {x xt xn xr xi xw xs xl xc xh xf xm : Nat} (mx : x ∈ L) (fx : f x = .inr (9, [.ref xt, .ref xn, .ref xr, .ref xi, .ref xw, .ref xs, .ref xl, .ref xc, .ref xh, .ref xf, .ref xm])) {na : Nat → Nat} (mn : xn ∈ L) (fn : f xn = .inr (3, [.int (0 : Int32), .int (0 : Int32), .int (0 : Int32), .int (0 : Int32), .int (0 : Int32), .int (0 : Int32), .int (0 : Int32), .int (0 : Int32), .int (0 : Int32), .int (0 : Int32), .ref (na 0), .ref (na 1), .ref (na 2), .ref (na 3), .ref (na 4), .ref (na 5), .ref (na 6), .ref (na 7), .ref (na 8), .ref (na 9)])) (p0 : Int32) : gMi l E yX9_began cX9_began 3 .int (gRm 5 0 0) [.ref x, .int p0] L f (gRO (-2 : Int32) L f) := by
  refine gMi.intro (by decide) (Nat.le_of_ble_eq_true rfl) ?_
  intro p e s m below meth c A ls C hr hA hH hl
  have C : gC E cX9_began 3 RX9 p s m _ meth c := C
  have hl : lv_has ls 3 [(0, .ref x), (1, .int p0)] := hl
  have hx := C.1
  have hb := C.2.1
  refine lv_aload_n hx hb dX9_began_0 rfl (lv_at hl 0 rfl) ?_
  refine lv_iload_n hx hb dX9_began_1 rfl (lv_at hl 1 rfl) ?_
  refine g_Vi C hl.1 hA hH (As := [.int p0]) (rest := []) (k_reportRefusal l E L f mx fx mn fn p0) my_X9_reportRefusal wd47 mx fx rfl rfl rfl (Nat.le_of_ble_eq_true rfl) ⟨Nat.le_of_ble_eq_true rfl, Nat.le_of_ble_eq_true rfl⟩ ⟨Nat.le_of_ble_eq_true rfl, Nat.le_of_ble_eq_true rfl⟩ dX9_began_2 (fun r3 L2 f1 H locs hp hH => ?_)
  obtain ⟨er3, rfl, rfl⟩ := hp
  subst er3
  refine lv_istore_n (lv' := [(2, .int (-2 : Int32)), (0, .ref x), (1, .int p0)]) hx hb dX9_began_5 rfl hl (by decide) rfl (fun ls hl => ?_)
  refine lv_iload_n hx hb dX9_began_6 rfl (lv_at hl 0 rfl) ?_
  refine lv_if_eq (tgt := 14) hx hb dX9_began_7 (by decide) (fun h => absurd h (by decide)) (fun _ => ?_)
  refine lv_iload_n hx hb dX9_began_10 rfl (lv_at hl 0 rfl) ?_
  refine lv_goto (tgt := 27) hx hb dX9_began_11 (by decide) ?_
  refine g_iret C hr hH (Nat.le_of_ble_eq_true rfl) (Nat.le_of_ble_eq_true rfl) dX9_began_27 ?_
  exact ⟨rfl, rfl, rfl⟩
set_option maxHeartbeats 4000000 in
set_option maxRecDepth 100000 in
theorem k_spots (l : Launch) (E : gE) (L : List Nat) (f : gF) {x xt xn xr xi xw xs xl xc xh xf xm : Nat} (mx : x ∈ L) (fx : f x = .inr (9, [.ref xt, .ref xn, .ref xr, .ref xi, .ref xw, .ref xs, .ref xl, .ref xc, .ref xh, .ref xf, .ref xm])) {na : Nat → Nat} (mn : xn ∈ L) (fn : f xn = .inr (3, [.int (0 : Int32), .int (0 : Int32), .int (0 : Int32), .int (0 : Int32), .int (0 : Int32), .int (0 : Int32), .int (0 : Int32), .int (0 : Int32), .int (0 : Int32), .int (0 : Int32), .ref (na 0), .ref (na 1), .ref (na 2), .ref (na 3), .ref (na 4), .ref (na 5), .ref (na 6), .ref (na 7), .ref (na 8), .ref (na 9)])) (p0 : Int32) : gMi l E yX9_spots cX9_spots 3 .int (gRm 5 0 0) [.ref x, .int p0] L f (gRO (-2 : Int32) L f) := by
  refine gMi.intro (by decide) (Nat.le_of_ble_eq_true rfl) ?_
  intro p e s m below meth c A ls C hr hA hH hl
  have C : gC E cX9_spots 3 RX9 p s m _ meth c := C
  have hl : lv_has ls 3 [(0, .ref x), (1, .int p0)] := hl
  have hx := C.1
  have hb := C.2.1
  refine lv_aload_n hx hb dX9_spots_0 rfl (lv_at hl 0 rfl) ?_
  refine lv_iload_n hx hb dX9_spots_1 rfl (lv_at hl 1 rfl) ?_
  refine g_Vi C hl.1 hA hH (As := [.int p0]) (rest := []) (k_reportRefusal l E L f mx fx mn fn p0) my_X9_reportRefusal wd47 mx fx rfl rfl rfl (Nat.le_of_ble_eq_true rfl) ⟨Nat.le_of_ble_eq_true rfl, Nat.le_of_ble_eq_true rfl⟩ ⟨Nat.le_of_ble_eq_true rfl, Nat.le_of_ble_eq_true rfl⟩ dX9_spots_2 (fun r3 L2 f1 H locs hp hH => ?_)
  obtain ⟨er3, rfl, rfl⟩ := hp
  subst er3
  refine lv_istore_n (lv' := [(2, .int (-2 : Int32)), (0, .ref x), (1, .int p0)]) hx hb dX9_spots_5 rfl hl (by decide) rfl (fun ls hl => ?_)
  refine lv_iload_n hx hb dX9_spots_6 rfl (lv_at hl 0 rfl) ?_
  refine lv_if_eq (tgt := 12) hx hb dX9_spots_7 (by decide) (fun h => absurd h (by decide)) (fun _ => ?_)
  refine lv_iload_n hx hb dX9_spots_10 rfl (lv_at hl 0 rfl) ?_
  refine g_iret C hr hH (Nat.le_of_ble_eq_true rfl) (Nat.le_of_ble_eq_true rfl) dX9_spots_11 ?_
  exact ⟨rfl, rfl, rfl⟩
set_option maxHeartbeats 4000000 in
set_option maxRecDepth 100000 in
theorem k_who (l : Launch) (E : gE) (L : List Nat) (f : gF) {x xt xn xr xi xw xs xl xc xh xf xm : Nat} (mx : x ∈ L) (fx : f x = .inr (9, [.ref xt, .ref xn, .ref xr, .ref xi, .ref xw, .ref xs, .ref xl, .ref xc, .ref xh, .ref xf, .ref xm])) {na : Nat → Nat} (mn : xn ∈ L) (fn : f xn = .inr (3, [.int (0 : Int32), .int (0 : Int32), .int (0 : Int32), .int (0 : Int32), .int (0 : Int32), .int (0 : Int32), .int (0 : Int32), .int (0 : Int32), .int (0 : Int32), .int (0 : Int32), .ref (na 0), .ref (na 1), .ref (na 2), .ref (na 3), .ref (na 4), .ref (na 5), .ref (na 6), .ref (na 7), .ref (na 8), .ref (na 9)])) (p0 : Int32) : gMi l E yX9_who cX9_who 3 .int (gRm 5 0 0) [.ref x, .int p0] L f (gRO (-2 : Int32) L f) := by
  refine gMi.intro (by decide) (Nat.le_of_ble_eq_true rfl) ?_
  intro p e s m below meth c A ls C hr hA hH hl
  have C : gC E cX9_who 3 RX9 p s m _ meth c := C
  have hl : lv_has ls 3 [(0, .ref x), (1, .int p0)] := hl
  have hx := C.1
  have hb := C.2.1
  refine lv_aload_n hx hb dX9_who_0 rfl (lv_at hl 0 rfl) ?_
  refine lv_iload_n hx hb dX9_who_1 rfl (lv_at hl 1 rfl) ?_
  refine g_Vi C hl.1 hA hH (As := [.int p0]) (rest := []) (k_reportRefusal l E L f mx fx mn fn p0) my_X9_reportRefusal wd47 mx fx rfl rfl rfl (Nat.le_of_ble_eq_true rfl) ⟨Nat.le_of_ble_eq_true rfl, Nat.le_of_ble_eq_true rfl⟩ ⟨Nat.le_of_ble_eq_true rfl, Nat.le_of_ble_eq_true rfl⟩ dX9_who_2 (fun r3 L2 f1 H locs hp hH => ?_)
  obtain ⟨er3, rfl, rfl⟩ := hp
  subst er3
  refine lv_istore_n (lv' := [(2, .int (-2 : Int32)), (0, .ref x), (1, .int p0)]) hx hb dX9_who_5 rfl hl (by decide) rfl (fun ls hl => ?_)
  refine lv_iload_n hx hb dX9_who_6 rfl (lv_at hl 0 rfl) ?_
  refine lv_if_eq (tgt := 14) hx hb dX9_who_7 (by decide) (fun h => absurd h (by decide)) (fun _ => ?_)
  refine lv_iload_n hx hb dX9_who_10 rfl (lv_at hl 0 rfl) ?_
  refine lv_goto (tgt := 34) hx hb dX9_who_11 (by decide) ?_
  refine g_iret C hr hH (Nat.le_of_ble_eq_true rfl) (Nat.le_of_ble_eq_true rfl) dX9_who_34 ?_
  exact ⟨rfl, rfl, rfl⟩
set_option maxHeartbeats 4000000 in
set_option maxRecDepth 100000 in
theorem k_leaves (l : Launch) (E : gE) (L : List Nat) (f : gF) {x xt xn xr xi xw xs xl xc xh xf xm : Nat} (mx : x ∈ L) (fx : f x = .inr (9, [.ref xt, .ref xn, .ref xr, .ref xi, .ref xw, .ref xs, .ref xl, .ref xc, .ref xh, .ref xf, .ref xm])) {na : Nat → Nat} (mn : xn ∈ L) (fn : f xn = .inr (3, [.int (0 : Int32), .int (0 : Int32), .int (0 : Int32), .int (0 : Int32), .int (0 : Int32), .int (0 : Int32), .int (0 : Int32), .int (0 : Int32), .int (0 : Int32), .int (0 : Int32), .ref (na 0), .ref (na 1), .ref (na 2), .ref (na 3), .ref (na 4), .ref (na 5), .ref (na 6), .ref (na 7), .ref (na 8), .ref (na 9)])) (p0 : Int32) : gMi l E yX9_leaves cX9_leaves 5 .int (gRm 5 0 0) [.ref x, .int p0] L f (gRO (-2 : Int32) L f) := by
  refine gMi.intro (by decide) (Nat.le_of_ble_eq_true rfl) ?_
  intro p e s m below meth c A ls C hr hA hH hl
  have C : gC E cX9_leaves 5 RX9 p s m _ meth c := C
  have hl : lv_has ls 5 [(0, .ref x), (1, .int p0)] := hl
  have hx := C.1
  have hb := C.2.1
  refine lv_aload_n hx hb dX9_leaves_0 rfl (lv_at hl 0 rfl) ?_
  refine lv_iload_n hx hb dX9_leaves_1 rfl (lv_at hl 1 rfl) ?_
  refine g_Vi C hl.1 hA hH (As := [.int p0]) (rest := []) (k_reportRefusal l E L f mx fx mn fn p0) my_X9_reportRefusal wd47 mx fx rfl rfl rfl (Nat.le_of_ble_eq_true rfl) ⟨Nat.le_of_ble_eq_true rfl, Nat.le_of_ble_eq_true rfl⟩ ⟨Nat.le_of_ble_eq_true rfl, Nat.le_of_ble_eq_true rfl⟩ dX9_leaves_2 (fun r3 L2 f1 H locs hp hH => ?_)
  obtain ⟨er3, rfl, rfl⟩ := hp
  subst er3
  refine lv_istore_n (lv' := [(2, .int (-2 : Int32)), (0, .ref x), (1, .int p0)]) hx hb dX9_leaves_5 rfl hl (by decide) rfl (fun ls hl => ?_)
  refine lv_iload_n hx hb dX9_leaves_6 rfl (lv_at hl 0 rfl) ?_
  refine lv_if_eq (tgt := 12) hx hb dX9_leaves_7 (by decide) (fun h => absurd h (by decide)) (fun _ => ?_)
  refine lv_iload_n hx hb dX9_leaves_10 rfl (lv_at hl 0 rfl) ?_
  refine g_iret C hr hH (Nat.le_of_ble_eq_true rfl) (Nat.le_of_ble_eq_true rfl) dX9_leaves_11 ?_
  exact ⟨rfl, rfl, rfl⟩
set_option maxHeartbeats 4000000 in
set_option maxRecDepth 100000 in
theorem k_odds (l : Launch) (E : gE) (L : List Nat) (f : gF) {x xt xn xr xi xw xs xl xc xh xf xm : Nat} (mx : x ∈ L) (fx : f x = .inr (9, [.ref xt, .ref xn, .ref xr, .ref xi, .ref xw, .ref xs, .ref xl, .ref xc, .ref xh, .ref xf, .ref xm])) {na : Nat → Nat} (mn : xn ∈ L) (fn : f xn = .inr (3, [.int (0 : Int32), .int (0 : Int32), .int (0 : Int32), .int (0 : Int32), .int (0 : Int32), .int (0 : Int32), .int (0 : Int32), .int (0 : Int32), .int (0 : Int32), .int (0 : Int32), .ref (na 0), .ref (na 1), .ref (na 2), .ref (na 3), .ref (na 4), .ref (na 5), .ref (na 6), .ref (na 7), .ref (na 8), .ref (na 9)])) (p0 p1 p2 : Int32) : gMi l E yX9_odds cX9_odds 6 .int (gRm 5 0 0) [.ref x, .int p0, .int p1, .int p2] L f (gRO (-2 : Int32) L f) := by
  refine gMi.intro (by decide) (Nat.le_of_ble_eq_true rfl) ?_
  intro p e s m below meth c A ls C hr hA hH hl
  have C : gC E cX9_odds 6 RX9 p s m _ meth c := C
  have hl : lv_has ls 6 [(0, .ref x), (1, .int p0), (2, .int p1), (3, .int p2)] := hl
  have hx := C.1
  have hb := C.2.1
  refine lv_aload_n hx hb dX9_odds_0 rfl (lv_at hl 0 rfl) ?_
  refine g_get C hH mx fx iX9 rfl 1 (by decide) wd18 rfl rfl dX9_odds_1 ?_
  refine lv_iload_n hx hb dX9_odds_4 rfl (lv_at hl 2 rfl) ?_
  refine g_Vi C hl.1 hA hH (As := [.int p1]) (rest := []) (k_hasMember l E L f mn fn p1) my_X3_hasMember wd27 mn fn rfl rfl rfl (Nat.le_of_ble_eq_true rfl) ⟨Nat.le_of_ble_eq_true rfl, Nat.le_of_ble_eq_true rfl⟩ ⟨Nat.le_of_ble_eq_true rfl, Nat.le_of_ble_eq_true rfl⟩ dX9_odds_5 (fun r3 L2 f1 H locs hp hH => ?_)
  obtain ⟨er3, rfl, rfl⟩ := hp
  subst er3
  refine lv_if_eq (tgt := 18) hx hb dX9_odds_8 (by decide) (fun _ => ?_) (fun h => absurd (by decide) h)
  refine lv_bipush (v := (-2 : Int32)) hx hb dX9_odds_18 (by decide) ?_
  refine g_iret C hr hH (Nat.le_of_ble_eq_true rfl) (Nat.le_of_ble_eq_true rfl) dX9_odds_20 ?_
  exact ⟨rfl, rfl, rfl⟩
set_option maxHeartbeats 4000000 in
set_option maxRecDepth 100000 in
theorem k_homes (l : Launch) (E : gE) (L : List Nat) (f : gF) {x xt xn xr xi xw xs xl xc xh xf xm : Nat} (mx : x ∈ L) (fx : f x = .inr (9, [.ref xt, .ref xn, .ref xr, .ref xi, .ref xw, .ref xs, .ref xl, .ref xc, .ref xh, .ref xf, .ref xm])) {na : Nat → Nat} (mn : xn ∈ L) (fn : f xn = .inr (3, [.int (0 : Int32), .int (0 : Int32), .int (0 : Int32), .int (0 : Int32), .int (0 : Int32), .int (0 : Int32), .int (0 : Int32), .int (0 : Int32), .int (0 : Int32), .int (0 : Int32), .ref (na 0), .ref (na 1), .ref (na 2), .ref (na 3), .ref (na 4), .ref (na 5), .ref (na 6), .ref (na 7), .ref (na 8), .ref (na 9)])) : gMi l E yX9_homes cX9_homes 1 .int (gRm 5 0 0) [.ref x] L f (gRO (-2 : Int32) L f) := by
  refine gMi.intro (by decide) (Nat.le_of_ble_eq_true rfl) ?_
  intro p e s m below meth c A ls C hr hA hH hl
  have C : gC E cX9_homes 1 RX9 p s m _ meth c := C
  have hl : lv_has ls 1 [(0, .ref x)] := hl
  have hx := C.1
  have hb := C.2.1
  refine lv_aload_n hx hb dX9_homes_0 rfl (lv_at hl 0 rfl) ?_
  refine g_get C hH mx fx iX9 rfl 1 (by decide) wd18 rfl rfl dX9_homes_1 ?_
  refine g_Vi C hl.1 hA hH (As := []) (rest := []) (k_isNone l E L f mn fn) my_X3_isNone wd19 mn fn rfl rfl rfl (Nat.le_of_ble_eq_true rfl) ⟨Nat.le_of_ble_eq_true rfl, Nat.le_of_ble_eq_true rfl⟩ ⟨Nat.le_of_ble_eq_true rfl, Nat.le_of_ble_eq_true rfl⟩ dX9_homes_4 (fun r3 L2 f1 H locs hp hH => ?_)
  obtain ⟨er3, rfl, rfl⟩ := hp
  subst er3
  refine lv_if_eq (tgt := 13) hx hb dX9_homes_7 (by decide) (fun h => absurd h (by decide)) (fun _ => ?_)
  refine lv_bipush (v := (-2 : Int32)) hx hb dX9_homes_10 (by decide) ?_
  refine g_iret C hr hH (Nat.le_of_ble_eq_true rfl) (Nat.le_of_ble_eq_true rfl) dX9_homes_12 ?_
  exact ⟨rfl, rfl, rfl⟩
set_option maxHeartbeats 4000000 in
set_option maxRecDepth 100000 in
theorem k_home (l : Launch) (E : gE) (L : List Nat) (f : gF) {x xt xn xr xi xw xs xl xc xh xf xm : Nat} (mx : x ∈ L) (fx : f x = .inr (9, [.ref xt, .ref xn, .ref xr, .ref xi, .ref xw, .ref xs, .ref xl, .ref xc, .ref xh, .ref xf, .ref xm])) {na : Nat → Nat} (mn : xn ∈ L) (fn : f xn = .inr (3, [.int (0 : Int32), .int (0 : Int32), .int (0 : Int32), .int (0 : Int32), .int (0 : Int32), .int (0 : Int32), .int (0 : Int32), .int (0 : Int32), .int (0 : Int32), .int (0 : Int32), .ref (na 0), .ref (na 1), .ref (na 2), .ref (na 3), .ref (na 4), .ref (na 5), .ref (na 6), .ref (na 7), .ref (na 8), .ref (na 9)])) (p0 : Int32) : gMi l E yX9_home cX9_home 2 .int (gRm 5 0 0) [.ref x, .int p0] L f (gRO (-2 : Int32) L f) := by
  refine gMi.intro (by decide) (Nat.le_of_ble_eq_true rfl) ?_
  intro p e s m below meth c A ls C hr hA hH hl
  have C : gC E cX9_home 2 RX9 p s m _ meth c := C
  have hl : lv_has ls 2 [(0, .ref x), (1, .int p0)] := hl
  have hx := C.1
  have hb := C.2.1
  refine lv_aload_n hx hb dX9_home_0 rfl (lv_at hl 0 rfl) ?_
  refine g_get C hH mx fx iX9 rfl 1 (by decide) wd18 rfl rfl dX9_home_1 ?_
  refine lv_iload_n hx hb dX9_home_4 rfl (lv_at hl 1 rfl) ?_
  refine g_Vi C hl.1 hA hH (As := [.int p0]) (rest := []) (k_hasMember l E L f mn fn p0) my_X3_hasMember wd27 mn fn rfl rfl rfl (Nat.le_of_ble_eq_true rfl) ⟨Nat.le_of_ble_eq_true rfl, Nat.le_of_ble_eq_true rfl⟩ ⟨Nat.le_of_ble_eq_true rfl, Nat.le_of_ble_eq_true rfl⟩ dX9_home_5 (fun r3 L2 f1 H locs hp hH => ?_)
  obtain ⟨er3, rfl, rfl⟩ := hp
  subst er3
  refine lv_if_ne (tgt := 14) hx hb dX9_home_8 (by decide) (fun h => absurd (by decide) h) (fun _ => ?_)
  refine lv_bipush (v := (-2 : Int32)) hx hb dX9_home_11 (by decide) ?_
  refine g_iret C hr hH (Nat.le_of_ble_eq_true rfl) (Nat.le_of_ble_eq_true rfl) dX9_home_13 ?_
  exact ⟨rfl, rfl, rfl⟩
set_option maxHeartbeats 4000000 in
set_option maxRecDepth 100000 in
theorem k_swaps (l : Launch) (E : gE) (L : List Nat) (f : gF) {x xt xn xr xi xw xs xl xc xh xf xm : Nat} (mx : x ∈ L) (fx : f x = .inr (9, [.ref xt, .ref xn, .ref xr, .ref xi, .ref xw, .ref xs, .ref xl, .ref xc, .ref xh, .ref xf, .ref xm])) {na : Nat → Nat} (mn : xn ∈ L) (fn : f xn = .inr (3, [.int (0 : Int32), .int (0 : Int32), .int (0 : Int32), .int (0 : Int32), .int (0 : Int32), .int (0 : Int32), .int (0 : Int32), .int (0 : Int32), .int (0 : Int32), .int (0 : Int32), .ref (na 0), .ref (na 1), .ref (na 2), .ref (na 3), .ref (na 4), .ref (na 5), .ref (na 6), .ref (na 7), .ref (na 8), .ref (na 9)])) : gMi l E yX9_swaps cX9_swaps 1 .int (gRm 5 0 0) [.ref x] L f (gRO (-2 : Int32) L f) := by
  refine gMi.intro (by decide) (Nat.le_of_ble_eq_true rfl) ?_
  intro p e s m below meth c A ls C hr hA hH hl
  have C : gC E cX9_swaps 1 RX9 p s m _ meth c := C
  have hl : lv_has ls 1 [(0, .ref x)] := hl
  have hx := C.1
  have hb := C.2.1
  refine lv_aload_n hx hb dX9_swaps_0 rfl (lv_at hl 0 rfl) ?_
  refine g_get C hH mx fx iX9 rfl 1 (by decide) wd18 rfl rfl dX9_swaps_1 ?_
  refine g_Vi C hl.1 hA hH (As := []) (rest := []) (k_isNone l E L f mn fn) my_X3_isNone wd19 mn fn rfl rfl rfl (Nat.le_of_ble_eq_true rfl) ⟨Nat.le_of_ble_eq_true rfl, Nat.le_of_ble_eq_true rfl⟩ ⟨Nat.le_of_ble_eq_true rfl, Nat.le_of_ble_eq_true rfl⟩ dX9_swaps_4 (fun r3 L2 f1 H locs hp hH => ?_)
  obtain ⟨er3, rfl, rfl⟩ := hp
  subst er3
  refine lv_if_eq (tgt := 15) hx hb dX9_swaps_7 (by decide) (fun h => absurd h (by decide)) (fun _ => ?_)
  refine lv_bipush (v := (-2 : Int32)) hx hb dX9_swaps_10 (by decide) ?_
  refine lv_goto (tgt := 22) hx hb dX9_swaps_12 (by decide) ?_
  refine g_iret C hr hH (Nat.le_of_ble_eq_true rfl) (Nat.le_of_ble_eq_true rfl) dX9_swaps_22 ?_
  exact ⟨rfl, rfl, rfl⟩
set_option maxHeartbeats 4000000 in
set_option maxRecDepth 100000 in
theorem k_swap (l : Launch) (E : gE) (L : List Nat) (f : gF) {x xt xn xr xi xw xs xl xc xh xf xm : Nat} (mx : x ∈ L) (fx : f x = .inr (9, [.ref xt, .ref xn, .ref xr, .ref xi, .ref xw, .ref xs, .ref xl, .ref xc, .ref xh, .ref xf, .ref xm])) {na : Nat → Nat} (mn : xn ∈ L) (fn : f xn = .inr (3, [.int (0 : Int32), .int (0 : Int32), .int (0 : Int32), .int (0 : Int32), .int (0 : Int32), .int (0 : Int32), .int (0 : Int32), .int (0 : Int32), .int (0 : Int32), .int (0 : Int32), .ref (na 0), .ref (na 1), .ref (na 2), .ref (na 3), .ref (na 4), .ref (na 5), .ref (na 6), .ref (na 7), .ref (na 8), .ref (na 9)])) : gMi l E yX9_swap cX9_swap 1 .int (gRm 5 0 0) [.ref x] L f (gRO (-2 : Int32) L f) := by
  refine gMi.intro (by decide) (Nat.le_of_ble_eq_true rfl) ?_
  intro p e s m below meth c A ls C hr hA hH hl
  have C : gC E cX9_swap 1 RX9 p s m _ meth c := C
  have hl : lv_has ls 1 [(0, .ref x)] := hl
  have hx := C.1
  have hb := C.2.1
  refine lv_aload_n hx hb dX9_swap_0 rfl (lv_at hl 0 rfl) ?_
  refine g_get C hH mx fx iX9 rfl 1 (by decide) wd18 rfl rfl dX9_swap_1 ?_
  refine g_Vi C hl.1 hA hH (As := []) (rest := []) (k_isNone l E L f mn fn) my_X3_isNone wd19 mn fn rfl rfl rfl (Nat.le_of_ble_eq_true rfl) ⟨Nat.le_of_ble_eq_true rfl, Nat.le_of_ble_eq_true rfl⟩ ⟨Nat.le_of_ble_eq_true rfl, Nat.le_of_ble_eq_true rfl⟩ dX9_swap_4 (fun r3 L2 f1 H locs hp hH => ?_)
  obtain ⟨er3, rfl, rfl⟩ := hp
  subst er3
  refine lv_if_eq (tgt := 15) hx hb dX9_swap_7 (by decide) (fun h => absurd h (by decide)) (fun _ => ?_)
  refine lv_bipush (v := (-2 : Int32)) hx hb dX9_swap_10 (by decide) ?_
  refine lv_goto (tgt := 22) hx hb dX9_swap_12 (by decide) ?_
  refine g_iret C hr hH (Nat.le_of_ble_eq_true rfl) (Nat.le_of_ble_eq_true rfl) dX9_swap_22 ?_
  exact ⟨rfl, rfl, rfl⟩
set_option maxHeartbeats 4000000 in
set_option maxRecDepth 100000 in
theorem k_price (l : Launch) (E : gE) (L : List Nat) (f : gF) {x xt xn xr xi xw xs xl xc xh xf xm : Nat} (mx : x ∈ L) (fx : f x = .inr (9, [.ref xt, .ref xn, .ref xr, .ref xi, .ref xw, .ref xs, .ref xl, .ref xc, .ref xh, .ref xf, .ref xm])) {na : Nat → Nat} (mn : xn ∈ L) (fn : f xn = .inr (3, [.int (0 : Int32), .int (0 : Int32), .int (0 : Int32), .int (0 : Int32), .int (0 : Int32), .int (0 : Int32), .int (0 : Int32), .int (0 : Int32), .int (0 : Int32), .int (0 : Int32), .ref (na 0), .ref (na 1), .ref (na 2), .ref (na 3), .ref (na 4), .ref (na 5), .ref (na 6), .ref (na 7), .ref (na 8), .ref (na 9)])) (p0 : Int32) : gMi l E yX9_price cX9_price 3 .int (gRm 5 0 0) [.ref x, .int p0] L f (gRO (-2 : Int32) L f) := by
  refine gMi.intro (by decide) (Nat.le_of_ble_eq_true rfl) ?_
  intro p e s m below meth c A ls C hr hA hH hl
  have C : gC E cX9_price 3 RX9 p s m _ meth c := C
  have hl : lv_has ls 3 [(0, .ref x), (1, .int p0)] := hl
  have hx := C.1
  have hb := C.2.1
  refine lv_aload_n hx hb dX9_price_0 rfl (lv_at hl 0 rfl) ?_
  refine g_get C hH mx fx iX9 rfl 1 (by decide) wd18 rfl rfl dX9_price_1 ?_
  refine g_Vi C hl.1 hA hH (As := []) (rest := []) (k_isNone l E L f mn fn) my_X3_isNone wd19 mn fn rfl rfl rfl (Nat.le_of_ble_eq_true rfl) ⟨Nat.le_of_ble_eq_true rfl, Nat.le_of_ble_eq_true rfl⟩ ⟨Nat.le_of_ble_eq_true rfl, Nat.le_of_ble_eq_true rfl⟩ dX9_price_4 (fun r3 L2 f1 H locs hp hH => ?_)
  obtain ⟨er3, rfl, rfl⟩ := hp
  subst er3
  refine lv_if_ne (tgt := 21) hx hb dX9_price_7 (by decide) (fun _ => ?_) (fun h => absurd h (by decide))
  refine lv_bipush (v := (-2 : Int32)) hx hb dX9_price_21 (by decide) ?_
  refine g_iret C hr hH (Nat.le_of_ble_eq_true rfl) (Nat.le_of_ble_eq_true rfl) dX9_price_23 ?_
  exact ⟨rfl, rfl, rfl⟩
set_option maxHeartbeats 4000000 in
set_option maxRecDepth 100000 in
theorem k_cut (l : Launch) (E : gE) (L : List Nat) (f : gF) {x xt xn xr xi xw xs xl xc xh xf xm : Nat} (mx : x ∈ L) (fx : f x = .inr (9, [.ref xt, .ref xn, .ref xr, .ref xi, .ref xw, .ref xs, .ref xl, .ref xc, .ref xh, .ref xf, .ref xm])) {na : Nat → Nat} (mn : xn ∈ L) (fn : f xn = .inr (3, [.int (0 : Int32), .int (0 : Int32), .int (0 : Int32), .int (0 : Int32), .int (0 : Int32), .int (0 : Int32), .int (0 : Int32), .int (0 : Int32), .int (0 : Int32), .int (0 : Int32), .ref (na 0), .ref (na 1), .ref (na 2), .ref (na 3), .ref (na 4), .ref (na 5), .ref (na 6), .ref (na 7), .ref (na 8), .ref (na 9)])) (p0 p1 : Int32) : gMi l E yX9_cut cX9_cut 3 .int (gRm 5 0 0) [.ref x, .int p0, .int p1] L f (gRO (-2 : Int32) L f) := by
  refine gMi.intro (by decide) (Nat.le_of_ble_eq_true rfl) ?_
  intro p e s m below meth c A ls C hr hA hH hl
  have C : gC E cX9_cut 3 RX9 p s m _ meth c := C
  have hl : lv_has ls 3 [(0, .ref x), (1, .int p0), (2, .int p1)] := hl
  have hx := C.1
  have hb := C.2.1
  refine lv_aload_n hx hb dX9_cut_0 rfl (lv_at hl 0 rfl) ?_
  refine g_get C hH mx fx iX9 rfl 1 (by decide) wd18 rfl rfl dX9_cut_1 ?_
  refine lv_iload_n hx hb dX9_cut_4 rfl (lv_at hl 1 rfl) ?_
  refine g_Vi C hl.1 hA hH (As := [.int p0]) (rest := []) (k_hasMember l E L f mn fn p0) my_X3_hasMember wd27 mn fn rfl rfl rfl (Nat.le_of_ble_eq_true rfl) ⟨Nat.le_of_ble_eq_true rfl, Nat.le_of_ble_eq_true rfl⟩ ⟨Nat.le_of_ble_eq_true rfl, Nat.le_of_ble_eq_true rfl⟩ dX9_cut_5 (fun r3 L2 f1 H locs hp hH => ?_)
  obtain ⟨er3, rfl, rfl⟩ := hp
  subst er3
  refine lv_if_eq (tgt := 18) hx hb dX9_cut_8 (by decide) (fun _ => ?_) (fun h => absurd (by decide) h)
  refine lv_bipush (v := (-2 : Int32)) hx hb dX9_cut_18 (by decide) ?_
  refine g_iret C hr hH (Nat.le_of_ble_eq_true rfl) (Nat.le_of_ble_eq_true rfl) dX9_cut_20 ?_
  exact ⟨rfl, rfl, rfl⟩
set_option maxHeartbeats 4000000 in
set_option maxRecDepth 100000 in
theorem k_rests (l : Launch) (E : gE) (L : List Nat) (f : gF) {x xt xn xr xi xw xs xl xc xh xf xm : Nat} (mx : x ∈ L) (fx : f x = .inr (9, [.ref xt, .ref xn, .ref xr, .ref xi, .ref xw, .ref xs, .ref xl, .ref xc, .ref xh, .ref xf, .ref xm])) {na : Nat → Nat} (mn : xn ∈ L) (fn : f xn = .inr (3, [.int (0 : Int32), .int (0 : Int32), .int (0 : Int32), .int (0 : Int32), .int (0 : Int32), .int (0 : Int32), .int (0 : Int32), .int (0 : Int32), .int (0 : Int32), .int (0 : Int32), .ref (na 0), .ref (na 1), .ref (na 2), .ref (na 3), .ref (na 4), .ref (na 5), .ref (na 6), .ref (na 7), .ref (na 8), .ref (na 9)])) (p0 p1 : Int32) : gMi l E yX9_rests cX9_rests 6 .int (gRm 5 0 0) [.ref x, .int p0, .int p1] L f (gRO (-2 : Int32) L f) := by
  refine gMi.intro (by decide) (Nat.le_of_ble_eq_true rfl) ?_
  intro p e s m below meth c A ls C hr hA hH hl
  have C : gC E cX9_rests 6 RX9 p s m _ meth c := C
  have hl : lv_has ls 6 [(0, .ref x), (1, .int p0), (2, .int p1)] := hl
  have hx := C.1
  have hb := C.2.1
  refine lv_aload_n hx hb dX9_rests_0 rfl (lv_at hl 0 rfl) ?_
  refine lv_iload_n hx hb dX9_rests_1 rfl (lv_at hl 1 rfl) ?_
  refine lv_iload_n hx hb dX9_rests_2 rfl (lv_at hl 2 rfl) ?_
  refine g_Vi C hl.1 hA hH (As := [.int p0, .int p1]) (rest := []) (k_areTwo l E L f mx fx mn fn p0 p1) my_X9_areTwo wd51 mx fx rfl rfl rfl (Nat.le_of_ble_eq_true rfl) ⟨Nat.le_of_ble_eq_true rfl, Nat.le_of_ble_eq_true rfl⟩ ⟨Nat.le_of_ble_eq_true rfl, Nat.le_of_ble_eq_true rfl⟩ dX9_rests_3 (fun r3 L2 f1 H locs hp hH => ?_)
  obtain ⟨er3, rfl, rfl⟩ := hp
  subst er3
  refine lv_if_ne (tgt := 12) hx hb dX9_rests_6 (by decide) (fun h => absurd (by decide) h) (fun _ => ?_)
  refine lv_bipush (v := (-2 : Int32)) hx hb dX9_rests_9 (by decide) ?_
  refine g_iret C hr hH (Nat.le_of_ble_eq_true rfl) (Nat.le_of_ble_eq_true rfl) dX9_rests_11 ?_
  exact ⟨rfl, rfl, rfl⟩
set_option maxHeartbeats 4000000 in
set_option maxRecDepth 100000 in
theorem k_chance (l : Launch) (E : gE) (L : List Nat) (f : gF) {x xt xn xr xi xw xs xl xc xh xf xm : Nat} (mx : x ∈ L) (fx : f x = .inr (9, [.ref xt, .ref xn, .ref xr, .ref xi, .ref xw, .ref xs, .ref xl, .ref xc, .ref xh, .ref xf, .ref xm])) {na : Nat → Nat} (mn : xn ∈ L) (fn : f xn = .inr (3, [.int (0 : Int32), .int (0 : Int32), .int (0 : Int32), .int (0 : Int32), .int (0 : Int32), .int (0 : Int32), .int (0 : Int32), .int (0 : Int32), .int (0 : Int32), .int (0 : Int32), .ref (na 0), .ref (na 1), .ref (na 2), .ref (na 3), .ref (na 4), .ref (na 5), .ref (na 6), .ref (na 7), .ref (na 8), .ref (na 9)])) (p0 p1 : Int32) : gMi l E yX9_chance cX9_chance 3 .int (gRm 5 0 0) [.ref x, .int p0, .int p1] L f (gRO (-2 : Int32) L f) := by
  refine gMi.intro (by decide) (Nat.le_of_ble_eq_true rfl) ?_
  intro p e s m below meth c A ls C hr hA hH hl
  have C : gC E cX9_chance 3 RX9 p s m _ meth c := C
  have hl : lv_has ls 3 [(0, .ref x), (1, .int p0), (2, .int p1)] := hl
  have hx := C.1
  have hb := C.2.1
  refine lv_aload_n hx hb dX9_chance_0 rfl (lv_at hl 0 rfl) ?_
  refine g_get C hH mx fx iX9 rfl 1 (by decide) wd18 rfl rfl dX9_chance_1 ?_
  refine lv_iload_n hx hb dX9_chance_4 rfl (lv_at hl 1 rfl) ?_
  refine g_Vi C hl.1 hA hH (As := [.int p0]) (rest := []) (k_hasMember l E L f mn fn p0) my_X3_hasMember wd27 mn fn rfl rfl rfl (Nat.le_of_ble_eq_true rfl) ⟨Nat.le_of_ble_eq_true rfl, Nat.le_of_ble_eq_true rfl⟩ ⟨Nat.le_of_ble_eq_true rfl, Nat.le_of_ble_eq_true rfl⟩ dX9_chance_5 (fun r3 L2 f1 H locs hp hH => ?_)
  obtain ⟨er3, rfl, rfl⟩ := hp
  subst er3
  refine lv_if_eq (tgt := 18) hx hb dX9_chance_8 (by decide) (fun _ => ?_) (fun h => absurd (by decide) h)
  refine lv_bipush (v := (-2 : Int32)) hx hb dX9_chance_18 (by decide) ?_
  refine g_iret C hr hH (Nat.le_of_ble_eq_true rfl) (Nat.le_of_ble_eq_true rfl) dX9_chance_20 ?_
  exact ⟨rfl, rfl, rfl⟩
set_option maxHeartbeats 4000000 in
set_option maxRecDepth 100000 in
theorem k_mean (l : Launch) (E : gE) (L : List Nat) (f : gF) {x xt xn xr xi xw xs xl xc xh xf xm : Nat} (mx : x ∈ L) (fx : f x = .inr (9, [.ref xt, .ref xn, .ref xr, .ref xi, .ref xw, .ref xs, .ref xl, .ref xc, .ref xh, .ref xf, .ref xm])) {na : Nat → Nat} (mn : xn ∈ L) (fn : f xn = .inr (3, [.int (0 : Int32), .int (0 : Int32), .int (0 : Int32), .int (0 : Int32), .int (0 : Int32), .int (0 : Int32), .int (0 : Int32), .int (0 : Int32), .int (0 : Int32), .int (0 : Int32), .ref (na 0), .ref (na 1), .ref (na 2), .ref (na 3), .ref (na 4), .ref (na 5), .ref (na 6), .ref (na 7), .ref (na 8), .ref (na 9)])) (p0 : Int32) : gMi l E yX9_mean cX9_mean 2 .int (gRm 5 0 0) [.ref x, .int p0] L f (gRO (-2 : Int32) L f) := by
  refine gMi.intro (by decide) (Nat.le_of_ble_eq_true rfl) ?_
  intro p e s m below meth c A ls C hr hA hH hl
  have C : gC E cX9_mean 2 RX9 p s m _ meth c := C
  have hl : lv_has ls 2 [(0, .ref x), (1, .int p0)] := hl
  have hx := C.1
  have hb := C.2.1
  refine lv_aload_n hx hb dX9_mean_0 rfl (lv_at hl 0 rfl) ?_
  refine g_get C hH mx fx iX9 rfl 1 (by decide) wd18 rfl rfl dX9_mean_1 ?_
  refine g_Vi C hl.1 hA hH (As := []) (rest := []) (k_isNone l E L f mn fn) my_X3_isNone wd19 mn fn rfl rfl rfl (Nat.le_of_ble_eq_true rfl) ⟨Nat.le_of_ble_eq_true rfl, Nat.le_of_ble_eq_true rfl⟩ ⟨Nat.le_of_ble_eq_true rfl, Nat.le_of_ble_eq_true rfl⟩ dX9_mean_4 (fun r3 L2 f1 H locs hp hH => ?_)
  obtain ⟨er3, rfl, rfl⟩ := hp
  subst er3
  refine lv_if_ne (tgt := 17) hx hb dX9_mean_7 (by decide) (fun _ => ?_) (fun h => absurd h (by decide))
  refine lv_bipush (v := (-2 : Int32)) hx hb dX9_mean_17 (by decide) ?_
  refine g_iret C hr hH (Nat.le_of_ble_eq_true rfl) (Nat.le_of_ble_eq_true rfl) dX9_mean_19 ?_
  exact ⟨rfl, rfl, rfl⟩
set_option maxHeartbeats 4000000 in
set_option maxRecDepth 100000 in
theorem k_flown (l : Launch) (E : gE) (L : List Nat) (f : gF) {x xt xn xr xi xw xs xl xc xh xf xm : Nat} (mx : x ∈ L) (fx : f x = .inr (9, [.ref xt, .ref xn, .ref xr, .ref xi, .ref xw, .ref xs, .ref xl, .ref xc, .ref xh, .ref xf, .ref xm])) {na : Nat → Nat} (mn : xn ∈ L) (fn : f xn = .inr (3, [.int (0 : Int32), .int (0 : Int32), .int (0 : Int32), .int (0 : Int32), .int (0 : Int32), .int (0 : Int32), .int (0 : Int32), .int (0 : Int32), .int (0 : Int32), .int (0 : Int32), .ref (na 0), .ref (na 1), .ref (na 2), .ref (na 3), .ref (na 4), .ref (na 5), .ref (na 6), .ref (na 7), .ref (na 8), .ref (na 9)])) (p0 p1 : Int32) : gMi l E yX9_flown cX9_flown 3 .int (gRm 5 0 0) [.ref x, .int p0, .int p1] L f (gRO (-2 : Int32) L f) := by
  refine gMi.intro (by decide) (Nat.le_of_ble_eq_true rfl) ?_
  intro p e s m below meth c A ls C hr hA hH hl
  have C : gC E cX9_flown 3 RX9 p s m _ meth c := C
  have hl : lv_has ls 3 [(0, .ref x), (1, .int p0), (2, .int p1)] := hl
  have hx := C.1
  have hb := C.2.1
  refine lv_aload_n hx hb dX9_flown_0 rfl (lv_at hl 0 rfl) ?_
  refine g_get C hH mx fx iX9 rfl 1 (by decide) wd18 rfl rfl dX9_flown_1 ?_
  refine g_Vi C hl.1 hA hH (As := []) (rest := []) (k_isNone l E L f mn fn) my_X3_isNone wd19 mn fn rfl rfl rfl (Nat.le_of_ble_eq_true rfl) ⟨Nat.le_of_ble_eq_true rfl, Nat.le_of_ble_eq_true rfl⟩ ⟨Nat.le_of_ble_eq_true rfl, Nat.le_of_ble_eq_true rfl⟩ dX9_flown_4 (fun r3 L2 f1 H locs hp hH => ?_)
  obtain ⟨er3, rfl, rfl⟩ := hp
  subst er3
  refine lv_if_ne (tgt := 26) hx hb dX9_flown_7 (by decide) (fun _ => ?_) (fun h => absurd h (by decide))
  refine lv_bipush (v := (-2 : Int32)) hx hb dX9_flown_26 (by decide) ?_
  refine g_iret C hr hH (Nat.le_of_ble_eq_true rfl) (Nat.le_of_ble_eq_true rfl) dX9_flown_28 ?_
  exact ⟨rfl, rfl, rfl⟩
set_option maxHeartbeats 4000000 in
set_option maxRecDepth 100000 in
theorem k_light (l : Launch) (E : gE) (L : List Nat) (f : gF) {x xt xn xr xi xw xs xl xc xh xf xm : Nat} (mx : x ∈ L) (fx : f x = .inr (9, [.ref xt, .ref xn, .ref xr, .ref xi, .ref xw, .ref xs, .ref xl, .ref xc, .ref xh, .ref xf, .ref xm])) {na : Nat → Nat} (mn : xn ∈ L) (fn : f xn = .inr (3, [.int (0 : Int32), .int (0 : Int32), .int (0 : Int32), .int (0 : Int32), .int (0 : Int32), .int (0 : Int32), .int (0 : Int32), .int (0 : Int32), .int (0 : Int32), .int (0 : Int32), .ref (na 0), .ref (na 1), .ref (na 2), .ref (na 3), .ref (na 4), .ref (na 5), .ref (na 6), .ref (na 7), .ref (na 8), .ref (na 9)])) (p0 p1 : Int32) : gMi l E yX9_light cX9_light 3 .int (gRm 5 0 0) [.ref x, .int p0, .int p1] L f (gRO (-2 : Int32) L f) := by
  refine gMi.intro (by decide) (Nat.le_of_ble_eq_true rfl) ?_
  intro p e s m below meth c A ls C hr hA hH hl
  have C : gC E cX9_light 3 RX9 p s m _ meth c := C
  have hl : lv_has ls 3 [(0, .ref x), (1, .int p0), (2, .int p1)] := hl
  have hx := C.1
  have hb := C.2.1
  refine lv_aload_n hx hb dX9_light_0 rfl (lv_at hl 0 rfl) ?_
  refine g_get C hH mx fx iX9 rfl 1 (by decide) wd18 rfl rfl dX9_light_1 ?_
  refine lv_iload_n hx hb dX9_light_4 rfl (lv_at hl 1 rfl) ?_
  refine g_Vi C hl.1 hA hH (As := [.int p0]) (rest := []) (k_hasCell l E L f mn fn p0) my_X3_hasCell wd35 mn fn rfl rfl rfl (Nat.le_of_ble_eq_true rfl) ⟨Nat.le_of_ble_eq_true rfl, Nat.le_of_ble_eq_true rfl⟩ ⟨Nat.le_of_ble_eq_true rfl, Nat.le_of_ble_eq_true rfl⟩ dX9_light_5 (fun r3 L2 f1 H locs hp hH => ?_)
  obtain ⟨er3, rfl, rfl⟩ := hp
  subst er3
  refine lv_if_eq (tgt := 18) hx hb dX9_light_8 (by decide) (fun _ => ?_) (fun h => absurd (by decide) h)
  refine lv_bipush (v := (-2 : Int32)) hx hb dX9_light_18 (by decide) ?_
  refine g_iret C hr hH (Nat.le_of_ble_eq_true rfl) (Nat.le_of_ble_eq_true rfl) dX9_light_20 ?_
  exact ⟨rfl, rfl, rfl⟩
set_option maxHeartbeats 4000000 in
set_option maxRecDepth 100000 in
theorem k_turn (l : Launch) (E : gE) (L : List Nat) (f : gF) {x xt xn xr xi xw xs xl xc xh xf xm : Nat} (mx : x ∈ L) (fx : f x = .inr (9, [.ref xt, .ref xn, .ref xr, .ref xi, .ref xw, .ref xs, .ref xl, .ref xc, .ref xh, .ref xf, .ref xm])) {na : Nat → Nat} (mn : xn ∈ L) (fn : f xn = .inr (3, [.int (0 : Int32), .int (0 : Int32), .int (0 : Int32), .int (0 : Int32), .int (0 : Int32), .int (0 : Int32), .int (0 : Int32), .int (0 : Int32), .int (0 : Int32), .int (0 : Int32), .ref (na 0), .ref (na 1), .ref (na 2), .ref (na 3), .ref (na 4), .ref (na 5), .ref (na 6), .ref (na 7), .ref (na 8), .ref (na 9)])) (p0 p1 : Int32) : gMi l E yX9_turn cX9_turn 3 .int (gRm 5 0 0) [.ref x, .int p0, .int p1] L f (gRO (-2 : Int32) L f) := by
  refine gMi.intro (by decide) (Nat.le_of_ble_eq_true rfl) ?_
  intro p e s m below meth c A ls C hr hA hH hl
  have C : gC E cX9_turn 3 RX9 p s m _ meth c := C
  have hl : lv_has ls 3 [(0, .ref x), (1, .int p0), (2, .int p1)] := hl
  have hx := C.1
  have hb := C.2.1
  refine lv_aload_n hx hb dX9_turn_0 rfl (lv_at hl 0 rfl) ?_
  refine g_get C hH mx fx iX9 rfl 1 (by decide) wd18 rfl rfl dX9_turn_1 ?_
  refine lv_iload_n hx hb dX9_turn_4 rfl (lv_at hl 1 rfl) ?_
  refine g_Vi C hl.1 hA hH (As := [.int p0]) (rest := []) (k_hasFlight l E L f mn fn p0) my_X3_hasFlight wd31 mn fn rfl rfl rfl (Nat.le_of_ble_eq_true rfl) ⟨Nat.le_of_ble_eq_true rfl, Nat.le_of_ble_eq_true rfl⟩ ⟨Nat.le_of_ble_eq_true rfl, Nat.le_of_ble_eq_true rfl⟩ dX9_turn_5 (fun r3 L2 f1 H locs hp hH => ?_)
  obtain ⟨er3, rfl, rfl⟩ := hp
  subst er3
  refine lv_if_eq (tgt := 20) hx hb dX9_turn_8 (by decide) (fun _ => ?_) (fun h => absurd (by decide) h)
  refine lv_bipush (v := (-2 : Int32)) hx hb dX9_turn_20 (by decide) ?_
  refine g_iret C hr hH (Nat.le_of_ble_eq_true rfl) (Nat.le_of_ble_eq_true rfl) dX9_turn_22 ?_
  exact ⟨rfl, rfl, rfl⟩
set_option maxHeartbeats 4000000 in
set_option maxRecDepth 100000 in
theorem k_undo (l : Launch) (E : gE) (L : List Nat) (f : gF) {x xt xn xr xi xw xs xl xc xh xf xm : Nat} (mx : x ∈ L) (fx : f x = .inr (9, [.ref xt, .ref xn, .ref xr, .ref xi, .ref xw, .ref xs, .ref xl, .ref xc, .ref xh, .ref xf, .ref xm])) {na : Nat → Nat} (mn : xn ∈ L) (fn : f xn = .inr (3, [.int (0 : Int32), .int (0 : Int32), .int (0 : Int32), .int (0 : Int32), .int (0 : Int32), .int (0 : Int32), .int (0 : Int32), .int (0 : Int32), .int (0 : Int32), .int (0 : Int32), .ref (na 0), .ref (na 1), .ref (na 2), .ref (na 3), .ref (na 4), .ref (na 5), .ref (na 6), .ref (na 7), .ref (na 8), .ref (na 9)])) : gMi l E yX9_undo cX9_undo 1 .int (gRm 5 0 0) [.ref x] L f (gRO (-2 : Int32) L f) := by
  refine gMi.intro (by decide) (Nat.le_of_ble_eq_true rfl) ?_
  intro p e s m below meth c A ls C hr hA hH hl
  have C : gC E cX9_undo 1 RX9 p s m _ meth c := C
  have hl : lv_has ls 1 [(0, .ref x)] := hl
  have hx := C.1
  have hb := C.2.1
  refine lv_aload_n hx hb dX9_undo_0 rfl (lv_at hl 0 rfl) ?_
  refine g_get C hH mx fx iX9 rfl 1 (by decide) wd18 rfl rfl dX9_undo_1 ?_
  refine g_Vi C hl.1 hA hH (As := []) (rest := []) (k_isNone l E L f mn fn) my_X3_isNone wd19 mn fn rfl rfl rfl (Nat.le_of_ble_eq_true rfl) ⟨Nat.le_of_ble_eq_true rfl, Nat.le_of_ble_eq_true rfl⟩ ⟨Nat.le_of_ble_eq_true rfl, Nat.le_of_ble_eq_true rfl⟩ dX9_undo_4 (fun r3 L2 f1 H locs hp hH => ?_)
  obtain ⟨er3, rfl, rfl⟩ := hp
  subst er3
  refine lv_if_eq (tgt := 13) hx hb dX9_undo_7 (by decide) (fun h => absurd h (by decide)) (fun _ => ?_)
  refine lv_bipush (v := (-2 : Int32)) hx hb dX9_undo_10 (by decide) ?_
  refine g_iret C hr hH (Nat.le_of_ble_eq_true rfl) (Nat.le_of_ble_eq_true rfl) dX9_undo_12 ?_
  exact ⟨rfl, rfl, rfl⟩
set_option maxHeartbeats 4000000 in
set_option maxRecDepth 100000 in
theorem k_anew (l : Launch) (E : gE) (L : List Nat) (f : gF) {x xt xn xr xi xw xs xl xc xh xf xm : Nat} (mx : x ∈ L) (fx : f x = .inr (9, [.ref xt, .ref xn, .ref xr, .ref xi, .ref xw, .ref xs, .ref xl, .ref xc, .ref xh, .ref xf, .ref xm])) {na : Nat → Nat} (mn : xn ∈ L) (fn : f xn = .inr (3, [.int (0 : Int32), .int (0 : Int32), .int (0 : Int32), .int (0 : Int32), .int (0 : Int32), .int (0 : Int32), .int (0 : Int32), .int (0 : Int32), .int (0 : Int32), .int (0 : Int32), .ref (na 0), .ref (na 1), .ref (na 2), .ref (na 3), .ref (na 4), .ref (na 5), .ref (na 6), .ref (na 7), .ref (na 8), .ref (na 9)])) : gMi l E yX9_anew cX9_anew 3 .int (gRm 5 0 0) [.ref x] L f (gRO (-2 : Int32) L f) := by
  refine gMi.intro (by decide) (Nat.le_of_ble_eq_true rfl) ?_
  intro p e s m below meth c A ls C hr hA hH hl
  have C : gC E cX9_anew 3 RX9 p s m _ meth c := C
  have hl : lv_has ls 3 [(0, .ref x)] := hl
  have hx := C.1
  have hb := C.2.1
  refine lv_aload_n hx hb dX9_anew_0 rfl (lv_at hl 0 rfl) ?_
  refine g_get C hH mx fx iX9 rfl 1 (by decide) wd18 rfl rfl dX9_anew_1 ?_
  refine g_Vi C hl.1 hA hH (As := []) (rest := []) (k_isNone l E L f mn fn) my_X3_isNone wd19 mn fn rfl rfl rfl (Nat.le_of_ble_eq_true rfl) ⟨Nat.le_of_ble_eq_true rfl, Nat.le_of_ble_eq_true rfl⟩ ⟨Nat.le_of_ble_eq_true rfl, Nat.le_of_ble_eq_true rfl⟩ dX9_anew_4 (fun r3 L2 f1 H locs hp hH => ?_)
  obtain ⟨er3, rfl, rfl⟩ := hp
  subst er3
  refine lv_if_eq (tgt := 13) hx hb dX9_anew_7 (by decide) (fun h => absurd h (by decide)) (fun _ => ?_)
  refine lv_bipush (v := (-2 : Int32)) hx hb dX9_anew_10 (by decide) ?_
  refine g_iret C hr hH (Nat.le_of_ble_eq_true rfl) (Nat.le_of_ble_eq_true rfl) dX9_anew_12 ?_
  exact ⟨rfl, rfl, rfl⟩
set_option maxHeartbeats 4000000 in
set_option maxRecDepth 100000 in
theorem k_drawn (l : Launch) (E : gE) (L : List Nat) (f : gF) {x xt xn xr xi xw xs xl xc xh xf xm : Nat} (mx : x ∈ L) (fx : f x = .inr (9, [.ref xt, .ref xn, .ref xr, .ref xi, .ref xw, .ref xs, .ref xl, .ref xc, .ref xh, .ref xf, .ref xm])) {na : Nat → Nat} (mn : xn ∈ L) (fn : f xn = .inr (3, [.int (0 : Int32), .int (0 : Int32), .int (0 : Int32), .int (0 : Int32), .int (0 : Int32), .int (0 : Int32), .int (0 : Int32), .int (0 : Int32), .int (0 : Int32), .int (0 : Int32), .ref (na 0), .ref (na 1), .ref (na 2), .ref (na 3), .ref (na 4), .ref (na 5), .ref (na 6), .ref (na 7), .ref (na 8), .ref (na 9)])) (p0 p1 : Int32) : gMi l E yX9_drawn cX9_drawn 4 .int (gRm 5 0 0) [.ref x, .int p0, .int p1] L f (gRO (-2 : Int32) L f) := by
  refine gMi.intro (by decide) (Nat.le_of_ble_eq_true rfl) ?_
  intro p e s m below meth c A ls C hr hA hH hl
  have C : gC E cX9_drawn 4 RX9 p s m _ meth c := C
  have hl : lv_has ls 4 [(0, .ref x), (1, .int p0), (2, .int p1)] := hl
  have hx := C.1
  have hb := C.2.1
  refine lv_aload_n hx hb dX9_drawn_0 rfl (lv_at hl 0 rfl) ?_
  refine g_get C hH mx fx iX9 rfl 1 (by decide) wd18 rfl rfl dX9_drawn_1 ?_
  refine g_Vi C hl.1 hA hH (As := []) (rest := []) (k_isNone l E L f mn fn) my_X3_isNone wd19 mn fn rfl rfl rfl (Nat.le_of_ble_eq_true rfl) ⟨Nat.le_of_ble_eq_true rfl, Nat.le_of_ble_eq_true rfl⟩ ⟨Nat.le_of_ble_eq_true rfl, Nat.le_of_ble_eq_true rfl⟩ dX9_drawn_4 (fun r3 L2 f1 H locs hp hH => ?_)
  obtain ⟨er3, rfl, rfl⟩ := hp
  subst er3
  refine lv_if_ne (tgt := 26) hx hb dX9_drawn_7 (by decide) (fun _ => ?_) (fun h => absurd h (by decide))
  refine lv_bipush (v := (-2 : Int32)) hx hb dX9_drawn_26 (by decide) ?_
  refine g_iret C hr hH (Nat.le_of_ble_eq_true rfl) (Nat.le_of_ble_eq_true rfl) dX9_drawn_28 ?_
  exact ⟨rfl, rfl, rfl⟩
set_option maxHeartbeats 4000000 in
set_option maxRecDepth 100000 in
theorem k_luck (l : Launch) (E : gE) (L : List Nat) (f : gF) {x xt xn xr xi xw xs xl xc xh xf xm : Nat} (mx : x ∈ L) (fx : f x = .inr (9, [.ref xt, .ref xn, .ref xr, .ref xi, .ref xw, .ref xs, .ref xl, .ref xc, .ref xh, .ref xf, .ref xm])) {na : Nat → Nat} (mn : xn ∈ L) (fn : f xn = .inr (3, [.int (0 : Int32), .int (0 : Int32), .int (0 : Int32), .int (0 : Int32), .int (0 : Int32), .int (0 : Int32), .int (0 : Int32), .int (0 : Int32), .int (0 : Int32), .int (0 : Int32), .ref (na 0), .ref (na 1), .ref (na 2), .ref (na 3), .ref (na 4), .ref (na 5), .ref (na 6), .ref (na 7), .ref (na 8), .ref (na 9)])) (p0 p1 p2 : Int32) : gMi l E yX9_luck cX9_luck 6 .int (gRm 5 0 0) [.ref x, .int p0, .int p1, .int p2] L f (gRO (-2 : Int32) L f) := by
  refine gMi.intro (by decide) (Nat.le_of_ble_eq_true rfl) ?_
  intro p e s m below meth c A ls C hr hA hH hl
  have C : gC E cX9_luck 6 RX9 p s m _ meth c := C
  have hl : lv_has ls 6 [(0, .ref x), (1, .int p0), (2, .int p1), (3, .int p2)] := hl
  have hx := C.1
  have hb := C.2.1
  refine lv_aload_n hx hb dX9_luck_0 rfl (lv_at hl 0 rfl) ?_
  refine g_get C hH mx fx iX9 rfl 1 (by decide) wd18 rfl rfl dX9_luck_1 ?_
  refine lv_iload_n hx hb dX9_luck_4 rfl (lv_at hl 3 rfl) ?_
  refine g_Vi C hl.1 hA hH (As := [.int p2]) (rest := []) (k_hasMember l E L f mn fn p2) my_X3_hasMember wd27 mn fn rfl rfl rfl (Nat.le_of_ble_eq_true rfl) ⟨Nat.le_of_ble_eq_true rfl, Nat.le_of_ble_eq_true rfl⟩ ⟨Nat.le_of_ble_eq_true rfl, Nat.le_of_ble_eq_true rfl⟩ dX9_luck_5 (fun r3 L2 f1 H locs hp hH => ?_)
  obtain ⟨er3, rfl, rfl⟩ := hp
  subst er3
  refine lv_if_eq (tgt := 29) hx hb dX9_luck_8 (by decide) (fun _ => ?_) (fun h => absurd (by decide) h)
  refine lv_bipush (v := (-2 : Int32)) hx hb dX9_luck_29 (by decide) ?_
  refine g_iret C hr hH (Nat.le_of_ble_eq_true rfl) (Nat.le_of_ble_eq_true rfl) dX9_luck_31 ?_
  exact ⟨rfl, rfl, rfl⟩
set_option maxHeartbeats 4000000 in
set_option maxRecDepth 100000 in
theorem k_rate (l : Launch) (E : gE) (L : List Nat) (f : gF) {x xt xn xr xi xw xs xl xc xh xf xm : Nat} (mx : x ∈ L) (fx : f x = .inr (9, [.ref xt, .ref xn, .ref xr, .ref xi, .ref xw, .ref xs, .ref xl, .ref xc, .ref xh, .ref xf, .ref xm])) {na : Nat → Nat} (mn : xn ∈ L) (fn : f xn = .inr (3, [.int (0 : Int32), .int (0 : Int32), .int (0 : Int32), .int (0 : Int32), .int (0 : Int32), .int (0 : Int32), .int (0 : Int32), .int (0 : Int32), .int (0 : Int32), .int (0 : Int32), .ref (na 0), .ref (na 1), .ref (na 2), .ref (na 3), .ref (na 4), .ref (na 5), .ref (na 6), .ref (na 7), .ref (na 8), .ref (na 9)])) (p0 p1 : Int32) : gMi l E yX9_rate cX9_rate 4 .int (gRm 5 0 0) [.ref x, .int p0, .int p1] L f (gRO (-2 : Int32) L f) := by
  refine gMi.intro (by decide) (Nat.le_of_ble_eq_true rfl) ?_
  intro p e s m below meth c A ls C hr hA hH hl
  have C : gC E cX9_rate 4 RX9 p s m _ meth c := C
  have hl : lv_has ls 4 [(0, .ref x), (1, .int p0), (2, .int p1)] := hl
  have hx := C.1
  have hb := C.2.1
  refine lv_aload_n hx hb dX9_rate_0 rfl (lv_at hl 0 rfl) ?_
  refine g_get C hH mx fx iX9 rfl 1 (by decide) wd18 rfl rfl dX9_rate_1 ?_
  refine lv_iload_n hx hb dX9_rate_4 rfl (lv_at hl 1 rfl) ?_
  refine g_Vi C hl.1 hA hH (As := [.int p0]) (rest := []) (k_hasMember l E L f mn fn p0) my_X3_hasMember wd27 mn fn rfl rfl rfl (Nat.le_of_ble_eq_true rfl) ⟨Nat.le_of_ble_eq_true rfl, Nat.le_of_ble_eq_true rfl⟩ ⟨Nat.le_of_ble_eq_true rfl, Nat.le_of_ble_eq_true rfl⟩ dX9_rate_5 (fun r3 L2 f1 H locs hp hH => ?_)
  obtain ⟨er3, rfl, rfl⟩ := hp
  subst er3
  refine lv_if_eq (tgt := 21) hx hb dX9_rate_8 (by decide) (fun _ => ?_) (fun h => absurd (by decide) h)
  refine lv_bipush (v := (-2 : Int32)) hx hb dX9_rate_21 (by decide) ?_
  refine g_iret C hr hH (Nat.le_of_ble_eq_true rfl) (Nat.le_of_ble_eq_true rfl) dX9_rate_23 ?_
  exact ⟨rfl, rfl, rfl⟩
set_option maxHeartbeats 4000000 in
set_option maxRecDepth 100000 in
theorem k_has (l : Launch) (E : gE) (L : List Nat) (f : gF) {x xt xn xr xi xw xs xl xc xh xf xm : Nat} (mx : x ∈ L) (fx : f x = .inr (9, [.ref xt, .ref xn, .ref xr, .ref xi, .ref xw, .ref xs, .ref xl, .ref xc, .ref xh, .ref xf, .ref xm])) {na : Nat → Nat} (mn : xn ∈ L) (fn : f xn = .inr (3, [.int (0 : Int32), .int (0 : Int32), .int (0 : Int32), .int (0 : Int32), .int (0 : Int32), .int (0 : Int32), .int (0 : Int32), .int (0 : Int32), .int (0 : Int32), .int (0 : Int32), .ref (na 0), .ref (na 1), .ref (na 2), .ref (na 3), .ref (na 4), .ref (na 5), .ref (na 6), .ref (na 7), .ref (na 8), .ref (na 9)])) (p0 p1 p2 p3 : Int32) : gMi l E yX9_has cX9_has 5 .int (gRm 5 0 0) [.ref x, .int p0, .int p1, .int p2, .int p3] L f (gRO (-1000 : Int32) L f) := by
  refine gMi.intro (by decide) (Nat.le_of_ble_eq_true rfl) ?_
  intro p e s m below meth c A ls C hr hA hH hl
  have C : gC E cX9_has 5 RX9 p s m _ meth c := C
  have hl : lv_has ls 5 [(0, .ref x), (1, .int p0), (2, .int p1), (3, .int p2), (4, .int p3)] := hl
  have hx := C.1
  have hb := C.2.1
  refine lv_aload_n hx hb dX9_has_0 rfl (lv_at hl 0 rfl) ?_
  refine lv_iload_n hx hb dX9_has_1 rfl (lv_at hl 1 rfl) ?_
  refine lv_iload_n hx hb dX9_has_2 rfl (lv_at hl 2 rfl) ?_
  refine g_Vi C hl.1 hA hH (As := [.int p0, .int p1]) (rest := []) (k_areTwo l E L f mx fx mn fn p0 p1) my_X9_areTwo wd51 mx fx rfl rfl rfl (Nat.le_of_ble_eq_true rfl) ⟨Nat.le_of_ble_eq_true rfl, Nat.le_of_ble_eq_true rfl⟩ ⟨Nat.le_of_ble_eq_true rfl, Nat.le_of_ble_eq_true rfl⟩ dX9_has_3 (fun r3 L2 f1 H locs hp hH => ?_)
  obtain ⟨er3, rfl, rfl⟩ := hp
  subst er3
  refine lv_if_eq (tgt := 24) hx hb dX9_has_6 (by decide) (fun _ => ?_) (fun h => absurd (by decide) h)
  refine lv_sipush (v := (-1000 : Int32)) hx hb dX9_has_24 (by decide) ?_
  refine g_iret C hr hH (Nat.le_of_ble_eq_true rfl) (Nat.le_of_ble_eq_true rfl) dX9_has_27 ?_
  exact ⟨rfl, rfl, rfl⟩
end
section
theorem dX6_isNothing_0 : decode cX6_isNothing 0 = .ok (.aload_n 0, 1) := by decide +kernel
theorem dX6_isNothing_1 : decode cX6_isNothing 1 = .ok (.getfield 15, 3) := by decide +kernel
theorem dX6_isNothing_4 : decode cX6_isNothing 4 = .ok (.iconst (-1), 1) := by decide +kernel
theorem dX6_isNothing_5 : decode cX6_isNothing 5 = .ok (.if_icmp .ne 7, 3) := by decide +kernel
theorem dX6_isNothing_8 : decode cX6_isNothing 8 = .ok (.iconst 1, 1) := by decide +kernel
theorem dX6_isNothing_9 : decode cX6_isNothing 9 = .ok (.goto 4, 3) := by decide +kernel
theorem dX6_isNothing_13 : decode cX6_isNothing 13 = .ok (.ireturn, 1) := by decide +kernel
theorem dX8_append_0 : decode cX8_append 0 = .ok (.bipush 24, 2) := by decide +kernel
theorem dX8_append_2 : decode cX8_append 2 = .ok (.istore_n 2, 1) := by decide +kernel
theorem dX8_append_3 : decode cX8_append 3 = .ok (.iload_n 2, 1) := by decide +kernel
theorem dX8_append_4 : decode cX8_append 4 = .ok (.ifCond .lt 42, 3) := by decide +kernel
theorem dX8_append_7 : decode cX8_append 7 = .ok (.aload_n 0, 1) := by decide +kernel
theorem dX8_append_8 : decode cX8_append 8 = .ok (.getfield 15, 3) := by decide +kernel
theorem dX8_append_11 : decode cX8_append 11 = .ok (.sipush 800, 3) := by decide +kernel
theorem dX8_append_14 : decode cX8_append 14 = .ok (.if_icmp .ge 32, 3) := by decide +kernel
theorem dX8_append_17 : decode cX8_append 17 = .ok (.aload_n 0, 1) := by decide +kernel
theorem dX8_append_18 : decode cX8_append 18 = .ok (.getfield 9, 3) := by decide +kernel
theorem dX8_append_21 : decode cX8_append 21 = .ok (.aload_n 0, 1) := by decide +kernel
theorem dX8_append_22 : decode cX8_append 22 = .ok (.getfield 15, 3) := by decide +kernel
theorem dX8_append_25 : decode cX8_append 25 = .ok (.iload_n 1, 1) := by decide +kernel
theorem dX8_append_26 : decode cX8_append 26 = .ok (.iload_n 2, 1) := by decide +kernel
theorem dX8_append_27 : decode cX8_append 27 = .ok (.ishr, 1) := by decide +kernel
theorem dX8_append_28 : decode cX8_append 28 = .ok (.i2b, 1) := by decide +kernel
theorem dX8_append_29 : decode cX8_append 29 = .ok (.bastore, 1) := by decide +kernel
theorem dX8_append_30 : decode cX8_append 30 = .ok (.aload_n 0, 1) := by decide +kernel
theorem dX8_append_31 : decode cX8_append 31 = .ok (.dup, 1) := by decide +kernel
theorem dX8_append_32 : decode cX8_append 32 = .ok (.getfield 15, 3) := by decide +kernel
theorem dX8_append_35 : decode cX8_append 35 = .ok (.iconst 1, 1) := by decide +kernel
theorem dX8_append_36 : decode cX8_append 36 = .ok (.iadd, 1) := by decide +kernel
theorem dX8_append_37 : decode cX8_append 37 = .ok (.putfield 15, 3) := by decide +kernel
theorem dX8_append_40 : decode cX8_append 40 = .ok (.iinc 2 (-8), 3) := by decide +kernel
theorem dX8_append_43 : decode cX8_append 43 = .ok (.goto (-40), 3) := by decide +kernel
theorem dX8_append_46 : decode cX8_append 46 = .ok (.return_, 1) := by decide +kernel
theorem dX9_count_0 : decode cX9_count 0 = .ok (.iload_n 1, 1) := by decide +kernel
theorem dX9_count_1 : decode cX9_count 1 = .ok (.tableswitch 156 0 11 #[63, 71, 79, 87, 95, 103, 111, 119, 127, 135, 143, 151], 63) := by decide +kernel
theorem dX9_count_64 : decode cX9_count 64 = .ok (.aload_n 0, 1) := by decide +kernel
theorem dX9_count_65 : decode cX9_count 65 = .ok (.getfield 19, 3) := by decide +kernel
theorem dX9_count_68 : decode cX9_count 68 = .ok (.getfield 380, 3) := by decide +kernel
theorem dX9_count_71 : decode cX9_count 71 = .ok (.ireturn, 1) := by decide +kernel
theorem dX9_count_72 : decode cX9_count 72 = .ok (.aload_n 0, 1) := by decide +kernel
theorem dX9_count_73 : decode cX9_count 73 = .ok (.getfield 19, 3) := by decide +kernel
theorem dX9_count_76 : decode cX9_count 76 = .ok (.getfield 383, 3) := by decide +kernel
theorem dX9_count_79 : decode cX9_count 79 = .ok (.ireturn, 1) := by decide +kernel
theorem dX9_count_80 : decode cX9_count 80 = .ok (.aload_n 0, 1) := by decide +kernel
theorem dX9_count_81 : decode cX9_count 81 = .ok (.getfield 19, 3) := by decide +kernel
theorem dX9_count_84 : decode cX9_count 84 = .ok (.getfield 195, 3) := by decide +kernel
theorem dX9_count_87 : decode cX9_count 87 = .ok (.ireturn, 1) := by decide +kernel
theorem dX9_count_88 : decode cX9_count 88 = .ok (.aload_n 0, 1) := by decide +kernel
theorem dX9_count_89 : decode cX9_count 89 = .ok (.getfield 19, 3) := by decide +kernel
theorem dX9_count_92 : decode cX9_count 92 = .ok (.getfield 386, 3) := by decide +kernel
theorem dX9_count_95 : decode cX9_count 95 = .ok (.ireturn, 1) := by decide +kernel
theorem dX9_count_96 : decode cX9_count 96 = .ok (.aload_n 0, 1) := by decide +kernel
theorem dX9_count_97 : decode cX9_count 97 = .ok (.getfield 19, 3) := by decide +kernel
theorem dX9_count_100 : decode cX9_count 100 = .ok (.getfield 389, 3) := by decide +kernel
theorem dX9_count_103 : decode cX9_count 103 = .ok (.ireturn, 1) := by decide +kernel
theorem dX9_count_104 : decode cX9_count 104 = .ok (.aload_n 0, 1) := by decide +kernel
theorem dX9_count_105 : decode cX9_count 105 = .ok (.getfield 19, 3) := by decide +kernel
theorem dX9_count_108 : decode cX9_count 108 = .ok (.invokevirtual 192, 3) := by decide +kernel
theorem dX9_count_111 : decode cX9_count 111 = .ok (.ireturn, 1) := by decide +kernel
theorem dX9_count_112 : decode cX9_count 112 = .ok (.aload_n 0, 1) := by decide +kernel
theorem dX9_count_113 : decode cX9_count 113 = .ok (.getfield 19, 3) := by decide +kernel
theorem dX9_count_116 : decode cX9_count 116 = .ok (.getfield 210, 3) := by decide +kernel
theorem dX9_count_119 : decode cX9_count 119 = .ok (.ireturn, 1) := by decide +kernel
theorem dX9_count_120 : decode cX9_count 120 = .ok (.aload_n 0, 1) := by decide +kernel
theorem dX9_count_121 : decode cX9_count 121 = .ok (.getfield 19, 3) := by decide +kernel
theorem dX9_count_124 : decode cX9_count 124 = .ok (.getfield 216, 3) := by decide +kernel
theorem dX9_count_127 : decode cX9_count 127 = .ok (.ireturn, 1) := by decide +kernel
theorem dX9_count_128 : decode cX9_count 128 = .ok (.aload_n 0, 1) := by decide +kernel
theorem dX9_count_129 : decode cX9_count 129 = .ok (.getfield 19, 3) := by decide +kernel
theorem dX9_count_132 : decode cX9_count 132 = .ok (.getfield 359, 3) := by decide +kernel
theorem dX9_count_135 : decode cX9_count 135 = .ok (.ireturn, 1) := by decide +kernel
theorem dX9_count_136 : decode cX9_count 136 = .ok (.aload_n 0, 1) := by decide +kernel
theorem dX9_count_137 : decode cX9_count 137 = .ok (.getfield 19, 3) := by decide +kernel
theorem dX9_count_140 : decode cX9_count 140 = .ok (.getfield 107, 3) := by decide +kernel
theorem dX9_count_143 : decode cX9_count 143 = .ok (.ireturn, 1) := by decide +kernel
theorem dX9_count_144 : decode cX9_count 144 = .ok (.aload_n 0, 1) := by decide +kernel
theorem dX9_count_145 : decode cX9_count 145 = .ok (.getfield 10, 3) := by decide +kernel
theorem dX9_count_148 : decode cX9_count 148 = .ok (.getfield 86, 3) := by decide +kernel
theorem dX9_count_151 : decode cX9_count 151 = .ok (.ireturn, 1) := by decide +kernel
theorem dX9_count_152 : decode cX9_count 152 = .ok (.aload_n 0, 1) := by decide +kernel
theorem dX9_count_153 : decode cX9_count 153 = .ok (.invokevirtual 392, 3) := by decide +kernel
theorem dX9_count_156 : decode cX9_count 156 = .ok (.ireturn, 1) := by decide +kernel
theorem dX9_count_157 : decode cX9_count 157 = .ok (.iconst (-1), 1) := by decide +kernel
theorem dX9_count_158 : decode cX9_count 158 = .ok (.ireturn, 1) := by decide +kernel
theorem dX9_end_0 : decode cX9_end 0 = .ok (.iload_n 1, 1) := by decide +kernel
theorem dX9_end_1 : decode cX9_end 1 = .ok (.ifCond .lt 14, 3) := by decide +kernel
theorem dX9_end_4 : decode cX9_end 4 = .ok (.iload_n 1, 1) := by decide +kernel
theorem dX9_end_5 : decode cX9_end 5 = .ok (.aload_n 0, 1) := by decide +kernel
theorem dX9_end_6 : decode cX9_end 6 = .ok (.getfield 10, 3) := by decide +kernel
theorem dX9_end_9 : decode cX9_end 9 = .ok (.getfield 86, 3) := by decide +kernel
theorem dX9_end_12 : decode cX9_end 12 = .ok (.if_icmp .le 5, 3) := by decide +kernel
theorem dX9_end_15 : decode cX9_end 15 = .ok (.iconst (-1), 1) := by decide +kernel
theorem dX9_end_16 : decode cX9_end 16 = .ok (.ireturn, 1) := by decide +kernel
theorem dX9_end_17 : decode cX9_end 17 = .ok (.aload_n 0, 1) := by decide +kernel
theorem dX9_end_18 : decode cX9_end 18 = .ok (.getfield 10, 3) := by decide +kernel
theorem dX9_end_21 : decode cX9_end 21 = .ok (.iload_n 1, 1) := by decide +kernel
theorem dX9_end_22 : decode cX9_end 22 = .ok (.putfield 86, 3) := by decide +kernel
theorem dX9_end_25 : decode cX9_end 25 = .ok (.iload_n 1, 1) := by decide +kernel
theorem dX9_end_26 : decode cX9_end 26 = .ok (.ireturn, 1) := by decide +kernel
theorem dX9_fault_0 : decode cX9_fault 0 = .ok (.iload_n 1, 1) := by decide +kernel
theorem dX9_fault_1 : decode cX9_fault 1 = .ok (.ifCond .ne 11, 3) := by decide +kernel
theorem dX9_fault_4 : decode cX9_fault 4 = .ok (.aload_n 0, 1) := by decide +kernel
theorem dX9_fault_5 : decode cX9_fault 5 = .ok (.getfield 28, 3) := by decide +kernel
theorem dX9_fault_8 : decode cX9_fault 8 = .ok (.getfield 110, 3) := by decide +kernel
theorem dX9_fault_11 : decode cX9_fault 11 = .ok (.ireturn, 1) := by decide +kernel
theorem dX9_fault_12 : decode cX9_fault 12 = .ok (.iload_n 1, 1) := by decide +kernel
theorem dX9_fault_13 : decode cX9_fault 13 = .ok (.iconst 1, 1) := by decide +kernel
theorem dX9_fault_14 : decode cX9_fault 14 = .ok (.if_icmp .ne 13, 3) := by decide +kernel
theorem dX9_fault_17 : decode cX9_fault 17 = .ok (.aload_n 0, 1) := by decide +kernel
theorem dX9_fault_18 : decode cX9_fault 18 = .ok (.getfield 28, 3) := by decide +kernel
theorem dX9_fault_21 : decode cX9_fault 21 = .ok (.getfield 113, 3) := by decide +kernel
theorem dX9_fault_24 : decode cX9_fault 24 = .ok (.goto 4, 3) := by decide +kernel
theorem dX9_fault_27 : decode cX9_fault 27 = .ok (.iconst (-1), 1) := by decide +kernel
theorem dX9_fault_28 : decode cX9_fault 28 = .ok (.ireturn, 1) := by decide +kernel
theorem dX9_feed_0 : decode cX9_feed 0 = .ok (.aload_n 0, 1) := by decide +kernel
theorem dX9_feed_1 : decode cX9_feed 1 = .ok (.getfield 10, 3) := by decide +kernel
theorem dX9_feed_4 : decode cX9_feed 4 = .ok (.getfield 86, 3) := by decide +kernel
theorem dX9_feed_7 : decode cX9_feed 7 = .ok (.bipush 20, 2) := by decide +kernel
theorem dX9_feed_9 : decode cX9_feed 9 = .ok (.iadd, 1) := by decide +kernel
theorem dX9_feed_10 : decode cX9_feed 10 = .ok (.sipush 800, 3) := by decide +kernel
theorem dX9_feed_13 : decode cX9_feed 13 = .ok (.if_icmp .le 5, 3) := by decide +kernel
theorem dX9_feed_18 : decode cX9_feed 18 = .ok (.aload_n 0, 1) := by decide +kernel
theorem dX9_feed_19 : decode cX9_feed 19 = .ok (.getfield 10, 3) := by decide +kernel
theorem dX9_feed_22 : decode cX9_feed 22 = .ok (.iload_n 1, 1) := by decide +kernel
theorem dX9_feed_23 : decode cX9_feed 23 = .ok (.invokevirtual 90, 3) := by decide +kernel
theorem dX9_feed_26 : decode cX9_feed 26 = .ok (.aload_n 0, 1) := by decide +kernel
theorem dX9_feed_27 : decode cX9_feed 27 = .ok (.getfield 10, 3) := by decide +kernel
theorem dX9_feed_30 : decode cX9_feed 30 = .ok (.iload_n 2, 1) := by decide +kernel
theorem dX9_feed_31 : decode cX9_feed 31 = .ok (.invokevirtual 90, 3) := by decide +kernel
theorem dX9_feed_34 : decode cX9_feed 34 = .ok (.aload_n 0, 1) := by decide +kernel
theorem dX9_feed_35 : decode cX9_feed 35 = .ok (.getfield 10, 3) := by decide +kernel
theorem dX9_feed_38 : decode cX9_feed 38 = .ok (.iload_n 3, 1) := by decide +kernel
theorem dX9_feed_39 : decode cX9_feed 39 = .ok (.invokevirtual 90, 3) := by decide +kernel
theorem dX9_feed_42 : decode cX9_feed 42 = .ok (.aload_n 0, 1) := by decide +kernel
theorem dX9_feed_43 : decode cX9_feed 43 = .ok (.getfield 10, 3) := by decide +kernel
theorem dX9_feed_46 : decode cX9_feed 46 = .ok (.iload 4, 2) := by decide +kernel
theorem dX9_feed_48 : decode cX9_feed 48 = .ok (.invokevirtual 90, 3) := by decide +kernel
theorem dX9_feed_51 : decode cX9_feed 51 = .ok (.aload_n 0, 1) := by decide +kernel
theorem dX9_feed_52 : decode cX9_feed 52 = .ok (.getfield 10, 3) := by decide +kernel
theorem dX9_feed_55 : decode cX9_feed 55 = .ok (.iload 5, 2) := by decide +kernel
theorem dX9_feed_57 : decode cX9_feed 57 = .ok (.invokevirtual 90, 3) := by decide +kernel
theorem dX9_feed_60 : decode cX9_feed 60 = .ok (.aload_n 0, 1) := by decide +kernel
theorem dX9_feed_61 : decode cX9_feed 61 = .ok (.getfield 10, 3) := by decide +kernel
theorem dX9_feed_64 : decode cX9_feed 64 = .ok (.getfield 86, 3) := by decide +kernel
theorem dX9_feed_67 : decode cX9_feed 67 = .ok (.ireturn, 1) := by decide +kernel
theorem dX9_paste_0 : decode cX9_paste 0 = .ok (.iload_n 1, 1) := by decide +kernel
theorem dX9_paste_1 : decode cX9_paste 1 = .ok (.invokestatic 395, 3) := by decide +kernel
theorem dX9_paste_4 : decode cX9_paste 4 = .ok (.ifCond .eq 10, 3) := by decide +kernel
theorem dX9_paste_7 : decode cX9_paste 7 = .ok (.iload_n 3, 1) := by decide +kernel
theorem dX9_paste_8 : decode cX9_paste 8 = .ok (.invokestatic 395, 3) := by decide +kernel
theorem dX9_paste_11 : decode cX9_paste 11 = .ok (.ifCond .ne 6, 3) := by decide +kernel
theorem dX9_paste_14 : decode cX9_paste 14 = .ok (.bipush (-2), 2) := by decide +kernel
theorem dX9_paste_16 : decode cX9_paste 16 = .ok (.ireturn, 1) := by decide +kernel
theorem dX9_paste_17 : decode cX9_paste 17 = .ok (.aload_n 0, 1) := by decide +kernel
theorem dX9_paste_18 : decode cX9_paste 18 = .ok (.getfield 38, 3) := by decide +kernel
theorem dX9_paste_21 : decode cX9_paste 21 = .ok (.iload_n 1, 1) := by decide +kernel
theorem dX9_paste_22 : decode cX9_paste 22 = .ok (.aaload, 1) := by decide +kernel
theorem dX9_paste_23 : decode cX9_paste 23 = .ok (.astore 6, 2) := by decide +kernel
theorem dX9_paste_25 : decode cX9_paste 25 = .ok (.aload_n 0, 1) := by decide +kernel
theorem dX9_paste_26 : decode cX9_paste 26 = .ok (.getfield 38, 3) := by decide +kernel
theorem dX9_paste_29 : decode cX9_paste 29 = .ok (.iload_n 3, 1) := by decide +kernel
theorem dX9_paste_30 : decode cX9_paste 30 = .ok (.aaload, 1) := by decide +kernel
theorem dX9_paste_31 : decode cX9_paste 31 = .ok (.astore 7, 2) := by decide +kernel
theorem dX9_paste_33 : decode cX9_paste 33 = .ok (.aload 6, 2) := by decide +kernel
theorem dX9_paste_35 : decode cX9_paste 35 = .ok (.invokevirtual 402, 3) := by decide +kernel
theorem dX9_paste_38 : decode cX9_paste 38 = .ok (.ifCond .ne 11, 3) := by decide +kernel
theorem dX9_paste_49 : decode cX9_paste 49 = .ok (.bipush (-6), 2) := by decide +kernel
theorem dX9_paste_51 : decode cX9_paste 51 = .ok (.ireturn, 1) := by decide +kernel
theorem dX9_rowsHad_0 : decode cX9_rowsHad 0 = .ok (.iconst 0, 1) := by decide +kernel
theorem dX9_rowsHad_1 : decode cX9_rowsHad 1 = .ok (.istore_n 1, 1) := by decide +kernel
theorem dX9_rowsHad_2 : decode cX9_rowsHad 2 = .ok (.iconst 0, 1) := by decide +kernel
theorem dX9_rowsHad_3 : decode cX9_rowsHad 3 = .ok (.istore_n 2, 1) := by decide +kernel
theorem dX9_rowsHad_4 : decode cX9_rowsHad 4 = .ok (.iload_n 2, 1) := by decide +kernel
theorem dX9_rowsHad_5 : decode cX9_rowsHad 5 = .ok (.iconst 4, 1) := by decide +kernel
theorem dX9_rowsHad_6 : decode cX9_rowsHad 6 = .ok (.if_icmp .ge 24, 3) := by decide +kernel
theorem dX9_rowsHad_9 : decode cX9_rowsHad 9 = .ok (.aload_n 0, 1) := by decide +kernel
theorem dX9_rowsHad_10 : decode cX9_rowsHad 10 = .ok (.getfield 38, 3) := by decide +kernel
theorem dX9_rowsHad_13 : decode cX9_rowsHad 13 = .ok (.iload_n 2, 1) := by decide +kernel
theorem dX9_rowsHad_14 : decode cX9_rowsHad 14 = .ok (.aaload, 1) := by decide +kernel
theorem dX9_rowsHad_15 : decode cX9_rowsHad 15 = .ok (.invokevirtual 402, 3) := by decide +kernel
theorem dX9_rowsHad_18 : decode cX9_rowsHad 18 = .ok (.ifCond .ne 6, 3) := by decide +kernel
theorem dX9_rowsHad_24 : decode cX9_rowsHad 24 = .ok (.iinc 2 1, 3) := by decide +kernel
theorem dX9_rowsHad_27 : decode cX9_rowsHad 27 = .ok (.goto (-23), 3) := by decide +kernel
theorem dX9_rowsHad_30 : decode cX9_rowsHad 30 = .ok (.iload_n 1, 1) := by decide +kernel
theorem dX9_rowsHad_31 : decode cX9_rowsHad 31 = .ok (.ireturn, 1) := by decide +kernel
theorem dX9_write_0 : decode cX9_write 0 = .ok (.iload_n 1, 1) := by decide +kernel
theorem dX9_write_1 : decode cX9_write 1 = .ok (.invokestatic 395, 3) := by decide +kernel
theorem dX9_write_4 : decode cX9_write 4 = .ok (.ifCond .ne 6, 3) := by decide +kernel
theorem dX9_write_7 : decode cX9_write 7 = .ok (.bipush (-2), 2) := by decide +kernel
theorem dX9_write_9 : decode cX9_write 9 = .ok (.ireturn, 1) := by decide +kernel
theorem dX9_write_10 : decode cX9_write 10 = .ok (.aload_n 0, 1) := by decide +kernel
theorem dX9_write_11 : decode cX9_write 11 = .ok (.getfield 38, 3) := by decide +kernel
theorem dX9_write_14 : decode cX9_write 14 = .ok (.iload_n 1, 1) := by decide +kernel
theorem dX9_write_15 : decode cX9_write 15 = .ok (.aaload, 1) := by decide +kernel
theorem dX9_write_16 : decode cX9_write 16 = .ok (.astore 5, 2) := by decide +kernel
theorem dX9_write_18 : decode cX9_write 18 = .ok (.aload 5, 2) := by decide +kernel
theorem dX9_write_20 : decode cX9_write 20 = .ok (.invokevirtual 402, 3) := by decide +kernel
theorem dX9_write_23 : decode cX9_write 23 = .ok (.ifCond .eq 6, 3) := by decide +kernel
theorem dX9_write_26 : decode cX9_write 26 = .ok (.bipush (-6), 2) := by decide +kernel
theorem dX9_write_28 : decode cX9_write 28 = .ok (.ireturn, 1) := by decide +kernel
theorem wd52 : Cond.fieldLink RX8 15 "GooseShares$Tape" "length" "I" ∈ gW := gm (tm_1 37 (by decide +kernel)) rfl
theorem wd53 : Cond.fieldLink RX8 9 "GooseShares$Tape" "bytes" "[B" ∈ gW := gm (tm_1 34 (by decide +kernel)) rfl
theorem wd54 : Cond.fieldLink RX9 10 "GooseShares" "tape" "LGooseShares$Tape;" ∈ gW := gm (tm_2 98 (by decide +kernel)) rfl
theorem wd55 : Cond.fieldLink RX9 86 "GooseShares$Tape" "length" "I" ∈ gW := gm (tm_1 36 (by decide +kernel)) rfl
theorem wd56 : Cond.instanceMethod yX8_append ∈ gW := gm (tm_2 137 (by decide +kernel)) rfl
theorem wd57 : Cond.selects RX8 yX8_append yX8_append ∈ gW := gm (tm_2 138 (by decide +kernel)) rfl
theorem wd58 : Cond.initialized RX8 ∈ gW := gm (tm_1 2 (by decide +kernel)) rfl
theorem wd59 : Cond.code yX8_append cX8_append 3 none ∈ gW := gm (tm_2 139 (by decide +kernel)) rfl
theorem wd60 : Cond.methodLink RX9 90 yX8_append ∈ gW := gm (tm_2 136 (by decide +kernel)) rfl
theorem wd61 : Cond.fieldLink RX9 28 "GooseShares" "reader" "LGooseShares$Reader;" ∈ gW := gm (tm_2 100 (by decide +kernel)) rfl
theorem wd62 : Cond.fieldLink RX9 113 "GooseShares$Reader" "where" "I" ∈ gW := gm (tm_1 183 (by decide +kernel)) rfl
theorem wd63 : Cond.fieldLink RX9 110 "GooseShares$Reader" "trouble" "I" ∈ gW := gm (tm_1 181 (by decide +kernel)) rfl
theorem wd64 : Cond.fieldLink RX6 15 "GooseShares$Row" "width" "I" ∈ gW := gm (tm_2 84 (by decide +kernel)) rfl
theorem wd65 : Cond.fieldLink RX9 38 "GooseShares" "rows" "[LGooseShares$Row;" ∈ gW := gm (tm_2 102 (by decide +kernel)) rfl
theorem wd66 : Cond.instanceMethod yX6_isNothing ∈ gW := gm (tm_4 183 (by decide +kernel)) rfl
theorem wd67 : Cond.selects RX6 yX6_isNothing yX6_isNothing ∈ gW := gm (tm_4 184 (by decide +kernel)) rfl
theorem wd68 : Cond.initialized RX6 ∈ gW := gm (tm_1 10 (by decide +kernel)) rfl
theorem wd69 : Cond.code yX6_isNothing cX6_isNothing 1 (some .boolean) ∈ gW := gm (tm_4 185 (by decide +kernel)) rfl
theorem wd70 : Cond.methodLink RX9 402 yX6_isNothing ∈ gW := gm (tm_4 182 (by decide +kernel)) rfl
theorem wd71 : Cond.fieldLink RX9 380 "GooseShares$Land" "wide" "I" ∈ gW := gm (tm_1 56 (by decide +kernel)) rfl
theorem wd72 : Cond.fieldLink RX9 383 "GooseShares$Land" "high" "I" ∈ gW := gm (tm_1 59 (by decide +kernel)) rfl
theorem wd73 : Cond.fieldLink RX9 195 "GooseShares$Land" "law" "I" ∈ gW := gm (tm_1 66 (by decide +kernel)) rfl
theorem wd74 : Cond.fieldLink RX9 386 "GooseShares$Land" "ear" "I" ∈ gW := gm (tm_1 69 (by decide +kernel)) rfl
theorem wd75 : Cond.fieldLink RX9 389 "GooseShares$Land" "odds" "I" ∈ gW := gm (tm_1 73 (by decide +kernel)) rfl
theorem wd76 : Cond.methodLink RX9 192 yX3_cells ∈ gW := gm (tm_3 206 (by decide +kernel)) rfl
theorem wd77 : Cond.fieldLink RX9 210 "GooseShares$Land" "flights" "I" ∈ gW := gm (tm_1 79 (by decide +kernel)) rfl
theorem wd78 : Cond.fieldLink RX9 216 "GooseShares$Land" "members" "I" ∈ gW := gm (tm_1 86 (by decide +kernel)) rfl
theorem wd79 : Cond.fieldLink RX9 359 "GooseShares$Land" "acts" "I" ∈ gW := gm (tm_1 94 (by decide +kernel)) rfl
theorem wd80 : Cond.fieldLink RX9 107 "GooseShares$Land" "lines" "I" ∈ gW := gm (tm_1 53 (by decide +kernel)) rfl
theorem wd81 : Cond.instanceMethod yX9_rowsHad ∈ gW := gm (tm_6 39 (by decide +kernel)) rfl
theorem wd82 : Cond.selects RX9 yX9_rowsHad yX9_rowsHad ∈ gW := gm (gmP 15 (by decide +kernel)) rfl
theorem wd83 : Cond.code yX9_rowsHad cX9_rowsHad 3 (some .int) ∈ gW := gm (tm_6 40 (by decide +kernel)) rfl
theorem wd84 : Cond.methodLink RX9 392 yX9_rowsHad ∈ gW := gm (tm_6 37 (by decide +kernel)) rfl
theorem my_X8_append : gWV RX8 yX8_append cX8_append 3 none 1 := ⟨⟨wd56, wd57, wd58, wd59⟩, ⟨rfl, by decide +kernel, by decide +kernel, by decide +kernel⟩⟩
theorem my_X6_isNothing : gWV RX6 yX6_isNothing cX6_isNothing 1 (some .boolean) 0 := ⟨⟨wd66, wd67, wd68, wd69⟩, ⟨rfl, by decide +kernel, by decide +kernel, by decide +kernel⟩⟩
theorem my_X9_rowsHad : gWV RX9 yX9_rowsHad cX9_rowsHad 3 (some .int) 0 := ⟨⟨wd81, wd82, wd15, wd83⟩, ⟨rfl, by decide +kernel, by decide +kernel, by decide +kernel⟩⟩
end
section
def gEnd (z : Int32) : Int32 := if z < 0 then -1 else if z ≤ 0 then z else -1
def gFault (z : Int32) : Int32 := if z = 0 then 0 else -1
def gCount (z : Int32) : Int32 := if z.toInt < 0 ∨ 11 < z.toInt then -1 else 0
def gWrite (z : Int32) : Int32 := if gSlot z = 0 then -2 else -6
def gPaste (z t : Int32) : Int32 := if gSlot z = 0 then -2 else if gSlot t = 0 then -2 else -6
def gRow (z w n : Int32) : Int32 := if gSlot z = 0 then -2 else if w < 0 then -2 else if 4 ≤ w then -2 else if n ≤ 60 then (if 0 ≤ n then 0 else -3) else -2
def gImage (k : Int32) : Int32 := if k < 0 then -2 else if k < 3 then 0 else -2
def gBack (k : Int32) : Int32 := if k < 0 then -2 else if k < 3 then -6 else -2
def gRows (E : gE) (L : List Nat) (f : gF) (wv : Nat → Option Nat) : Prop := ∀ k, k < 4 → ∃ (q nu : Nat) (u : Nat → Int64), wv k = some q ∧ q ∈ L ∧ f q = .inr (6, [.ref nu, .int (-1), .int 0]) ∧ nu ∈ L ∧ f nu = .inl (E.2.2 2, 60, .inr (.inl u))
theorem vp_lt {i : Int32} {n : Nat} (h : vp_in i n) : i.toNatClampNeg < n := Nat.not_le.mp fun q => h (Or.inr q)
theorem gSlot_in {z : Int32} (h : ¬ gSlot z = 0) : vp_in z 4 := by
  unfold gSlot at h
  split at h
  · exact absurd rfl h
  · split at h
    · exact absurd rfl h
    · next h1 h2 => exact vp_inL (by rw [fa_lt] at h1; rw [fa_le] at h2; have e0 : (0 : Int32).toInt = 0 := by decide
                                     have e4 : (4 : Int32).toInt = 4 := by decide
                                     omega)
set_option maxHeartbeats 4000000 in
set_option maxRecDepth 100000 in
theorem k_append0 (l : Launch) (E : gE) (L : List Nat) (f : gF) {xt xb : Nat} {v : Nat → Int32} (mt : xt ∈ L) (ft : f xt = .inr (8, [.ref xb, .int (0 : Int32)])) (mb : xb ∈ L) (fb : f xb = .inl (E.2.2 0, 800, .inl v)) (p0 : Int32) : gMv l E yX8_append cX8_append 3 (gRm 1 0 0) [.ref xt, .int p0] L f (fun L1 f1 => L = L1 ∧ f1 xt = .inr (8, [.ref xb, .int (4 : Int32)]) ∧ (∃ z, f1 xb = .inl (E.2.2 0, 800, .inl z)) ∧ ∀ b, b ≠ xt → b ≠ xb → f1 b = f b) := by
  refine gMv.intro (by decide) (Nat.le_of_ble_eq_true rfl) ?_
  intro p e s m below meth c A ls C hr hnm hA hH hl
  have C : gC E cX8_append 3 RX8 p s m _ meth c := C
  have hl : lv_has ls 3 [(0, .ref xt), (1, .int p0)] := hl
  have hx := C.1
  have hb := C.2.1
  refine lv_bipush (v := (24 : Int32)) hx hb dX8_append_0 (by decide) ?_
  refine lv_istore_n (lv' := [(2, .int (24 : Int32)), (0, .ref xt), (1, .int p0)]) hx hb dX8_append_2 rfl hl (by decide) rfl (fun ls hl => ?_)
  refine lv_iload_n hx hb dX8_append_3 rfl (lv_at hl 0 rfl) ?_
  refine lv_if_lt (tgt := 46) hx hb dX8_append_4 (by decide) (fun h => absurd h (by decide)) (fun _ => ?_)
  refine lv_aload_n hx hb dX8_append_7 rfl (lv_at hl 1 rfl) ?_
  refine g_get C hH mt ft iX8 rfl 1 (by decide) wd52 rfl rfl dX8_append_8 ?_
  refine lv_sipush (v := (800 : Int32)) hx hb dX8_append_11 (by decide) ?_
  refine lv_icmp_ge (tgt := 46) hx hb dX8_append_14 (by decide) (fun h => absurd h (by decide)) (fun _ => ?_)
  refine lv_aload_n hx hb dX8_append_17 rfl (lv_at hl 1 rfl) ?_
  refine g_get C hH mt ft iX8 rfl 0 (by decide) wd53 rfl rfl dX8_append_18 ?_
  refine lv_aload_n hx hb dX8_append_21 rfl (lv_at hl 1 rfl) ?_
  refine g_get C hH mt ft iX8 rfl 1 (by decide) wd52 rfl rfl dX8_append_22 ?_
  refine lv_iload_n hx hb dX8_append_25 rfl (lv_at hl 2 rfl) ?_
  refine lv_iload_n hx hb dX8_append_26 rfl (lv_at hl 0 rfl) ?_
  refine lv_ishr hx hb dX8_append_27 ?_
  refine lv_topi (fun z1 ez1 => ?_)
  refine lv_i2b (v := (z1).toInt8.toInt32) hx hb dX8_append_28 rfl ?_
  refine g_bast C hH mb fb (vp_inL (by decide)) dX8_append_29 (fun H locs hH => ?_)
  obtain ⟨f2, ef2⟩ : ∃ z : gF, z = va_up f xb (.inl (E.2.2 0, 800, .inl (upd v ((0 : Int32)).toNatClampNeg (vp_nar .byte ((z1).toInt8.toInt32))))) := ⟨_, rfl⟩
  have hH : gH E A L f2 s.heap H locs := by rw [ef2]; exact hH
  have h3 : f2 xb = .inl (E.2.2 0, 800, .inl (upd v ((0 : Int32)).toNatClampNeg (vp_nar .byte ((z1).toInt8.toInt32)))) := (congrFun ef2 xb).trans (va_up_self _ _ _)
  refine lv_aload_n hx hb dX8_append_30 rfl (lv_at hl 1 rfl) ?_
  refine lv_dup hx hb dX8_append_31 rfl ?_
  have h4 : f2 xt = .inr (8, [.ref xb, .int (0 : Int32)]) := ((congrFun ef2 xt).trans (va_up_ne _ _ (g_neOA ft fb))).trans ft
  refine g_get C hH mt h4 iX8 rfl 1 (by decide) wd52 rfl rfl dX8_append_32 ?_
  refine lv_iconst (v := (1 : Int32)) hx hb dX8_append_35 (by decide) ?_
  refine lv_iadd hx hb dX8_append_36 ?_
  refine lv_topi (fun z5 ez5 => ?_)
  obtain rfl : z5 = (1 : Int32) := ez5.trans (by decide)
  refine g_put C hH mt h4 iX8 tyX8 tyX8_ok nmX8 rfl 1 (by decide) wd52 rfl rfl rfl rfl (Nat.le_of_ble_eq_true rfl) (fs' := [.ref xb, .int (1 : Int32)]) rfl dX8_append_37 (fun H locs hH => ?_)
  obtain ⟨f6, ef6⟩ : ∃ z : gF, z = va_up f2 xt (.inr (8, [.ref xb, .int (1 : Int32)])) := ⟨_, rfl⟩
  have hH : gH E A L f6 s.heap H locs := by rw [ef6]; exact hH
  have h7 : f6 xt = .inr (8, [.ref xb, .int (1 : Int32)]) := (congrFun ef6 xt).trans (va_up_self _ _ _)
  refine lv_iinc (v := (16 : Int32)) (lv' := [(2, .int (16 : Int32)), (0, .ref xt), (1, .int p0)]) hx hb dX8_append_40 hl (k := 0) rfl (by decide) (by decide) rfl (fun ls hl => ?_)
  refine lv_goto (tgt := 3) hx hb dX8_append_43 (by decide) ?_
  refine lv_iload_n hx hb dX8_append_3 rfl (lv_at hl 0 rfl) ?_
  refine lv_if_lt (tgt := 46) hx hb dX8_append_4 (by decide) (fun h => absurd h (by decide)) (fun _ => ?_)
  refine lv_aload_n hx hb dX8_append_7 rfl (lv_at hl 1 rfl) ?_
  refine g_get C hH mt h7 iX8 rfl 1 (by decide) wd52 rfl rfl dX8_append_8 ?_
  refine lv_sipush (v := (800 : Int32)) hx hb dX8_append_11 (by decide) ?_
  refine lv_icmp_ge (tgt := 46) hx hb dX8_append_14 (by decide) (fun h => absurd h (by decide)) (fun _ => ?_)
  refine lv_aload_n hx hb dX8_append_17 rfl (lv_at hl 1 rfl) ?_
  refine g_get C hH mt h7 iX8 rfl 0 (by decide) wd53 rfl rfl dX8_append_18 ?_
  refine lv_aload_n hx hb dX8_append_21 rfl (lv_at hl 1 rfl) ?_
  refine g_get C hH mt h7 iX8 rfl 1 (by decide) wd52 rfl rfl dX8_append_22 ?_
  refine lv_iload_n hx hb dX8_append_25 rfl (lv_at hl 2 rfl) ?_
  refine lv_iload_n hx hb dX8_append_26 rfl (lv_at hl 0 rfl) ?_
  refine lv_ishr hx hb dX8_append_27 ?_
  refine lv_topi (fun z8 ez8 => ?_)
  refine lv_i2b (v := (z8).toInt8.toInt32) hx hb dX8_append_28 rfl ?_
  have h9 : f6 xb = .inl (E.2.2 0, 800, .inl (upd v ((0 : Int32)).toNatClampNeg (vp_nar .byte ((z1).toInt8.toInt32)))) := ((congrFun ef6 xb).trans (va_up_ne _ _ (g_neAO h3 h4))).trans h3
  refine g_bast C hH mb h9 (vp_inL (by decide)) dX8_append_29 (fun H locs hH => ?_)
  obtain ⟨f10, ef10⟩ : ∃ z : gF, z = va_up f6 xb (.inl (E.2.2 0, 800, .inl (upd (upd v ((0 : Int32)).toNatClampNeg (vp_nar .byte ((z1).toInt8.toInt32))) ((1 : Int32)).toNatClampNeg (vp_nar .byte ((z8).toInt8.toInt32))))) := ⟨_, rfl⟩
  have hH : gH E A L f10 s.heap H locs := by rw [ef10]; exact hH
  have h11 : f10 xb = .inl (E.2.2 0, 800, .inl (upd (upd v ((0 : Int32)).toNatClampNeg (vp_nar .byte ((z1).toInt8.toInt32))) ((1 : Int32)).toNatClampNeg (vp_nar .byte ((z8).toInt8.toInt32)))) := (congrFun ef10 xb).trans (va_up_self _ _ _)
  refine lv_aload_n hx hb dX8_append_30 rfl (lv_at hl 1 rfl) ?_
  refine lv_dup hx hb dX8_append_31 rfl ?_
  have h12 : f10 xt = .inr (8, [.ref xb, .int (1 : Int32)]) := ((congrFun ef10 xt).trans (va_up_ne _ _ (g_neOA h7 h9))).trans h7
  refine g_get C hH mt h12 iX8 rfl 1 (by decide) wd52 rfl rfl dX8_append_32 ?_
  refine lv_iconst (v := (1 : Int32)) hx hb dX8_append_35 (by decide) ?_
  refine lv_iadd hx hb dX8_append_36 ?_
  refine lv_topi (fun z13 ez13 => ?_)
  obtain rfl : z13 = (2 : Int32) := ez13.trans (by decide)
  refine g_put C hH mt h12 iX8 tyX8 tyX8_ok nmX8 rfl 1 (by decide) wd52 rfl rfl rfl rfl (Nat.le_of_ble_eq_true rfl) (fs' := [.ref xb, .int (2 : Int32)]) rfl dX8_append_37 (fun H locs hH => ?_)
  obtain ⟨f14, ef14⟩ : ∃ z : gF, z = va_up f10 xt (.inr (8, [.ref xb, .int (2 : Int32)])) := ⟨_, rfl⟩
  have hH : gH E A L f14 s.heap H locs := by rw [ef14]; exact hH
  have h15 : f14 xt = .inr (8, [.ref xb, .int (2 : Int32)]) := (congrFun ef14 xt).trans (va_up_self _ _ _)
  refine lv_iinc (v := (8 : Int32)) (lv' := [(2, .int (8 : Int32)), (0, .ref xt), (1, .int p0)]) hx hb dX8_append_40 hl (k := 0) rfl (by decide) (by decide) rfl (fun ls hl => ?_)
  refine lv_goto (tgt := 3) hx hb dX8_append_43 (by decide) ?_
  refine lv_iload_n hx hb dX8_append_3 rfl (lv_at hl 0 rfl) ?_
  refine lv_if_lt (tgt := 46) hx hb dX8_append_4 (by decide) (fun h => absurd h (by decide)) (fun _ => ?_)
  refine lv_aload_n hx hb dX8_append_7 rfl (lv_at hl 1 rfl) ?_
  refine g_get C hH mt h15 iX8 rfl 1 (by decide) wd52 rfl rfl dX8_append_8 ?_
  refine lv_sipush (v := (800 : Int32)) hx hb dX8_append_11 (by decide) ?_
  refine lv_icmp_ge (tgt := 46) hx hb dX8_append_14 (by decide) (fun h => absurd h (by decide)) (fun _ => ?_)
  refine lv_aload_n hx hb dX8_append_17 rfl (lv_at hl 1 rfl) ?_
  refine g_get C hH mt h15 iX8 rfl 0 (by decide) wd53 rfl rfl dX8_append_18 ?_
  refine lv_aload_n hx hb dX8_append_21 rfl (lv_at hl 1 rfl) ?_
  refine g_get C hH mt h15 iX8 rfl 1 (by decide) wd52 rfl rfl dX8_append_22 ?_
  refine lv_iload_n hx hb dX8_append_25 rfl (lv_at hl 2 rfl) ?_
  refine lv_iload_n hx hb dX8_append_26 rfl (lv_at hl 0 rfl) ?_
  refine lv_ishr hx hb dX8_append_27 ?_
  refine lv_topi (fun z16 ez16 => ?_)
  refine lv_i2b (v := (z16).toInt8.toInt32) hx hb dX8_append_28 rfl ?_
  have h17 : f14 xb = .inl (E.2.2 0, 800, .inl (upd (upd v ((0 : Int32)).toNatClampNeg (vp_nar .byte ((z1).toInt8.toInt32))) ((1 : Int32)).toNatClampNeg (vp_nar .byte ((z8).toInt8.toInt32)))) := ((congrFun ef14 xb).trans (va_up_ne _ _ (g_neAO h11 h12))).trans h11
  refine g_bast C hH mb h17 (vp_inL (by decide)) dX8_append_29 (fun H locs hH => ?_)
  obtain ⟨f18, ef18⟩ : ∃ z : gF, z = va_up f14 xb (.inl (E.2.2 0, 800, .inl (upd (upd (upd v ((0 : Int32)).toNatClampNeg (vp_nar .byte ((z1).toInt8.toInt32))) ((1 : Int32)).toNatClampNeg (vp_nar .byte ((z8).toInt8.toInt32))) ((2 : Int32)).toNatClampNeg (vp_nar .byte ((z16).toInt8.toInt32))))) := ⟨_, rfl⟩
  have hH : gH E A L f18 s.heap H locs := by rw [ef18]; exact hH
  have h19 : f18 xb = .inl (E.2.2 0, 800, .inl (upd (upd (upd v ((0 : Int32)).toNatClampNeg (vp_nar .byte ((z1).toInt8.toInt32))) ((1 : Int32)).toNatClampNeg (vp_nar .byte ((z8).toInt8.toInt32))) ((2 : Int32)).toNatClampNeg (vp_nar .byte ((z16).toInt8.toInt32)))) := (congrFun ef18 xb).trans (va_up_self _ _ _)
  refine lv_aload_n hx hb dX8_append_30 rfl (lv_at hl 1 rfl) ?_
  refine lv_dup hx hb dX8_append_31 rfl ?_
  have h20 : f18 xt = .inr (8, [.ref xb, .int (2 : Int32)]) := ((congrFun ef18 xt).trans (va_up_ne _ _ (g_neOA h15 h17))).trans h15
  refine g_get C hH mt h20 iX8 rfl 1 (by decide) wd52 rfl rfl dX8_append_32 ?_
  refine lv_iconst (v := (1 : Int32)) hx hb dX8_append_35 (by decide) ?_
  refine lv_iadd hx hb dX8_append_36 ?_
  refine lv_topi (fun z21 ez21 => ?_)
  obtain rfl : z21 = (3 : Int32) := ez21.trans (by decide)
  refine g_put C hH mt h20 iX8 tyX8 tyX8_ok nmX8 rfl 1 (by decide) wd52 rfl rfl rfl rfl (Nat.le_of_ble_eq_true rfl) (fs' := [.ref xb, .int (3 : Int32)]) rfl dX8_append_37 (fun H locs hH => ?_)
  obtain ⟨f22, ef22⟩ : ∃ z : gF, z = va_up f18 xt (.inr (8, [.ref xb, .int (3 : Int32)])) := ⟨_, rfl⟩
  have hH : gH E A L f22 s.heap H locs := by rw [ef22]; exact hH
  have h23 : f22 xt = .inr (8, [.ref xb, .int (3 : Int32)]) := (congrFun ef22 xt).trans (va_up_self _ _ _)
  refine lv_iinc (v := (0 : Int32)) (lv' := [(2, .int (0 : Int32)), (0, .ref xt), (1, .int p0)]) hx hb dX8_append_40 hl (k := 0) rfl (by decide) (by decide) rfl (fun ls hl => ?_)
  refine lv_goto (tgt := 3) hx hb dX8_append_43 (by decide) ?_
  refine lv_iload_n hx hb dX8_append_3 rfl (lv_at hl 0 rfl) ?_
  refine lv_if_lt (tgt := 46) hx hb dX8_append_4 (by decide) (fun h => absurd h (by decide)) (fun _ => ?_)
  refine lv_aload_n hx hb dX8_append_7 rfl (lv_at hl 1 rfl) ?_
  refine g_get C hH mt h23 iX8 rfl 1 (by decide) wd52 rfl rfl dX8_append_8 ?_
  refine lv_sipush (v := (800 : Int32)) hx hb dX8_append_11 (by decide) ?_
  refine lv_icmp_ge (tgt := 46) hx hb dX8_append_14 (by decide) (fun h => absurd h (by decide)) (fun _ => ?_)
  refine lv_aload_n hx hb dX8_append_17 rfl (lv_at hl 1 rfl) ?_
  refine g_get C hH mt h23 iX8 rfl 0 (by decide) wd53 rfl rfl dX8_append_18 ?_
  refine lv_aload_n hx hb dX8_append_21 rfl (lv_at hl 1 rfl) ?_
  refine g_get C hH mt h23 iX8 rfl 1 (by decide) wd52 rfl rfl dX8_append_22 ?_
  refine lv_iload_n hx hb dX8_append_25 rfl (lv_at hl 2 rfl) ?_
  refine lv_iload_n hx hb dX8_append_26 rfl (lv_at hl 0 rfl) ?_
  refine lv_ishr hx hb dX8_append_27 ?_
  refine lv_topi (fun z24 ez24 => ?_)
  refine lv_i2b (v := (z24).toInt8.toInt32) hx hb dX8_append_28 rfl ?_
  have h25 : f22 xb = .inl (E.2.2 0, 800, .inl (upd (upd (upd v ((0 : Int32)).toNatClampNeg (vp_nar .byte ((z1).toInt8.toInt32))) ((1 : Int32)).toNatClampNeg (vp_nar .byte ((z8).toInt8.toInt32))) ((2 : Int32)).toNatClampNeg (vp_nar .byte ((z16).toInt8.toInt32)))) := ((congrFun ef22 xb).trans (va_up_ne _ _ (g_neAO h19 h20))).trans h19
  refine g_bast C hH mb h25 (vp_inL (by decide)) dX8_append_29 (fun H locs hH => ?_)
  obtain ⟨f26, ef26⟩ : ∃ z : gF, z = va_up f22 xb (.inl (E.2.2 0, 800, .inl (upd (upd (upd (upd v ((0 : Int32)).toNatClampNeg (vp_nar .byte ((z1).toInt8.toInt32))) ((1 : Int32)).toNatClampNeg (vp_nar .byte ((z8).toInt8.toInt32))) ((2 : Int32)).toNatClampNeg (vp_nar .byte ((z16).toInt8.toInt32))) ((3 : Int32)).toNatClampNeg (vp_nar .byte ((z24).toInt8.toInt32))))) := ⟨_, rfl⟩
  have hH : gH E A L f26 s.heap H locs := by rw [ef26]; exact hH
  have h27 : f26 xb = .inl (E.2.2 0, 800, .inl (upd (upd (upd (upd v ((0 : Int32)).toNatClampNeg (vp_nar .byte ((z1).toInt8.toInt32))) ((1 : Int32)).toNatClampNeg (vp_nar .byte ((z8).toInt8.toInt32))) ((2 : Int32)).toNatClampNeg (vp_nar .byte ((z16).toInt8.toInt32))) ((3 : Int32)).toNatClampNeg (vp_nar .byte ((z24).toInt8.toInt32)))) := (congrFun ef26 xb).trans (va_up_self _ _ _)
  refine lv_aload_n hx hb dX8_append_30 rfl (lv_at hl 1 rfl) ?_
  refine lv_dup hx hb dX8_append_31 rfl ?_
  have h28 : f26 xt = .inr (8, [.ref xb, .int (3 : Int32)]) := ((congrFun ef26 xt).trans (va_up_ne _ _ (g_neOA h23 h25))).trans h23
  refine g_get C hH mt h28 iX8 rfl 1 (by decide) wd52 rfl rfl dX8_append_32 ?_
  refine lv_iconst (v := (1 : Int32)) hx hb dX8_append_35 (by decide) ?_
  refine lv_iadd hx hb dX8_append_36 ?_
  refine lv_topi (fun z29 ez29 => ?_)
  obtain rfl : z29 = (4 : Int32) := ez29.trans (by decide)
  refine g_put C hH mt h28 iX8 tyX8 tyX8_ok nmX8 rfl 1 (by decide) wd52 rfl rfl rfl rfl (Nat.le_of_ble_eq_true rfl) (fs' := [.ref xb, .int (4 : Int32)]) rfl dX8_append_37 (fun H locs hH => ?_)
  obtain ⟨f30, ef30⟩ : ∃ z : gF, z = va_up f26 xt (.inr (8, [.ref xb, .int (4 : Int32)])) := ⟨_, rfl⟩
  have hH : gH E A L f30 s.heap H locs := by rw [ef30]; exact hH
  have h31 : f30 xt = .inr (8, [.ref xb, .int (4 : Int32)]) := (congrFun ef30 xt).trans (va_up_self _ _ _)
  refine lv_iinc (v := (-8 : Int32)) (lv' := [(2, .int (-8 : Int32)), (0, .ref xt), (1, .int p0)]) hx hb dX8_append_40 hl (k := 0) rfl (by decide) (by decide) rfl (fun ls hl => ?_)
  refine lv_goto (tgt := 3) hx hb dX8_append_43 (by decide) ?_
  refine lv_iload_n hx hb dX8_append_3 rfl (lv_at hl 0 rfl) ?_
  refine lv_if_lt (tgt := 46) hx hb dX8_append_4 (by decide) (fun _ => ?_) (fun h => absurd (by decide) h)
  refine g_vret C hr hH (Nat.le_of_ble_eq_true rfl) (Nat.le_of_ble_eq_true rfl) dX8_append_46 ?_
  have h32 : f30 xb = .inl (E.2.2 0, 800, .inl (upd (upd (upd (upd v ((0 : Int32)).toNatClampNeg (vp_nar .byte ((z1).toInt8.toInt32))) ((1 : Int32)).toNatClampNeg (vp_nar .byte ((z8).toInt8.toInt32))) ((2 : Int32)).toNatClampNeg (vp_nar .byte ((z16).toInt8.toInt32))) ((3 : Int32)).toNatClampNeg (vp_nar .byte ((z24).toInt8.toInt32)))) := ((congrFun ef30 xb).trans (va_up_ne _ _ (g_neAO h27 h28))).trans h27
  exact ⟨rfl, h31, ⟨_, h32⟩, fun b h1 h2 => by rw [ef30, va_up_ne _ _ h1, ef26, va_up_ne _ _ h2, ef22, va_up_ne _ _ h1, ef18, va_up_ne _ _ h2, ef14, va_up_ne _ _ h1, ef10, va_up_ne _ _ h2, ef6, va_up_ne _ _ h1, ef2, va_up_ne _ _ h2]⟩
set_option maxHeartbeats 4000000 in
set_option maxRecDepth 100000 in
theorem k_append4 (l : Launch) (E : gE) (L : List Nat) (f : gF) {xt xb : Nat} {v : Nat → Int32} (mt : xt ∈ L) (ft : f xt = .inr (8, [.ref xb, .int (4 : Int32)])) (mb : xb ∈ L) (fb : f xb = .inl (E.2.2 0, 800, .inl v)) (p0 : Int32) : gMv l E yX8_append cX8_append 3 (gRm 1 0 0) [.ref xt, .int p0] L f (fun L1 f1 => L = L1 ∧ f1 xt = .inr (8, [.ref xb, .int (8 : Int32)]) ∧ (∃ z, f1 xb = .inl (E.2.2 0, 800, .inl z)) ∧ ∀ b, b ≠ xt → b ≠ xb → f1 b = f b) := by
  refine gMv.intro (by decide) (Nat.le_of_ble_eq_true rfl) ?_
  intro p e s m below meth c A ls C hr hnm hA hH hl
  have C : gC E cX8_append 3 RX8 p s m _ meth c := C
  have hl : lv_has ls 3 [(0, .ref xt), (1, .int p0)] := hl
  have hx := C.1
  have hb := C.2.1
  refine lv_bipush (v := (24 : Int32)) hx hb dX8_append_0 (by decide) ?_
  refine lv_istore_n (lv' := [(2, .int (24 : Int32)), (0, .ref xt), (1, .int p0)]) hx hb dX8_append_2 rfl hl (by decide) rfl (fun ls hl => ?_)
  refine lv_iload_n hx hb dX8_append_3 rfl (lv_at hl 0 rfl) ?_
  refine lv_if_lt (tgt := 46) hx hb dX8_append_4 (by decide) (fun h => absurd h (by decide)) (fun _ => ?_)
  refine lv_aload_n hx hb dX8_append_7 rfl (lv_at hl 1 rfl) ?_
  refine g_get C hH mt ft iX8 rfl 1 (by decide) wd52 rfl rfl dX8_append_8 ?_
  refine lv_sipush (v := (800 : Int32)) hx hb dX8_append_11 (by decide) ?_
  refine lv_icmp_ge (tgt := 46) hx hb dX8_append_14 (by decide) (fun h => absurd h (by decide)) (fun _ => ?_)
  refine lv_aload_n hx hb dX8_append_17 rfl (lv_at hl 1 rfl) ?_
  refine g_get C hH mt ft iX8 rfl 0 (by decide) wd53 rfl rfl dX8_append_18 ?_
  refine lv_aload_n hx hb dX8_append_21 rfl (lv_at hl 1 rfl) ?_
  refine g_get C hH mt ft iX8 rfl 1 (by decide) wd52 rfl rfl dX8_append_22 ?_
  refine lv_iload_n hx hb dX8_append_25 rfl (lv_at hl 2 rfl) ?_
  refine lv_iload_n hx hb dX8_append_26 rfl (lv_at hl 0 rfl) ?_
  refine lv_ishr hx hb dX8_append_27 ?_
  refine lv_topi (fun z1 ez1 => ?_)
  refine lv_i2b (v := (z1).toInt8.toInt32) hx hb dX8_append_28 rfl ?_
  refine g_bast C hH mb fb (vp_inL (by decide)) dX8_append_29 (fun H locs hH => ?_)
  obtain ⟨f2, ef2⟩ : ∃ z : gF, z = va_up f xb (.inl (E.2.2 0, 800, .inl (upd v ((4 : Int32)).toNatClampNeg (vp_nar .byte ((z1).toInt8.toInt32))))) := ⟨_, rfl⟩
  have hH : gH E A L f2 s.heap H locs := by rw [ef2]; exact hH
  have h3 : f2 xb = .inl (E.2.2 0, 800, .inl (upd v ((4 : Int32)).toNatClampNeg (vp_nar .byte ((z1).toInt8.toInt32)))) := (congrFun ef2 xb).trans (va_up_self _ _ _)
  refine lv_aload_n hx hb dX8_append_30 rfl (lv_at hl 1 rfl) ?_
  refine lv_dup hx hb dX8_append_31 rfl ?_
  have h4 : f2 xt = .inr (8, [.ref xb, .int (4 : Int32)]) := ((congrFun ef2 xt).trans (va_up_ne _ _ (g_neOA ft fb))).trans ft
  refine g_get C hH mt h4 iX8 rfl 1 (by decide) wd52 rfl rfl dX8_append_32 ?_
  refine lv_iconst (v := (1 : Int32)) hx hb dX8_append_35 (by decide) ?_
  refine lv_iadd hx hb dX8_append_36 ?_
  refine lv_topi (fun z5 ez5 => ?_)
  obtain rfl : z5 = (5 : Int32) := ez5.trans (by decide)
  refine g_put C hH mt h4 iX8 tyX8 tyX8_ok nmX8 rfl 1 (by decide) wd52 rfl rfl rfl rfl (Nat.le_of_ble_eq_true rfl) (fs' := [.ref xb, .int (5 : Int32)]) rfl dX8_append_37 (fun H locs hH => ?_)
  obtain ⟨f6, ef6⟩ : ∃ z : gF, z = va_up f2 xt (.inr (8, [.ref xb, .int (5 : Int32)])) := ⟨_, rfl⟩
  have hH : gH E A L f6 s.heap H locs := by rw [ef6]; exact hH
  have h7 : f6 xt = .inr (8, [.ref xb, .int (5 : Int32)]) := (congrFun ef6 xt).trans (va_up_self _ _ _)
  refine lv_iinc (v := (16 : Int32)) (lv' := [(2, .int (16 : Int32)), (0, .ref xt), (1, .int p0)]) hx hb dX8_append_40 hl (k := 0) rfl (by decide) (by decide) rfl (fun ls hl => ?_)
  refine lv_goto (tgt := 3) hx hb dX8_append_43 (by decide) ?_
  refine lv_iload_n hx hb dX8_append_3 rfl (lv_at hl 0 rfl) ?_
  refine lv_if_lt (tgt := 46) hx hb dX8_append_4 (by decide) (fun h => absurd h (by decide)) (fun _ => ?_)
  refine lv_aload_n hx hb dX8_append_7 rfl (lv_at hl 1 rfl) ?_
  refine g_get C hH mt h7 iX8 rfl 1 (by decide) wd52 rfl rfl dX8_append_8 ?_
  refine lv_sipush (v := (800 : Int32)) hx hb dX8_append_11 (by decide) ?_
  refine lv_icmp_ge (tgt := 46) hx hb dX8_append_14 (by decide) (fun h => absurd h (by decide)) (fun _ => ?_)
  refine lv_aload_n hx hb dX8_append_17 rfl (lv_at hl 1 rfl) ?_
  refine g_get C hH mt h7 iX8 rfl 0 (by decide) wd53 rfl rfl dX8_append_18 ?_
  refine lv_aload_n hx hb dX8_append_21 rfl (lv_at hl 1 rfl) ?_
  refine g_get C hH mt h7 iX8 rfl 1 (by decide) wd52 rfl rfl dX8_append_22 ?_
  refine lv_iload_n hx hb dX8_append_25 rfl (lv_at hl 2 rfl) ?_
  refine lv_iload_n hx hb dX8_append_26 rfl (lv_at hl 0 rfl) ?_
  refine lv_ishr hx hb dX8_append_27 ?_
  refine lv_topi (fun z8 ez8 => ?_)
  refine lv_i2b (v := (z8).toInt8.toInt32) hx hb dX8_append_28 rfl ?_
  have h9 : f6 xb = .inl (E.2.2 0, 800, .inl (upd v ((4 : Int32)).toNatClampNeg (vp_nar .byte ((z1).toInt8.toInt32)))) := ((congrFun ef6 xb).trans (va_up_ne _ _ (g_neAO h3 h4))).trans h3
  refine g_bast C hH mb h9 (vp_inL (by decide)) dX8_append_29 (fun H locs hH => ?_)
  obtain ⟨f10, ef10⟩ : ∃ z : gF, z = va_up f6 xb (.inl (E.2.2 0, 800, .inl (upd (upd v ((4 : Int32)).toNatClampNeg (vp_nar .byte ((z1).toInt8.toInt32))) ((5 : Int32)).toNatClampNeg (vp_nar .byte ((z8).toInt8.toInt32))))) := ⟨_, rfl⟩
  have hH : gH E A L f10 s.heap H locs := by rw [ef10]; exact hH
  have h11 : f10 xb = .inl (E.2.2 0, 800, .inl (upd (upd v ((4 : Int32)).toNatClampNeg (vp_nar .byte ((z1).toInt8.toInt32))) ((5 : Int32)).toNatClampNeg (vp_nar .byte ((z8).toInt8.toInt32)))) := (congrFun ef10 xb).trans (va_up_self _ _ _)
  refine lv_aload_n hx hb dX8_append_30 rfl (lv_at hl 1 rfl) ?_
  refine lv_dup hx hb dX8_append_31 rfl ?_
  have h12 : f10 xt = .inr (8, [.ref xb, .int (5 : Int32)]) := ((congrFun ef10 xt).trans (va_up_ne _ _ (g_neOA h7 h9))).trans h7
  refine g_get C hH mt h12 iX8 rfl 1 (by decide) wd52 rfl rfl dX8_append_32 ?_
  refine lv_iconst (v := (1 : Int32)) hx hb dX8_append_35 (by decide) ?_
  refine lv_iadd hx hb dX8_append_36 ?_
  refine lv_topi (fun z13 ez13 => ?_)
  obtain rfl : z13 = (6 : Int32) := ez13.trans (by decide)
  refine g_put C hH mt h12 iX8 tyX8 tyX8_ok nmX8 rfl 1 (by decide) wd52 rfl rfl rfl rfl (Nat.le_of_ble_eq_true rfl) (fs' := [.ref xb, .int (6 : Int32)]) rfl dX8_append_37 (fun H locs hH => ?_)
  obtain ⟨f14, ef14⟩ : ∃ z : gF, z = va_up f10 xt (.inr (8, [.ref xb, .int (6 : Int32)])) := ⟨_, rfl⟩
  have hH : gH E A L f14 s.heap H locs := by rw [ef14]; exact hH
  have h15 : f14 xt = .inr (8, [.ref xb, .int (6 : Int32)]) := (congrFun ef14 xt).trans (va_up_self _ _ _)
  refine lv_iinc (v := (8 : Int32)) (lv' := [(2, .int (8 : Int32)), (0, .ref xt), (1, .int p0)]) hx hb dX8_append_40 hl (k := 0) rfl (by decide) (by decide) rfl (fun ls hl => ?_)
  refine lv_goto (tgt := 3) hx hb dX8_append_43 (by decide) ?_
  refine lv_iload_n hx hb dX8_append_3 rfl (lv_at hl 0 rfl) ?_
  refine lv_if_lt (tgt := 46) hx hb dX8_append_4 (by decide) (fun h => absurd h (by decide)) (fun _ => ?_)
  refine lv_aload_n hx hb dX8_append_7 rfl (lv_at hl 1 rfl) ?_
  refine g_get C hH mt h15 iX8 rfl 1 (by decide) wd52 rfl rfl dX8_append_8 ?_
  refine lv_sipush (v := (800 : Int32)) hx hb dX8_append_11 (by decide) ?_
  refine lv_icmp_ge (tgt := 46) hx hb dX8_append_14 (by decide) (fun h => absurd h (by decide)) (fun _ => ?_)
  refine lv_aload_n hx hb dX8_append_17 rfl (lv_at hl 1 rfl) ?_
  refine g_get C hH mt h15 iX8 rfl 0 (by decide) wd53 rfl rfl dX8_append_18 ?_
  refine lv_aload_n hx hb dX8_append_21 rfl (lv_at hl 1 rfl) ?_
  refine g_get C hH mt h15 iX8 rfl 1 (by decide) wd52 rfl rfl dX8_append_22 ?_
  refine lv_iload_n hx hb dX8_append_25 rfl (lv_at hl 2 rfl) ?_
  refine lv_iload_n hx hb dX8_append_26 rfl (lv_at hl 0 rfl) ?_
  refine lv_ishr hx hb dX8_append_27 ?_
  refine lv_topi (fun z16 ez16 => ?_)
  refine lv_i2b (v := (z16).toInt8.toInt32) hx hb dX8_append_28 rfl ?_
  have h17 : f14 xb = .inl (E.2.2 0, 800, .inl (upd (upd v ((4 : Int32)).toNatClampNeg (vp_nar .byte ((z1).toInt8.toInt32))) ((5 : Int32)).toNatClampNeg (vp_nar .byte ((z8).toInt8.toInt32)))) := ((congrFun ef14 xb).trans (va_up_ne _ _ (g_neAO h11 h12))).trans h11
  refine g_bast C hH mb h17 (vp_inL (by decide)) dX8_append_29 (fun H locs hH => ?_)
  obtain ⟨f18, ef18⟩ : ∃ z : gF, z = va_up f14 xb (.inl (E.2.2 0, 800, .inl (upd (upd (upd v ((4 : Int32)).toNatClampNeg (vp_nar .byte ((z1).toInt8.toInt32))) ((5 : Int32)).toNatClampNeg (vp_nar .byte ((z8).toInt8.toInt32))) ((6 : Int32)).toNatClampNeg (vp_nar .byte ((z16).toInt8.toInt32))))) := ⟨_, rfl⟩
  have hH : gH E A L f18 s.heap H locs := by rw [ef18]; exact hH
  have h19 : f18 xb = .inl (E.2.2 0, 800, .inl (upd (upd (upd v ((4 : Int32)).toNatClampNeg (vp_nar .byte ((z1).toInt8.toInt32))) ((5 : Int32)).toNatClampNeg (vp_nar .byte ((z8).toInt8.toInt32))) ((6 : Int32)).toNatClampNeg (vp_nar .byte ((z16).toInt8.toInt32)))) := (congrFun ef18 xb).trans (va_up_self _ _ _)
  refine lv_aload_n hx hb dX8_append_30 rfl (lv_at hl 1 rfl) ?_
  refine lv_dup hx hb dX8_append_31 rfl ?_
  have h20 : f18 xt = .inr (8, [.ref xb, .int (6 : Int32)]) := ((congrFun ef18 xt).trans (va_up_ne _ _ (g_neOA h15 h17))).trans h15
  refine g_get C hH mt h20 iX8 rfl 1 (by decide) wd52 rfl rfl dX8_append_32 ?_
  refine lv_iconst (v := (1 : Int32)) hx hb dX8_append_35 (by decide) ?_
  refine lv_iadd hx hb dX8_append_36 ?_
  refine lv_topi (fun z21 ez21 => ?_)
  obtain rfl : z21 = (7 : Int32) := ez21.trans (by decide)
  refine g_put C hH mt h20 iX8 tyX8 tyX8_ok nmX8 rfl 1 (by decide) wd52 rfl rfl rfl rfl (Nat.le_of_ble_eq_true rfl) (fs' := [.ref xb, .int (7 : Int32)]) rfl dX8_append_37 (fun H locs hH => ?_)
  obtain ⟨f22, ef22⟩ : ∃ z : gF, z = va_up f18 xt (.inr (8, [.ref xb, .int (7 : Int32)])) := ⟨_, rfl⟩
  have hH : gH E A L f22 s.heap H locs := by rw [ef22]; exact hH
  have h23 : f22 xt = .inr (8, [.ref xb, .int (7 : Int32)]) := (congrFun ef22 xt).trans (va_up_self _ _ _)
  refine lv_iinc (v := (0 : Int32)) (lv' := [(2, .int (0 : Int32)), (0, .ref xt), (1, .int p0)]) hx hb dX8_append_40 hl (k := 0) rfl (by decide) (by decide) rfl (fun ls hl => ?_)
  refine lv_goto (tgt := 3) hx hb dX8_append_43 (by decide) ?_
  refine lv_iload_n hx hb dX8_append_3 rfl (lv_at hl 0 rfl) ?_
  refine lv_if_lt (tgt := 46) hx hb dX8_append_4 (by decide) (fun h => absurd h (by decide)) (fun _ => ?_)
  refine lv_aload_n hx hb dX8_append_7 rfl (lv_at hl 1 rfl) ?_
  refine g_get C hH mt h23 iX8 rfl 1 (by decide) wd52 rfl rfl dX8_append_8 ?_
  refine lv_sipush (v := (800 : Int32)) hx hb dX8_append_11 (by decide) ?_
  refine lv_icmp_ge (tgt := 46) hx hb dX8_append_14 (by decide) (fun h => absurd h (by decide)) (fun _ => ?_)
  refine lv_aload_n hx hb dX8_append_17 rfl (lv_at hl 1 rfl) ?_
  refine g_get C hH mt h23 iX8 rfl 0 (by decide) wd53 rfl rfl dX8_append_18 ?_
  refine lv_aload_n hx hb dX8_append_21 rfl (lv_at hl 1 rfl) ?_
  refine g_get C hH mt h23 iX8 rfl 1 (by decide) wd52 rfl rfl dX8_append_22 ?_
  refine lv_iload_n hx hb dX8_append_25 rfl (lv_at hl 2 rfl) ?_
  refine lv_iload_n hx hb dX8_append_26 rfl (lv_at hl 0 rfl) ?_
  refine lv_ishr hx hb dX8_append_27 ?_
  refine lv_topi (fun z24 ez24 => ?_)
  refine lv_i2b (v := (z24).toInt8.toInt32) hx hb dX8_append_28 rfl ?_
  have h25 : f22 xb = .inl (E.2.2 0, 800, .inl (upd (upd (upd v ((4 : Int32)).toNatClampNeg (vp_nar .byte ((z1).toInt8.toInt32))) ((5 : Int32)).toNatClampNeg (vp_nar .byte ((z8).toInt8.toInt32))) ((6 : Int32)).toNatClampNeg (vp_nar .byte ((z16).toInt8.toInt32)))) := ((congrFun ef22 xb).trans (va_up_ne _ _ (g_neAO h19 h20))).trans h19
  refine g_bast C hH mb h25 (vp_inL (by decide)) dX8_append_29 (fun H locs hH => ?_)
  obtain ⟨f26, ef26⟩ : ∃ z : gF, z = va_up f22 xb (.inl (E.2.2 0, 800, .inl (upd (upd (upd (upd v ((4 : Int32)).toNatClampNeg (vp_nar .byte ((z1).toInt8.toInt32))) ((5 : Int32)).toNatClampNeg (vp_nar .byte ((z8).toInt8.toInt32))) ((6 : Int32)).toNatClampNeg (vp_nar .byte ((z16).toInt8.toInt32))) ((7 : Int32)).toNatClampNeg (vp_nar .byte ((z24).toInt8.toInt32))))) := ⟨_, rfl⟩
  have hH : gH E A L f26 s.heap H locs := by rw [ef26]; exact hH
  have h27 : f26 xb = .inl (E.2.2 0, 800, .inl (upd (upd (upd (upd v ((4 : Int32)).toNatClampNeg (vp_nar .byte ((z1).toInt8.toInt32))) ((5 : Int32)).toNatClampNeg (vp_nar .byte ((z8).toInt8.toInt32))) ((6 : Int32)).toNatClampNeg (vp_nar .byte ((z16).toInt8.toInt32))) ((7 : Int32)).toNatClampNeg (vp_nar .byte ((z24).toInt8.toInt32)))) := (congrFun ef26 xb).trans (va_up_self _ _ _)
  refine lv_aload_n hx hb dX8_append_30 rfl (lv_at hl 1 rfl) ?_
  refine lv_dup hx hb dX8_append_31 rfl ?_
  have h28 : f26 xt = .inr (8, [.ref xb, .int (7 : Int32)]) := ((congrFun ef26 xt).trans (va_up_ne _ _ (g_neOA h23 h25))).trans h23
  refine g_get C hH mt h28 iX8 rfl 1 (by decide) wd52 rfl rfl dX8_append_32 ?_
  refine lv_iconst (v := (1 : Int32)) hx hb dX8_append_35 (by decide) ?_
  refine lv_iadd hx hb dX8_append_36 ?_
  refine lv_topi (fun z29 ez29 => ?_)
  obtain rfl : z29 = (8 : Int32) := ez29.trans (by decide)
  refine g_put C hH mt h28 iX8 tyX8 tyX8_ok nmX8 rfl 1 (by decide) wd52 rfl rfl rfl rfl (Nat.le_of_ble_eq_true rfl) (fs' := [.ref xb, .int (8 : Int32)]) rfl dX8_append_37 (fun H locs hH => ?_)
  obtain ⟨f30, ef30⟩ : ∃ z : gF, z = va_up f26 xt (.inr (8, [.ref xb, .int (8 : Int32)])) := ⟨_, rfl⟩
  have hH : gH E A L f30 s.heap H locs := by rw [ef30]; exact hH
  have h31 : f30 xt = .inr (8, [.ref xb, .int (8 : Int32)]) := (congrFun ef30 xt).trans (va_up_self _ _ _)
  refine lv_iinc (v := (-8 : Int32)) (lv' := [(2, .int (-8 : Int32)), (0, .ref xt), (1, .int p0)]) hx hb dX8_append_40 hl (k := 0) rfl (by decide) (by decide) rfl (fun ls hl => ?_)
  refine lv_goto (tgt := 3) hx hb dX8_append_43 (by decide) ?_
  refine lv_iload_n hx hb dX8_append_3 rfl (lv_at hl 0 rfl) ?_
  refine lv_if_lt (tgt := 46) hx hb dX8_append_4 (by decide) (fun _ => ?_) (fun h => absurd (by decide) h)
  refine g_vret C hr hH (Nat.le_of_ble_eq_true rfl) (Nat.le_of_ble_eq_true rfl) dX8_append_46 ?_
  have h32 : f30 xb = .inl (E.2.2 0, 800, .inl (upd (upd (upd (upd v ((4 : Int32)).toNatClampNeg (vp_nar .byte ((z1).toInt8.toInt32))) ((5 : Int32)).toNatClampNeg (vp_nar .byte ((z8).toInt8.toInt32))) ((6 : Int32)).toNatClampNeg (vp_nar .byte ((z16).toInt8.toInt32))) ((7 : Int32)).toNatClampNeg (vp_nar .byte ((z24).toInt8.toInt32)))) := ((congrFun ef30 xb).trans (va_up_ne _ _ (g_neAO h27 h28))).trans h27
  exact ⟨rfl, h31, ⟨_, h32⟩, fun b h1 h2 => by rw [ef30, va_up_ne _ _ h1, ef26, va_up_ne _ _ h2, ef22, va_up_ne _ _ h1, ef18, va_up_ne _ _ h2, ef14, va_up_ne _ _ h1, ef10, va_up_ne _ _ h2, ef6, va_up_ne _ _ h1, ef2, va_up_ne _ _ h2]⟩
set_option maxHeartbeats 4000000 in
set_option maxRecDepth 100000 in
theorem k_append8 (l : Launch) (E : gE) (L : List Nat) (f : gF) {xt xb : Nat} {v : Nat → Int32} (mt : xt ∈ L) (ft : f xt = .inr (8, [.ref xb, .int (8 : Int32)])) (mb : xb ∈ L) (fb : f xb = .inl (E.2.2 0, 800, .inl v)) (p0 : Int32) : gMv l E yX8_append cX8_append 3 (gRm 1 0 0) [.ref xt, .int p0] L f (fun L1 f1 => L = L1 ∧ f1 xt = .inr (8, [.ref xb, .int (12 : Int32)]) ∧ (∃ z, f1 xb = .inl (E.2.2 0, 800, .inl z)) ∧ ∀ b, b ≠ xt → b ≠ xb → f1 b = f b) := by
  refine gMv.intro (by decide) (Nat.le_of_ble_eq_true rfl) ?_
  intro p e s m below meth c A ls C hr hnm hA hH hl
  have C : gC E cX8_append 3 RX8 p s m _ meth c := C
  have hl : lv_has ls 3 [(0, .ref xt), (1, .int p0)] := hl
  have hx := C.1
  have hb := C.2.1
  refine lv_bipush (v := (24 : Int32)) hx hb dX8_append_0 (by decide) ?_
  refine lv_istore_n (lv' := [(2, .int (24 : Int32)), (0, .ref xt), (1, .int p0)]) hx hb dX8_append_2 rfl hl (by decide) rfl (fun ls hl => ?_)
  refine lv_iload_n hx hb dX8_append_3 rfl (lv_at hl 0 rfl) ?_
  refine lv_if_lt (tgt := 46) hx hb dX8_append_4 (by decide) (fun h => absurd h (by decide)) (fun _ => ?_)
  refine lv_aload_n hx hb dX8_append_7 rfl (lv_at hl 1 rfl) ?_
  refine g_get C hH mt ft iX8 rfl 1 (by decide) wd52 rfl rfl dX8_append_8 ?_
  refine lv_sipush (v := (800 : Int32)) hx hb dX8_append_11 (by decide) ?_
  refine lv_icmp_ge (tgt := 46) hx hb dX8_append_14 (by decide) (fun h => absurd h (by decide)) (fun _ => ?_)
  refine lv_aload_n hx hb dX8_append_17 rfl (lv_at hl 1 rfl) ?_
  refine g_get C hH mt ft iX8 rfl 0 (by decide) wd53 rfl rfl dX8_append_18 ?_
  refine lv_aload_n hx hb dX8_append_21 rfl (lv_at hl 1 rfl) ?_
  refine g_get C hH mt ft iX8 rfl 1 (by decide) wd52 rfl rfl dX8_append_22 ?_
  refine lv_iload_n hx hb dX8_append_25 rfl (lv_at hl 2 rfl) ?_
  refine lv_iload_n hx hb dX8_append_26 rfl (lv_at hl 0 rfl) ?_
  refine lv_ishr hx hb dX8_append_27 ?_
  refine lv_topi (fun z1 ez1 => ?_)
  refine lv_i2b (v := (z1).toInt8.toInt32) hx hb dX8_append_28 rfl ?_
  refine g_bast C hH mb fb (vp_inL (by decide)) dX8_append_29 (fun H locs hH => ?_)
  obtain ⟨f2, ef2⟩ : ∃ z : gF, z = va_up f xb (.inl (E.2.2 0, 800, .inl (upd v ((8 : Int32)).toNatClampNeg (vp_nar .byte ((z1).toInt8.toInt32))))) := ⟨_, rfl⟩
  have hH : gH E A L f2 s.heap H locs := by rw [ef2]; exact hH
  have h3 : f2 xb = .inl (E.2.2 0, 800, .inl (upd v ((8 : Int32)).toNatClampNeg (vp_nar .byte ((z1).toInt8.toInt32)))) := (congrFun ef2 xb).trans (va_up_self _ _ _)
  refine lv_aload_n hx hb dX8_append_30 rfl (lv_at hl 1 rfl) ?_
  refine lv_dup hx hb dX8_append_31 rfl ?_
  have h4 : f2 xt = .inr (8, [.ref xb, .int (8 : Int32)]) := ((congrFun ef2 xt).trans (va_up_ne _ _ (g_neOA ft fb))).trans ft
  refine g_get C hH mt h4 iX8 rfl 1 (by decide) wd52 rfl rfl dX8_append_32 ?_
  refine lv_iconst (v := (1 : Int32)) hx hb dX8_append_35 (by decide) ?_
  refine lv_iadd hx hb dX8_append_36 ?_
  refine lv_topi (fun z5 ez5 => ?_)
  obtain rfl : z5 = (9 : Int32) := ez5.trans (by decide)
  refine g_put C hH mt h4 iX8 tyX8 tyX8_ok nmX8 rfl 1 (by decide) wd52 rfl rfl rfl rfl (Nat.le_of_ble_eq_true rfl) (fs' := [.ref xb, .int (9 : Int32)]) rfl dX8_append_37 (fun H locs hH => ?_)
  obtain ⟨f6, ef6⟩ : ∃ z : gF, z = va_up f2 xt (.inr (8, [.ref xb, .int (9 : Int32)])) := ⟨_, rfl⟩
  have hH : gH E A L f6 s.heap H locs := by rw [ef6]; exact hH
  have h7 : f6 xt = .inr (8, [.ref xb, .int (9 : Int32)]) := (congrFun ef6 xt).trans (va_up_self _ _ _)
  refine lv_iinc (v := (16 : Int32)) (lv' := [(2, .int (16 : Int32)), (0, .ref xt), (1, .int p0)]) hx hb dX8_append_40 hl (k := 0) rfl (by decide) (by decide) rfl (fun ls hl => ?_)
  refine lv_goto (tgt := 3) hx hb dX8_append_43 (by decide) ?_
  refine lv_iload_n hx hb dX8_append_3 rfl (lv_at hl 0 rfl) ?_
  refine lv_if_lt (tgt := 46) hx hb dX8_append_4 (by decide) (fun h => absurd h (by decide)) (fun _ => ?_)
  refine lv_aload_n hx hb dX8_append_7 rfl (lv_at hl 1 rfl) ?_
  refine g_get C hH mt h7 iX8 rfl 1 (by decide) wd52 rfl rfl dX8_append_8 ?_
  refine lv_sipush (v := (800 : Int32)) hx hb dX8_append_11 (by decide) ?_
  refine lv_icmp_ge (tgt := 46) hx hb dX8_append_14 (by decide) (fun h => absurd h (by decide)) (fun _ => ?_)
  refine lv_aload_n hx hb dX8_append_17 rfl (lv_at hl 1 rfl) ?_
  refine g_get C hH mt h7 iX8 rfl 0 (by decide) wd53 rfl rfl dX8_append_18 ?_
  refine lv_aload_n hx hb dX8_append_21 rfl (lv_at hl 1 rfl) ?_
  refine g_get C hH mt h7 iX8 rfl 1 (by decide) wd52 rfl rfl dX8_append_22 ?_
  refine lv_iload_n hx hb dX8_append_25 rfl (lv_at hl 2 rfl) ?_
  refine lv_iload_n hx hb dX8_append_26 rfl (lv_at hl 0 rfl) ?_
  refine lv_ishr hx hb dX8_append_27 ?_
  refine lv_topi (fun z8 ez8 => ?_)
  refine lv_i2b (v := (z8).toInt8.toInt32) hx hb dX8_append_28 rfl ?_
  have h9 : f6 xb = .inl (E.2.2 0, 800, .inl (upd v ((8 : Int32)).toNatClampNeg (vp_nar .byte ((z1).toInt8.toInt32)))) := ((congrFun ef6 xb).trans (va_up_ne _ _ (g_neAO h3 h4))).trans h3
  refine g_bast C hH mb h9 (vp_inL (by decide)) dX8_append_29 (fun H locs hH => ?_)
  obtain ⟨f10, ef10⟩ : ∃ z : gF, z = va_up f6 xb (.inl (E.2.2 0, 800, .inl (upd (upd v ((8 : Int32)).toNatClampNeg (vp_nar .byte ((z1).toInt8.toInt32))) ((9 : Int32)).toNatClampNeg (vp_nar .byte ((z8).toInt8.toInt32))))) := ⟨_, rfl⟩
  have hH : gH E A L f10 s.heap H locs := by rw [ef10]; exact hH
  have h11 : f10 xb = .inl (E.2.2 0, 800, .inl (upd (upd v ((8 : Int32)).toNatClampNeg (vp_nar .byte ((z1).toInt8.toInt32))) ((9 : Int32)).toNatClampNeg (vp_nar .byte ((z8).toInt8.toInt32)))) := (congrFun ef10 xb).trans (va_up_self _ _ _)
  refine lv_aload_n hx hb dX8_append_30 rfl (lv_at hl 1 rfl) ?_
  refine lv_dup hx hb dX8_append_31 rfl ?_
  have h12 : f10 xt = .inr (8, [.ref xb, .int (9 : Int32)]) := ((congrFun ef10 xt).trans (va_up_ne _ _ (g_neOA h7 h9))).trans h7
  refine g_get C hH mt h12 iX8 rfl 1 (by decide) wd52 rfl rfl dX8_append_32 ?_
  refine lv_iconst (v := (1 : Int32)) hx hb dX8_append_35 (by decide) ?_
  refine lv_iadd hx hb dX8_append_36 ?_
  refine lv_topi (fun z13 ez13 => ?_)
  obtain rfl : z13 = (10 : Int32) := ez13.trans (by decide)
  refine g_put C hH mt h12 iX8 tyX8 tyX8_ok nmX8 rfl 1 (by decide) wd52 rfl rfl rfl rfl (Nat.le_of_ble_eq_true rfl) (fs' := [.ref xb, .int (10 : Int32)]) rfl dX8_append_37 (fun H locs hH => ?_)
  obtain ⟨f14, ef14⟩ : ∃ z : gF, z = va_up f10 xt (.inr (8, [.ref xb, .int (10 : Int32)])) := ⟨_, rfl⟩
  have hH : gH E A L f14 s.heap H locs := by rw [ef14]; exact hH
  have h15 : f14 xt = .inr (8, [.ref xb, .int (10 : Int32)]) := (congrFun ef14 xt).trans (va_up_self _ _ _)
  refine lv_iinc (v := (8 : Int32)) (lv' := [(2, .int (8 : Int32)), (0, .ref xt), (1, .int p0)]) hx hb dX8_append_40 hl (k := 0) rfl (by decide) (by decide) rfl (fun ls hl => ?_)
  refine lv_goto (tgt := 3) hx hb dX8_append_43 (by decide) ?_
  refine lv_iload_n hx hb dX8_append_3 rfl (lv_at hl 0 rfl) ?_
  refine lv_if_lt (tgt := 46) hx hb dX8_append_4 (by decide) (fun h => absurd h (by decide)) (fun _ => ?_)
  refine lv_aload_n hx hb dX8_append_7 rfl (lv_at hl 1 rfl) ?_
  refine g_get C hH mt h15 iX8 rfl 1 (by decide) wd52 rfl rfl dX8_append_8 ?_
  refine lv_sipush (v := (800 : Int32)) hx hb dX8_append_11 (by decide) ?_
  refine lv_icmp_ge (tgt := 46) hx hb dX8_append_14 (by decide) (fun h => absurd h (by decide)) (fun _ => ?_)
  refine lv_aload_n hx hb dX8_append_17 rfl (lv_at hl 1 rfl) ?_
  refine g_get C hH mt h15 iX8 rfl 0 (by decide) wd53 rfl rfl dX8_append_18 ?_
  refine lv_aload_n hx hb dX8_append_21 rfl (lv_at hl 1 rfl) ?_
  refine g_get C hH mt h15 iX8 rfl 1 (by decide) wd52 rfl rfl dX8_append_22 ?_
  refine lv_iload_n hx hb dX8_append_25 rfl (lv_at hl 2 rfl) ?_
  refine lv_iload_n hx hb dX8_append_26 rfl (lv_at hl 0 rfl) ?_
  refine lv_ishr hx hb dX8_append_27 ?_
  refine lv_topi (fun z16 ez16 => ?_)
  refine lv_i2b (v := (z16).toInt8.toInt32) hx hb dX8_append_28 rfl ?_
  have h17 : f14 xb = .inl (E.2.2 0, 800, .inl (upd (upd v ((8 : Int32)).toNatClampNeg (vp_nar .byte ((z1).toInt8.toInt32))) ((9 : Int32)).toNatClampNeg (vp_nar .byte ((z8).toInt8.toInt32)))) := ((congrFun ef14 xb).trans (va_up_ne _ _ (g_neAO h11 h12))).trans h11
  refine g_bast C hH mb h17 (vp_inL (by decide)) dX8_append_29 (fun H locs hH => ?_)
  obtain ⟨f18, ef18⟩ : ∃ z : gF, z = va_up f14 xb (.inl (E.2.2 0, 800, .inl (upd (upd (upd v ((8 : Int32)).toNatClampNeg (vp_nar .byte ((z1).toInt8.toInt32))) ((9 : Int32)).toNatClampNeg (vp_nar .byte ((z8).toInt8.toInt32))) ((10 : Int32)).toNatClampNeg (vp_nar .byte ((z16).toInt8.toInt32))))) := ⟨_, rfl⟩
  have hH : gH E A L f18 s.heap H locs := by rw [ef18]; exact hH
  have h19 : f18 xb = .inl (E.2.2 0, 800, .inl (upd (upd (upd v ((8 : Int32)).toNatClampNeg (vp_nar .byte ((z1).toInt8.toInt32))) ((9 : Int32)).toNatClampNeg (vp_nar .byte ((z8).toInt8.toInt32))) ((10 : Int32)).toNatClampNeg (vp_nar .byte ((z16).toInt8.toInt32)))) := (congrFun ef18 xb).trans (va_up_self _ _ _)
  refine lv_aload_n hx hb dX8_append_30 rfl (lv_at hl 1 rfl) ?_
  refine lv_dup hx hb dX8_append_31 rfl ?_
  have h20 : f18 xt = .inr (8, [.ref xb, .int (10 : Int32)]) := ((congrFun ef18 xt).trans (va_up_ne _ _ (g_neOA h15 h17))).trans h15
  refine g_get C hH mt h20 iX8 rfl 1 (by decide) wd52 rfl rfl dX8_append_32 ?_
  refine lv_iconst (v := (1 : Int32)) hx hb dX8_append_35 (by decide) ?_
  refine lv_iadd hx hb dX8_append_36 ?_
  refine lv_topi (fun z21 ez21 => ?_)
  obtain rfl : z21 = (11 : Int32) := ez21.trans (by decide)
  refine g_put C hH mt h20 iX8 tyX8 tyX8_ok nmX8 rfl 1 (by decide) wd52 rfl rfl rfl rfl (Nat.le_of_ble_eq_true rfl) (fs' := [.ref xb, .int (11 : Int32)]) rfl dX8_append_37 (fun H locs hH => ?_)
  obtain ⟨f22, ef22⟩ : ∃ z : gF, z = va_up f18 xt (.inr (8, [.ref xb, .int (11 : Int32)])) := ⟨_, rfl⟩
  have hH : gH E A L f22 s.heap H locs := by rw [ef22]; exact hH
  have h23 : f22 xt = .inr (8, [.ref xb, .int (11 : Int32)]) := (congrFun ef22 xt).trans (va_up_self _ _ _)
  refine lv_iinc (v := (0 : Int32)) (lv' := [(2, .int (0 : Int32)), (0, .ref xt), (1, .int p0)]) hx hb dX8_append_40 hl (k := 0) rfl (by decide) (by decide) rfl (fun ls hl => ?_)
  refine lv_goto (tgt := 3) hx hb dX8_append_43 (by decide) ?_
  refine lv_iload_n hx hb dX8_append_3 rfl (lv_at hl 0 rfl) ?_
  refine lv_if_lt (tgt := 46) hx hb dX8_append_4 (by decide) (fun h => absurd h (by decide)) (fun _ => ?_)
  refine lv_aload_n hx hb dX8_append_7 rfl (lv_at hl 1 rfl) ?_
  refine g_get C hH mt h23 iX8 rfl 1 (by decide) wd52 rfl rfl dX8_append_8 ?_
  refine lv_sipush (v := (800 : Int32)) hx hb dX8_append_11 (by decide) ?_
  refine lv_icmp_ge (tgt := 46) hx hb dX8_append_14 (by decide) (fun h => absurd h (by decide)) (fun _ => ?_)
  refine lv_aload_n hx hb dX8_append_17 rfl (lv_at hl 1 rfl) ?_
  refine g_get C hH mt h23 iX8 rfl 0 (by decide) wd53 rfl rfl dX8_append_18 ?_
  refine lv_aload_n hx hb dX8_append_21 rfl (lv_at hl 1 rfl) ?_
  refine g_get C hH mt h23 iX8 rfl 1 (by decide) wd52 rfl rfl dX8_append_22 ?_
  refine lv_iload_n hx hb dX8_append_25 rfl (lv_at hl 2 rfl) ?_
  refine lv_iload_n hx hb dX8_append_26 rfl (lv_at hl 0 rfl) ?_
  refine lv_ishr hx hb dX8_append_27 ?_
  refine lv_topi (fun z24 ez24 => ?_)
  refine lv_i2b (v := (z24).toInt8.toInt32) hx hb dX8_append_28 rfl ?_
  have h25 : f22 xb = .inl (E.2.2 0, 800, .inl (upd (upd (upd v ((8 : Int32)).toNatClampNeg (vp_nar .byte ((z1).toInt8.toInt32))) ((9 : Int32)).toNatClampNeg (vp_nar .byte ((z8).toInt8.toInt32))) ((10 : Int32)).toNatClampNeg (vp_nar .byte ((z16).toInt8.toInt32)))) := ((congrFun ef22 xb).trans (va_up_ne _ _ (g_neAO h19 h20))).trans h19
  refine g_bast C hH mb h25 (vp_inL (by decide)) dX8_append_29 (fun H locs hH => ?_)
  obtain ⟨f26, ef26⟩ : ∃ z : gF, z = va_up f22 xb (.inl (E.2.2 0, 800, .inl (upd (upd (upd (upd v ((8 : Int32)).toNatClampNeg (vp_nar .byte ((z1).toInt8.toInt32))) ((9 : Int32)).toNatClampNeg (vp_nar .byte ((z8).toInt8.toInt32))) ((10 : Int32)).toNatClampNeg (vp_nar .byte ((z16).toInt8.toInt32))) ((11 : Int32)).toNatClampNeg (vp_nar .byte ((z24).toInt8.toInt32))))) := ⟨_, rfl⟩
  have hH : gH E A L f26 s.heap H locs := by rw [ef26]; exact hH
  have h27 : f26 xb = .inl (E.2.2 0, 800, .inl (upd (upd (upd (upd v ((8 : Int32)).toNatClampNeg (vp_nar .byte ((z1).toInt8.toInt32))) ((9 : Int32)).toNatClampNeg (vp_nar .byte ((z8).toInt8.toInt32))) ((10 : Int32)).toNatClampNeg (vp_nar .byte ((z16).toInt8.toInt32))) ((11 : Int32)).toNatClampNeg (vp_nar .byte ((z24).toInt8.toInt32)))) := (congrFun ef26 xb).trans (va_up_self _ _ _)
  refine lv_aload_n hx hb dX8_append_30 rfl (lv_at hl 1 rfl) ?_
  refine lv_dup hx hb dX8_append_31 rfl ?_
  have h28 : f26 xt = .inr (8, [.ref xb, .int (11 : Int32)]) := ((congrFun ef26 xt).trans (va_up_ne _ _ (g_neOA h23 h25))).trans h23
  refine g_get C hH mt h28 iX8 rfl 1 (by decide) wd52 rfl rfl dX8_append_32 ?_
  refine lv_iconst (v := (1 : Int32)) hx hb dX8_append_35 (by decide) ?_
  refine lv_iadd hx hb dX8_append_36 ?_
  refine lv_topi (fun z29 ez29 => ?_)
  obtain rfl : z29 = (12 : Int32) := ez29.trans (by decide)
  refine g_put C hH mt h28 iX8 tyX8 tyX8_ok nmX8 rfl 1 (by decide) wd52 rfl rfl rfl rfl (Nat.le_of_ble_eq_true rfl) (fs' := [.ref xb, .int (12 : Int32)]) rfl dX8_append_37 (fun H locs hH => ?_)
  obtain ⟨f30, ef30⟩ : ∃ z : gF, z = va_up f26 xt (.inr (8, [.ref xb, .int (12 : Int32)])) := ⟨_, rfl⟩
  have hH : gH E A L f30 s.heap H locs := by rw [ef30]; exact hH
  have h31 : f30 xt = .inr (8, [.ref xb, .int (12 : Int32)]) := (congrFun ef30 xt).trans (va_up_self _ _ _)
  refine lv_iinc (v := (-8 : Int32)) (lv' := [(2, .int (-8 : Int32)), (0, .ref xt), (1, .int p0)]) hx hb dX8_append_40 hl (k := 0) rfl (by decide) (by decide) rfl (fun ls hl => ?_)
  refine lv_goto (tgt := 3) hx hb dX8_append_43 (by decide) ?_
  refine lv_iload_n hx hb dX8_append_3 rfl (lv_at hl 0 rfl) ?_
  refine lv_if_lt (tgt := 46) hx hb dX8_append_4 (by decide) (fun _ => ?_) (fun h => absurd (by decide) h)
  refine g_vret C hr hH (Nat.le_of_ble_eq_true rfl) (Nat.le_of_ble_eq_true rfl) dX8_append_46 ?_
  have h32 : f30 xb = .inl (E.2.2 0, 800, .inl (upd (upd (upd (upd v ((8 : Int32)).toNatClampNeg (vp_nar .byte ((z1).toInt8.toInt32))) ((9 : Int32)).toNatClampNeg (vp_nar .byte ((z8).toInt8.toInt32))) ((10 : Int32)).toNatClampNeg (vp_nar .byte ((z16).toInt8.toInt32))) ((11 : Int32)).toNatClampNeg (vp_nar .byte ((z24).toInt8.toInt32)))) := ((congrFun ef30 xb).trans (va_up_ne _ _ (g_neAO h27 h28))).trans h27
  exact ⟨rfl, h31, ⟨_, h32⟩, fun b h1 h2 => by rw [ef30, va_up_ne _ _ h1, ef26, va_up_ne _ _ h2, ef22, va_up_ne _ _ h1, ef18, va_up_ne _ _ h2, ef14, va_up_ne _ _ h1, ef10, va_up_ne _ _ h2, ef6, va_up_ne _ _ h1, ef2, va_up_ne _ _ h2]⟩
set_option maxHeartbeats 4000000 in
set_option maxRecDepth 100000 in
theorem k_append12 (l : Launch) (E : gE) (L : List Nat) (f : gF) {xt xb : Nat} {v : Nat → Int32} (mt : xt ∈ L) (ft : f xt = .inr (8, [.ref xb, .int (12 : Int32)])) (mb : xb ∈ L) (fb : f xb = .inl (E.2.2 0, 800, .inl v)) (p0 : Int32) : gMv l E yX8_append cX8_append 3 (gRm 1 0 0) [.ref xt, .int p0] L f (fun L1 f1 => L = L1 ∧ f1 xt = .inr (8, [.ref xb, .int (16 : Int32)]) ∧ (∃ z, f1 xb = .inl (E.2.2 0, 800, .inl z)) ∧ ∀ b, b ≠ xt → b ≠ xb → f1 b = f b) := by
  refine gMv.intro (by decide) (Nat.le_of_ble_eq_true rfl) ?_
  intro p e s m below meth c A ls C hr hnm hA hH hl
  have C : gC E cX8_append 3 RX8 p s m _ meth c := C
  have hl : lv_has ls 3 [(0, .ref xt), (1, .int p0)] := hl
  have hx := C.1
  have hb := C.2.1
  refine lv_bipush (v := (24 : Int32)) hx hb dX8_append_0 (by decide) ?_
  refine lv_istore_n (lv' := [(2, .int (24 : Int32)), (0, .ref xt), (1, .int p0)]) hx hb dX8_append_2 rfl hl (by decide) rfl (fun ls hl => ?_)
  refine lv_iload_n hx hb dX8_append_3 rfl (lv_at hl 0 rfl) ?_
  refine lv_if_lt (tgt := 46) hx hb dX8_append_4 (by decide) (fun h => absurd h (by decide)) (fun _ => ?_)
  refine lv_aload_n hx hb dX8_append_7 rfl (lv_at hl 1 rfl) ?_
  refine g_get C hH mt ft iX8 rfl 1 (by decide) wd52 rfl rfl dX8_append_8 ?_
  refine lv_sipush (v := (800 : Int32)) hx hb dX8_append_11 (by decide) ?_
  refine lv_icmp_ge (tgt := 46) hx hb dX8_append_14 (by decide) (fun h => absurd h (by decide)) (fun _ => ?_)
  refine lv_aload_n hx hb dX8_append_17 rfl (lv_at hl 1 rfl) ?_
  refine g_get C hH mt ft iX8 rfl 0 (by decide) wd53 rfl rfl dX8_append_18 ?_
  refine lv_aload_n hx hb dX8_append_21 rfl (lv_at hl 1 rfl) ?_
  refine g_get C hH mt ft iX8 rfl 1 (by decide) wd52 rfl rfl dX8_append_22 ?_
  refine lv_iload_n hx hb dX8_append_25 rfl (lv_at hl 2 rfl) ?_
  refine lv_iload_n hx hb dX8_append_26 rfl (lv_at hl 0 rfl) ?_
  refine lv_ishr hx hb dX8_append_27 ?_
  refine lv_topi (fun z1 ez1 => ?_)
  refine lv_i2b (v := (z1).toInt8.toInt32) hx hb dX8_append_28 rfl ?_
  refine g_bast C hH mb fb (vp_inL (by decide)) dX8_append_29 (fun H locs hH => ?_)
  obtain ⟨f2, ef2⟩ : ∃ z : gF, z = va_up f xb (.inl (E.2.2 0, 800, .inl (upd v ((12 : Int32)).toNatClampNeg (vp_nar .byte ((z1).toInt8.toInt32))))) := ⟨_, rfl⟩
  have hH : gH E A L f2 s.heap H locs := by rw [ef2]; exact hH
  have h3 : f2 xb = .inl (E.2.2 0, 800, .inl (upd v ((12 : Int32)).toNatClampNeg (vp_nar .byte ((z1).toInt8.toInt32)))) := (congrFun ef2 xb).trans (va_up_self _ _ _)
  refine lv_aload_n hx hb dX8_append_30 rfl (lv_at hl 1 rfl) ?_
  refine lv_dup hx hb dX8_append_31 rfl ?_
  have h4 : f2 xt = .inr (8, [.ref xb, .int (12 : Int32)]) := ((congrFun ef2 xt).trans (va_up_ne _ _ (g_neOA ft fb))).trans ft
  refine g_get C hH mt h4 iX8 rfl 1 (by decide) wd52 rfl rfl dX8_append_32 ?_
  refine lv_iconst (v := (1 : Int32)) hx hb dX8_append_35 (by decide) ?_
  refine lv_iadd hx hb dX8_append_36 ?_
  refine lv_topi (fun z5 ez5 => ?_)
  obtain rfl : z5 = (13 : Int32) := ez5.trans (by decide)
  refine g_put C hH mt h4 iX8 tyX8 tyX8_ok nmX8 rfl 1 (by decide) wd52 rfl rfl rfl rfl (Nat.le_of_ble_eq_true rfl) (fs' := [.ref xb, .int (13 : Int32)]) rfl dX8_append_37 (fun H locs hH => ?_)
  obtain ⟨f6, ef6⟩ : ∃ z : gF, z = va_up f2 xt (.inr (8, [.ref xb, .int (13 : Int32)])) := ⟨_, rfl⟩
  have hH : gH E A L f6 s.heap H locs := by rw [ef6]; exact hH
  have h7 : f6 xt = .inr (8, [.ref xb, .int (13 : Int32)]) := (congrFun ef6 xt).trans (va_up_self _ _ _)
  refine lv_iinc (v := (16 : Int32)) (lv' := [(2, .int (16 : Int32)), (0, .ref xt), (1, .int p0)]) hx hb dX8_append_40 hl (k := 0) rfl (by decide) (by decide) rfl (fun ls hl => ?_)
  refine lv_goto (tgt := 3) hx hb dX8_append_43 (by decide) ?_
  refine lv_iload_n hx hb dX8_append_3 rfl (lv_at hl 0 rfl) ?_
  refine lv_if_lt (tgt := 46) hx hb dX8_append_4 (by decide) (fun h => absurd h (by decide)) (fun _ => ?_)
  refine lv_aload_n hx hb dX8_append_7 rfl (lv_at hl 1 rfl) ?_
  refine g_get C hH mt h7 iX8 rfl 1 (by decide) wd52 rfl rfl dX8_append_8 ?_
  refine lv_sipush (v := (800 : Int32)) hx hb dX8_append_11 (by decide) ?_
  refine lv_icmp_ge (tgt := 46) hx hb dX8_append_14 (by decide) (fun h => absurd h (by decide)) (fun _ => ?_)
  refine lv_aload_n hx hb dX8_append_17 rfl (lv_at hl 1 rfl) ?_
  refine g_get C hH mt h7 iX8 rfl 0 (by decide) wd53 rfl rfl dX8_append_18 ?_
  refine lv_aload_n hx hb dX8_append_21 rfl (lv_at hl 1 rfl) ?_
  refine g_get C hH mt h7 iX8 rfl 1 (by decide) wd52 rfl rfl dX8_append_22 ?_
  refine lv_iload_n hx hb dX8_append_25 rfl (lv_at hl 2 rfl) ?_
  refine lv_iload_n hx hb dX8_append_26 rfl (lv_at hl 0 rfl) ?_
  refine lv_ishr hx hb dX8_append_27 ?_
  refine lv_topi (fun z8 ez8 => ?_)
  refine lv_i2b (v := (z8).toInt8.toInt32) hx hb dX8_append_28 rfl ?_
  have h9 : f6 xb = .inl (E.2.2 0, 800, .inl (upd v ((12 : Int32)).toNatClampNeg (vp_nar .byte ((z1).toInt8.toInt32)))) := ((congrFun ef6 xb).trans (va_up_ne _ _ (g_neAO h3 h4))).trans h3
  refine g_bast C hH mb h9 (vp_inL (by decide)) dX8_append_29 (fun H locs hH => ?_)
  obtain ⟨f10, ef10⟩ : ∃ z : gF, z = va_up f6 xb (.inl (E.2.2 0, 800, .inl (upd (upd v ((12 : Int32)).toNatClampNeg (vp_nar .byte ((z1).toInt8.toInt32))) ((13 : Int32)).toNatClampNeg (vp_nar .byte ((z8).toInt8.toInt32))))) := ⟨_, rfl⟩
  have hH : gH E A L f10 s.heap H locs := by rw [ef10]; exact hH
  have h11 : f10 xb = .inl (E.2.2 0, 800, .inl (upd (upd v ((12 : Int32)).toNatClampNeg (vp_nar .byte ((z1).toInt8.toInt32))) ((13 : Int32)).toNatClampNeg (vp_nar .byte ((z8).toInt8.toInt32)))) := (congrFun ef10 xb).trans (va_up_self _ _ _)
  refine lv_aload_n hx hb dX8_append_30 rfl (lv_at hl 1 rfl) ?_
  refine lv_dup hx hb dX8_append_31 rfl ?_
  have h12 : f10 xt = .inr (8, [.ref xb, .int (13 : Int32)]) := ((congrFun ef10 xt).trans (va_up_ne _ _ (g_neOA h7 h9))).trans h7
  refine g_get C hH mt h12 iX8 rfl 1 (by decide) wd52 rfl rfl dX8_append_32 ?_
  refine lv_iconst (v := (1 : Int32)) hx hb dX8_append_35 (by decide) ?_
  refine lv_iadd hx hb dX8_append_36 ?_
  refine lv_topi (fun z13 ez13 => ?_)
  obtain rfl : z13 = (14 : Int32) := ez13.trans (by decide)
  refine g_put C hH mt h12 iX8 tyX8 tyX8_ok nmX8 rfl 1 (by decide) wd52 rfl rfl rfl rfl (Nat.le_of_ble_eq_true rfl) (fs' := [.ref xb, .int (14 : Int32)]) rfl dX8_append_37 (fun H locs hH => ?_)
  obtain ⟨f14, ef14⟩ : ∃ z : gF, z = va_up f10 xt (.inr (8, [.ref xb, .int (14 : Int32)])) := ⟨_, rfl⟩
  have hH : gH E A L f14 s.heap H locs := by rw [ef14]; exact hH
  have h15 : f14 xt = .inr (8, [.ref xb, .int (14 : Int32)]) := (congrFun ef14 xt).trans (va_up_self _ _ _)
  refine lv_iinc (v := (8 : Int32)) (lv' := [(2, .int (8 : Int32)), (0, .ref xt), (1, .int p0)]) hx hb dX8_append_40 hl (k := 0) rfl (by decide) (by decide) rfl (fun ls hl => ?_)
  refine lv_goto (tgt := 3) hx hb dX8_append_43 (by decide) ?_
  refine lv_iload_n hx hb dX8_append_3 rfl (lv_at hl 0 rfl) ?_
  refine lv_if_lt (tgt := 46) hx hb dX8_append_4 (by decide) (fun h => absurd h (by decide)) (fun _ => ?_)
  refine lv_aload_n hx hb dX8_append_7 rfl (lv_at hl 1 rfl) ?_
  refine g_get C hH mt h15 iX8 rfl 1 (by decide) wd52 rfl rfl dX8_append_8 ?_
  refine lv_sipush (v := (800 : Int32)) hx hb dX8_append_11 (by decide) ?_
  refine lv_icmp_ge (tgt := 46) hx hb dX8_append_14 (by decide) (fun h => absurd h (by decide)) (fun _ => ?_)
  refine lv_aload_n hx hb dX8_append_17 rfl (lv_at hl 1 rfl) ?_
  refine g_get C hH mt h15 iX8 rfl 0 (by decide) wd53 rfl rfl dX8_append_18 ?_
  refine lv_aload_n hx hb dX8_append_21 rfl (lv_at hl 1 rfl) ?_
  refine g_get C hH mt h15 iX8 rfl 1 (by decide) wd52 rfl rfl dX8_append_22 ?_
  refine lv_iload_n hx hb dX8_append_25 rfl (lv_at hl 2 rfl) ?_
  refine lv_iload_n hx hb dX8_append_26 rfl (lv_at hl 0 rfl) ?_
  refine lv_ishr hx hb dX8_append_27 ?_
  refine lv_topi (fun z16 ez16 => ?_)
  refine lv_i2b (v := (z16).toInt8.toInt32) hx hb dX8_append_28 rfl ?_
  have h17 : f14 xb = .inl (E.2.2 0, 800, .inl (upd (upd v ((12 : Int32)).toNatClampNeg (vp_nar .byte ((z1).toInt8.toInt32))) ((13 : Int32)).toNatClampNeg (vp_nar .byte ((z8).toInt8.toInt32)))) := ((congrFun ef14 xb).trans (va_up_ne _ _ (g_neAO h11 h12))).trans h11
  refine g_bast C hH mb h17 (vp_inL (by decide)) dX8_append_29 (fun H locs hH => ?_)
  obtain ⟨f18, ef18⟩ : ∃ z : gF, z = va_up f14 xb (.inl (E.2.2 0, 800, .inl (upd (upd (upd v ((12 : Int32)).toNatClampNeg (vp_nar .byte ((z1).toInt8.toInt32))) ((13 : Int32)).toNatClampNeg (vp_nar .byte ((z8).toInt8.toInt32))) ((14 : Int32)).toNatClampNeg (vp_nar .byte ((z16).toInt8.toInt32))))) := ⟨_, rfl⟩
  have hH : gH E A L f18 s.heap H locs := by rw [ef18]; exact hH
  have h19 : f18 xb = .inl (E.2.2 0, 800, .inl (upd (upd (upd v ((12 : Int32)).toNatClampNeg (vp_nar .byte ((z1).toInt8.toInt32))) ((13 : Int32)).toNatClampNeg (vp_nar .byte ((z8).toInt8.toInt32))) ((14 : Int32)).toNatClampNeg (vp_nar .byte ((z16).toInt8.toInt32)))) := (congrFun ef18 xb).trans (va_up_self _ _ _)
  refine lv_aload_n hx hb dX8_append_30 rfl (lv_at hl 1 rfl) ?_
  refine lv_dup hx hb dX8_append_31 rfl ?_
  have h20 : f18 xt = .inr (8, [.ref xb, .int (14 : Int32)]) := ((congrFun ef18 xt).trans (va_up_ne _ _ (g_neOA h15 h17))).trans h15
  refine g_get C hH mt h20 iX8 rfl 1 (by decide) wd52 rfl rfl dX8_append_32 ?_
  refine lv_iconst (v := (1 : Int32)) hx hb dX8_append_35 (by decide) ?_
  refine lv_iadd hx hb dX8_append_36 ?_
  refine lv_topi (fun z21 ez21 => ?_)
  obtain rfl : z21 = (15 : Int32) := ez21.trans (by decide)
  refine g_put C hH mt h20 iX8 tyX8 tyX8_ok nmX8 rfl 1 (by decide) wd52 rfl rfl rfl rfl (Nat.le_of_ble_eq_true rfl) (fs' := [.ref xb, .int (15 : Int32)]) rfl dX8_append_37 (fun H locs hH => ?_)
  obtain ⟨f22, ef22⟩ : ∃ z : gF, z = va_up f18 xt (.inr (8, [.ref xb, .int (15 : Int32)])) := ⟨_, rfl⟩
  have hH : gH E A L f22 s.heap H locs := by rw [ef22]; exact hH
  have h23 : f22 xt = .inr (8, [.ref xb, .int (15 : Int32)]) := (congrFun ef22 xt).trans (va_up_self _ _ _)
  refine lv_iinc (v := (0 : Int32)) (lv' := [(2, .int (0 : Int32)), (0, .ref xt), (1, .int p0)]) hx hb dX8_append_40 hl (k := 0) rfl (by decide) (by decide) rfl (fun ls hl => ?_)
  refine lv_goto (tgt := 3) hx hb dX8_append_43 (by decide) ?_
  refine lv_iload_n hx hb dX8_append_3 rfl (lv_at hl 0 rfl) ?_
  refine lv_if_lt (tgt := 46) hx hb dX8_append_4 (by decide) (fun h => absurd h (by decide)) (fun _ => ?_)
  refine lv_aload_n hx hb dX8_append_7 rfl (lv_at hl 1 rfl) ?_
  refine g_get C hH mt h23 iX8 rfl 1 (by decide) wd52 rfl rfl dX8_append_8 ?_
  refine lv_sipush (v := (800 : Int32)) hx hb dX8_append_11 (by decide) ?_
  refine lv_icmp_ge (tgt := 46) hx hb dX8_append_14 (by decide) (fun h => absurd h (by decide)) (fun _ => ?_)
  refine lv_aload_n hx hb dX8_append_17 rfl (lv_at hl 1 rfl) ?_
  refine g_get C hH mt h23 iX8 rfl 0 (by decide) wd53 rfl rfl dX8_append_18 ?_
  refine lv_aload_n hx hb dX8_append_21 rfl (lv_at hl 1 rfl) ?_
  refine g_get C hH mt h23 iX8 rfl 1 (by decide) wd52 rfl rfl dX8_append_22 ?_
  refine lv_iload_n hx hb dX8_append_25 rfl (lv_at hl 2 rfl) ?_
  refine lv_iload_n hx hb dX8_append_26 rfl (lv_at hl 0 rfl) ?_
  refine lv_ishr hx hb dX8_append_27 ?_
  refine lv_topi (fun z24 ez24 => ?_)
  refine lv_i2b (v := (z24).toInt8.toInt32) hx hb dX8_append_28 rfl ?_
  have h25 : f22 xb = .inl (E.2.2 0, 800, .inl (upd (upd (upd v ((12 : Int32)).toNatClampNeg (vp_nar .byte ((z1).toInt8.toInt32))) ((13 : Int32)).toNatClampNeg (vp_nar .byte ((z8).toInt8.toInt32))) ((14 : Int32)).toNatClampNeg (vp_nar .byte ((z16).toInt8.toInt32)))) := ((congrFun ef22 xb).trans (va_up_ne _ _ (g_neAO h19 h20))).trans h19
  refine g_bast C hH mb h25 (vp_inL (by decide)) dX8_append_29 (fun H locs hH => ?_)
  obtain ⟨f26, ef26⟩ : ∃ z : gF, z = va_up f22 xb (.inl (E.2.2 0, 800, .inl (upd (upd (upd (upd v ((12 : Int32)).toNatClampNeg (vp_nar .byte ((z1).toInt8.toInt32))) ((13 : Int32)).toNatClampNeg (vp_nar .byte ((z8).toInt8.toInt32))) ((14 : Int32)).toNatClampNeg (vp_nar .byte ((z16).toInt8.toInt32))) ((15 : Int32)).toNatClampNeg (vp_nar .byte ((z24).toInt8.toInt32))))) := ⟨_, rfl⟩
  have hH : gH E A L f26 s.heap H locs := by rw [ef26]; exact hH
  have h27 : f26 xb = .inl (E.2.2 0, 800, .inl (upd (upd (upd (upd v ((12 : Int32)).toNatClampNeg (vp_nar .byte ((z1).toInt8.toInt32))) ((13 : Int32)).toNatClampNeg (vp_nar .byte ((z8).toInt8.toInt32))) ((14 : Int32)).toNatClampNeg (vp_nar .byte ((z16).toInt8.toInt32))) ((15 : Int32)).toNatClampNeg (vp_nar .byte ((z24).toInt8.toInt32)))) := (congrFun ef26 xb).trans (va_up_self _ _ _)
  refine lv_aload_n hx hb dX8_append_30 rfl (lv_at hl 1 rfl) ?_
  refine lv_dup hx hb dX8_append_31 rfl ?_
  have h28 : f26 xt = .inr (8, [.ref xb, .int (15 : Int32)]) := ((congrFun ef26 xt).trans (va_up_ne _ _ (g_neOA h23 h25))).trans h23
  refine g_get C hH mt h28 iX8 rfl 1 (by decide) wd52 rfl rfl dX8_append_32 ?_
  refine lv_iconst (v := (1 : Int32)) hx hb dX8_append_35 (by decide) ?_
  refine lv_iadd hx hb dX8_append_36 ?_
  refine lv_topi (fun z29 ez29 => ?_)
  obtain rfl : z29 = (16 : Int32) := ez29.trans (by decide)
  refine g_put C hH mt h28 iX8 tyX8 tyX8_ok nmX8 rfl 1 (by decide) wd52 rfl rfl rfl rfl (Nat.le_of_ble_eq_true rfl) (fs' := [.ref xb, .int (16 : Int32)]) rfl dX8_append_37 (fun H locs hH => ?_)
  obtain ⟨f30, ef30⟩ : ∃ z : gF, z = va_up f26 xt (.inr (8, [.ref xb, .int (16 : Int32)])) := ⟨_, rfl⟩
  have hH : gH E A L f30 s.heap H locs := by rw [ef30]; exact hH
  have h31 : f30 xt = .inr (8, [.ref xb, .int (16 : Int32)]) := (congrFun ef30 xt).trans (va_up_self _ _ _)
  refine lv_iinc (v := (-8 : Int32)) (lv' := [(2, .int (-8 : Int32)), (0, .ref xt), (1, .int p0)]) hx hb dX8_append_40 hl (k := 0) rfl (by decide) (by decide) rfl (fun ls hl => ?_)
  refine lv_goto (tgt := 3) hx hb dX8_append_43 (by decide) ?_
  refine lv_iload_n hx hb dX8_append_3 rfl (lv_at hl 0 rfl) ?_
  refine lv_if_lt (tgt := 46) hx hb dX8_append_4 (by decide) (fun _ => ?_) (fun h => absurd (by decide) h)
  refine g_vret C hr hH (Nat.le_of_ble_eq_true rfl) (Nat.le_of_ble_eq_true rfl) dX8_append_46 ?_
  have h32 : f30 xb = .inl (E.2.2 0, 800, .inl (upd (upd (upd (upd v ((12 : Int32)).toNatClampNeg (vp_nar .byte ((z1).toInt8.toInt32))) ((13 : Int32)).toNatClampNeg (vp_nar .byte ((z8).toInt8.toInt32))) ((14 : Int32)).toNatClampNeg (vp_nar .byte ((z16).toInt8.toInt32))) ((15 : Int32)).toNatClampNeg (vp_nar .byte ((z24).toInt8.toInt32)))) := ((congrFun ef30 xb).trans (va_up_ne _ _ (g_neAO h27 h28))).trans h27
  exact ⟨rfl, h31, ⟨_, h32⟩, fun b h1 h2 => by rw [ef30, va_up_ne _ _ h1, ef26, va_up_ne _ _ h2, ef22, va_up_ne _ _ h1, ef18, va_up_ne _ _ h2, ef14, va_up_ne _ _ h1, ef10, va_up_ne _ _ h2, ef6, va_up_ne _ _ h1, ef2, va_up_ne _ _ h2]⟩
set_option maxHeartbeats 4000000 in
set_option maxRecDepth 100000 in
theorem k_append16 (l : Launch) (E : gE) (L : List Nat) (f : gF) {xt xb : Nat} {v : Nat → Int32} (mt : xt ∈ L) (ft : f xt = .inr (8, [.ref xb, .int (16 : Int32)])) (mb : xb ∈ L) (fb : f xb = .inl (E.2.2 0, 800, .inl v)) (p0 : Int32) : gMv l E yX8_append cX8_append 3 (gRm 1 0 0) [.ref xt, .int p0] L f (fun L1 f1 => L = L1 ∧ f1 xt = .inr (8, [.ref xb, .int (20 : Int32)]) ∧ (∃ z, f1 xb = .inl (E.2.2 0, 800, .inl z)) ∧ ∀ b, b ≠ xt → b ≠ xb → f1 b = f b) := by
  refine gMv.intro (by decide) (Nat.le_of_ble_eq_true rfl) ?_
  intro p e s m below meth c A ls C hr hnm hA hH hl
  have C : gC E cX8_append 3 RX8 p s m _ meth c := C
  have hl : lv_has ls 3 [(0, .ref xt), (1, .int p0)] := hl
  have hx := C.1
  have hb := C.2.1
  refine lv_bipush (v := (24 : Int32)) hx hb dX8_append_0 (by decide) ?_
  refine lv_istore_n (lv' := [(2, .int (24 : Int32)), (0, .ref xt), (1, .int p0)]) hx hb dX8_append_2 rfl hl (by decide) rfl (fun ls hl => ?_)
  refine lv_iload_n hx hb dX8_append_3 rfl (lv_at hl 0 rfl) ?_
  refine lv_if_lt (tgt := 46) hx hb dX8_append_4 (by decide) (fun h => absurd h (by decide)) (fun _ => ?_)
  refine lv_aload_n hx hb dX8_append_7 rfl (lv_at hl 1 rfl) ?_
  refine g_get C hH mt ft iX8 rfl 1 (by decide) wd52 rfl rfl dX8_append_8 ?_
  refine lv_sipush (v := (800 : Int32)) hx hb dX8_append_11 (by decide) ?_
  refine lv_icmp_ge (tgt := 46) hx hb dX8_append_14 (by decide) (fun h => absurd h (by decide)) (fun _ => ?_)
  refine lv_aload_n hx hb dX8_append_17 rfl (lv_at hl 1 rfl) ?_
  refine g_get C hH mt ft iX8 rfl 0 (by decide) wd53 rfl rfl dX8_append_18 ?_
  refine lv_aload_n hx hb dX8_append_21 rfl (lv_at hl 1 rfl) ?_
  refine g_get C hH mt ft iX8 rfl 1 (by decide) wd52 rfl rfl dX8_append_22 ?_
  refine lv_iload_n hx hb dX8_append_25 rfl (lv_at hl 2 rfl) ?_
  refine lv_iload_n hx hb dX8_append_26 rfl (lv_at hl 0 rfl) ?_
  refine lv_ishr hx hb dX8_append_27 ?_
  refine lv_topi (fun z1 ez1 => ?_)
  refine lv_i2b (v := (z1).toInt8.toInt32) hx hb dX8_append_28 rfl ?_
  refine g_bast C hH mb fb (vp_inL (by decide)) dX8_append_29 (fun H locs hH => ?_)
  obtain ⟨f2, ef2⟩ : ∃ z : gF, z = va_up f xb (.inl (E.2.2 0, 800, .inl (upd v ((16 : Int32)).toNatClampNeg (vp_nar .byte ((z1).toInt8.toInt32))))) := ⟨_, rfl⟩
  have hH : gH E A L f2 s.heap H locs := by rw [ef2]; exact hH
  have h3 : f2 xb = .inl (E.2.2 0, 800, .inl (upd v ((16 : Int32)).toNatClampNeg (vp_nar .byte ((z1).toInt8.toInt32)))) := (congrFun ef2 xb).trans (va_up_self _ _ _)
  refine lv_aload_n hx hb dX8_append_30 rfl (lv_at hl 1 rfl) ?_
  refine lv_dup hx hb dX8_append_31 rfl ?_
  have h4 : f2 xt = .inr (8, [.ref xb, .int (16 : Int32)]) := ((congrFun ef2 xt).trans (va_up_ne _ _ (g_neOA ft fb))).trans ft
  refine g_get C hH mt h4 iX8 rfl 1 (by decide) wd52 rfl rfl dX8_append_32 ?_
  refine lv_iconst (v := (1 : Int32)) hx hb dX8_append_35 (by decide) ?_
  refine lv_iadd hx hb dX8_append_36 ?_
  refine lv_topi (fun z5 ez5 => ?_)
  obtain rfl : z5 = (17 : Int32) := ez5.trans (by decide)
  refine g_put C hH mt h4 iX8 tyX8 tyX8_ok nmX8 rfl 1 (by decide) wd52 rfl rfl rfl rfl (Nat.le_of_ble_eq_true rfl) (fs' := [.ref xb, .int (17 : Int32)]) rfl dX8_append_37 (fun H locs hH => ?_)
  obtain ⟨f6, ef6⟩ : ∃ z : gF, z = va_up f2 xt (.inr (8, [.ref xb, .int (17 : Int32)])) := ⟨_, rfl⟩
  have hH : gH E A L f6 s.heap H locs := by rw [ef6]; exact hH
  have h7 : f6 xt = .inr (8, [.ref xb, .int (17 : Int32)]) := (congrFun ef6 xt).trans (va_up_self _ _ _)
  refine lv_iinc (v := (16 : Int32)) (lv' := [(2, .int (16 : Int32)), (0, .ref xt), (1, .int p0)]) hx hb dX8_append_40 hl (k := 0) rfl (by decide) (by decide) rfl (fun ls hl => ?_)
  refine lv_goto (tgt := 3) hx hb dX8_append_43 (by decide) ?_
  refine lv_iload_n hx hb dX8_append_3 rfl (lv_at hl 0 rfl) ?_
  refine lv_if_lt (tgt := 46) hx hb dX8_append_4 (by decide) (fun h => absurd h (by decide)) (fun _ => ?_)
  refine lv_aload_n hx hb dX8_append_7 rfl (lv_at hl 1 rfl) ?_
  refine g_get C hH mt h7 iX8 rfl 1 (by decide) wd52 rfl rfl dX8_append_8 ?_
  refine lv_sipush (v := (800 : Int32)) hx hb dX8_append_11 (by decide) ?_
  refine lv_icmp_ge (tgt := 46) hx hb dX8_append_14 (by decide) (fun h => absurd h (by decide)) (fun _ => ?_)
  refine lv_aload_n hx hb dX8_append_17 rfl (lv_at hl 1 rfl) ?_
  refine g_get C hH mt h7 iX8 rfl 0 (by decide) wd53 rfl rfl dX8_append_18 ?_
  refine lv_aload_n hx hb dX8_append_21 rfl (lv_at hl 1 rfl) ?_
  refine g_get C hH mt h7 iX8 rfl 1 (by decide) wd52 rfl rfl dX8_append_22 ?_
  refine lv_iload_n hx hb dX8_append_25 rfl (lv_at hl 2 rfl) ?_
  refine lv_iload_n hx hb dX8_append_26 rfl (lv_at hl 0 rfl) ?_
  refine lv_ishr hx hb dX8_append_27 ?_
  refine lv_topi (fun z8 ez8 => ?_)
  refine lv_i2b (v := (z8).toInt8.toInt32) hx hb dX8_append_28 rfl ?_
  have h9 : f6 xb = .inl (E.2.2 0, 800, .inl (upd v ((16 : Int32)).toNatClampNeg (vp_nar .byte ((z1).toInt8.toInt32)))) := ((congrFun ef6 xb).trans (va_up_ne _ _ (g_neAO h3 h4))).trans h3
  refine g_bast C hH mb h9 (vp_inL (by decide)) dX8_append_29 (fun H locs hH => ?_)
  obtain ⟨f10, ef10⟩ : ∃ z : gF, z = va_up f6 xb (.inl (E.2.2 0, 800, .inl (upd (upd v ((16 : Int32)).toNatClampNeg (vp_nar .byte ((z1).toInt8.toInt32))) ((17 : Int32)).toNatClampNeg (vp_nar .byte ((z8).toInt8.toInt32))))) := ⟨_, rfl⟩
  have hH : gH E A L f10 s.heap H locs := by rw [ef10]; exact hH
  have h11 : f10 xb = .inl (E.2.2 0, 800, .inl (upd (upd v ((16 : Int32)).toNatClampNeg (vp_nar .byte ((z1).toInt8.toInt32))) ((17 : Int32)).toNatClampNeg (vp_nar .byte ((z8).toInt8.toInt32)))) := (congrFun ef10 xb).trans (va_up_self _ _ _)
  refine lv_aload_n hx hb dX8_append_30 rfl (lv_at hl 1 rfl) ?_
  refine lv_dup hx hb dX8_append_31 rfl ?_
  have h12 : f10 xt = .inr (8, [.ref xb, .int (17 : Int32)]) := ((congrFun ef10 xt).trans (va_up_ne _ _ (g_neOA h7 h9))).trans h7
  refine g_get C hH mt h12 iX8 rfl 1 (by decide) wd52 rfl rfl dX8_append_32 ?_
  refine lv_iconst (v := (1 : Int32)) hx hb dX8_append_35 (by decide) ?_
  refine lv_iadd hx hb dX8_append_36 ?_
  refine lv_topi (fun z13 ez13 => ?_)
  obtain rfl : z13 = (18 : Int32) := ez13.trans (by decide)
  refine g_put C hH mt h12 iX8 tyX8 tyX8_ok nmX8 rfl 1 (by decide) wd52 rfl rfl rfl rfl (Nat.le_of_ble_eq_true rfl) (fs' := [.ref xb, .int (18 : Int32)]) rfl dX8_append_37 (fun H locs hH => ?_)
  obtain ⟨f14, ef14⟩ : ∃ z : gF, z = va_up f10 xt (.inr (8, [.ref xb, .int (18 : Int32)])) := ⟨_, rfl⟩
  have hH : gH E A L f14 s.heap H locs := by rw [ef14]; exact hH
  have h15 : f14 xt = .inr (8, [.ref xb, .int (18 : Int32)]) := (congrFun ef14 xt).trans (va_up_self _ _ _)
  refine lv_iinc (v := (8 : Int32)) (lv' := [(2, .int (8 : Int32)), (0, .ref xt), (1, .int p0)]) hx hb dX8_append_40 hl (k := 0) rfl (by decide) (by decide) rfl (fun ls hl => ?_)
  refine lv_goto (tgt := 3) hx hb dX8_append_43 (by decide) ?_
  refine lv_iload_n hx hb dX8_append_3 rfl (lv_at hl 0 rfl) ?_
  refine lv_if_lt (tgt := 46) hx hb dX8_append_4 (by decide) (fun h => absurd h (by decide)) (fun _ => ?_)
  refine lv_aload_n hx hb dX8_append_7 rfl (lv_at hl 1 rfl) ?_
  refine g_get C hH mt h15 iX8 rfl 1 (by decide) wd52 rfl rfl dX8_append_8 ?_
  refine lv_sipush (v := (800 : Int32)) hx hb dX8_append_11 (by decide) ?_
  refine lv_icmp_ge (tgt := 46) hx hb dX8_append_14 (by decide) (fun h => absurd h (by decide)) (fun _ => ?_)
  refine lv_aload_n hx hb dX8_append_17 rfl (lv_at hl 1 rfl) ?_
  refine g_get C hH mt h15 iX8 rfl 0 (by decide) wd53 rfl rfl dX8_append_18 ?_
  refine lv_aload_n hx hb dX8_append_21 rfl (lv_at hl 1 rfl) ?_
  refine g_get C hH mt h15 iX8 rfl 1 (by decide) wd52 rfl rfl dX8_append_22 ?_
  refine lv_iload_n hx hb dX8_append_25 rfl (lv_at hl 2 rfl) ?_
  refine lv_iload_n hx hb dX8_append_26 rfl (lv_at hl 0 rfl) ?_
  refine lv_ishr hx hb dX8_append_27 ?_
  refine lv_topi (fun z16 ez16 => ?_)
  refine lv_i2b (v := (z16).toInt8.toInt32) hx hb dX8_append_28 rfl ?_
  have h17 : f14 xb = .inl (E.2.2 0, 800, .inl (upd (upd v ((16 : Int32)).toNatClampNeg (vp_nar .byte ((z1).toInt8.toInt32))) ((17 : Int32)).toNatClampNeg (vp_nar .byte ((z8).toInt8.toInt32)))) := ((congrFun ef14 xb).trans (va_up_ne _ _ (g_neAO h11 h12))).trans h11
  refine g_bast C hH mb h17 (vp_inL (by decide)) dX8_append_29 (fun H locs hH => ?_)
  obtain ⟨f18, ef18⟩ : ∃ z : gF, z = va_up f14 xb (.inl (E.2.2 0, 800, .inl (upd (upd (upd v ((16 : Int32)).toNatClampNeg (vp_nar .byte ((z1).toInt8.toInt32))) ((17 : Int32)).toNatClampNeg (vp_nar .byte ((z8).toInt8.toInt32))) ((18 : Int32)).toNatClampNeg (vp_nar .byte ((z16).toInt8.toInt32))))) := ⟨_, rfl⟩
  have hH : gH E A L f18 s.heap H locs := by rw [ef18]; exact hH
  have h19 : f18 xb = .inl (E.2.2 0, 800, .inl (upd (upd (upd v ((16 : Int32)).toNatClampNeg (vp_nar .byte ((z1).toInt8.toInt32))) ((17 : Int32)).toNatClampNeg (vp_nar .byte ((z8).toInt8.toInt32))) ((18 : Int32)).toNatClampNeg (vp_nar .byte ((z16).toInt8.toInt32)))) := (congrFun ef18 xb).trans (va_up_self _ _ _)
  refine lv_aload_n hx hb dX8_append_30 rfl (lv_at hl 1 rfl) ?_
  refine lv_dup hx hb dX8_append_31 rfl ?_
  have h20 : f18 xt = .inr (8, [.ref xb, .int (18 : Int32)]) := ((congrFun ef18 xt).trans (va_up_ne _ _ (g_neOA h15 h17))).trans h15
  refine g_get C hH mt h20 iX8 rfl 1 (by decide) wd52 rfl rfl dX8_append_32 ?_
  refine lv_iconst (v := (1 : Int32)) hx hb dX8_append_35 (by decide) ?_
  refine lv_iadd hx hb dX8_append_36 ?_
  refine lv_topi (fun z21 ez21 => ?_)
  obtain rfl : z21 = (19 : Int32) := ez21.trans (by decide)
  refine g_put C hH mt h20 iX8 tyX8 tyX8_ok nmX8 rfl 1 (by decide) wd52 rfl rfl rfl rfl (Nat.le_of_ble_eq_true rfl) (fs' := [.ref xb, .int (19 : Int32)]) rfl dX8_append_37 (fun H locs hH => ?_)
  obtain ⟨f22, ef22⟩ : ∃ z : gF, z = va_up f18 xt (.inr (8, [.ref xb, .int (19 : Int32)])) := ⟨_, rfl⟩
  have hH : gH E A L f22 s.heap H locs := by rw [ef22]; exact hH
  have h23 : f22 xt = .inr (8, [.ref xb, .int (19 : Int32)]) := (congrFun ef22 xt).trans (va_up_self _ _ _)
  refine lv_iinc (v := (0 : Int32)) (lv' := [(2, .int (0 : Int32)), (0, .ref xt), (1, .int p0)]) hx hb dX8_append_40 hl (k := 0) rfl (by decide) (by decide) rfl (fun ls hl => ?_)
  refine lv_goto (tgt := 3) hx hb dX8_append_43 (by decide) ?_
  refine lv_iload_n hx hb dX8_append_3 rfl (lv_at hl 0 rfl) ?_
  refine lv_if_lt (tgt := 46) hx hb dX8_append_4 (by decide) (fun h => absurd h (by decide)) (fun _ => ?_)
  refine lv_aload_n hx hb dX8_append_7 rfl (lv_at hl 1 rfl) ?_
  refine g_get C hH mt h23 iX8 rfl 1 (by decide) wd52 rfl rfl dX8_append_8 ?_
  refine lv_sipush (v := (800 : Int32)) hx hb dX8_append_11 (by decide) ?_
  refine lv_icmp_ge (tgt := 46) hx hb dX8_append_14 (by decide) (fun h => absurd h (by decide)) (fun _ => ?_)
  refine lv_aload_n hx hb dX8_append_17 rfl (lv_at hl 1 rfl) ?_
  refine g_get C hH mt h23 iX8 rfl 0 (by decide) wd53 rfl rfl dX8_append_18 ?_
  refine lv_aload_n hx hb dX8_append_21 rfl (lv_at hl 1 rfl) ?_
  refine g_get C hH mt h23 iX8 rfl 1 (by decide) wd52 rfl rfl dX8_append_22 ?_
  refine lv_iload_n hx hb dX8_append_25 rfl (lv_at hl 2 rfl) ?_
  refine lv_iload_n hx hb dX8_append_26 rfl (lv_at hl 0 rfl) ?_
  refine lv_ishr hx hb dX8_append_27 ?_
  refine lv_topi (fun z24 ez24 => ?_)
  refine lv_i2b (v := (z24).toInt8.toInt32) hx hb dX8_append_28 rfl ?_
  have h25 : f22 xb = .inl (E.2.2 0, 800, .inl (upd (upd (upd v ((16 : Int32)).toNatClampNeg (vp_nar .byte ((z1).toInt8.toInt32))) ((17 : Int32)).toNatClampNeg (vp_nar .byte ((z8).toInt8.toInt32))) ((18 : Int32)).toNatClampNeg (vp_nar .byte ((z16).toInt8.toInt32)))) := ((congrFun ef22 xb).trans (va_up_ne _ _ (g_neAO h19 h20))).trans h19
  refine g_bast C hH mb h25 (vp_inL (by decide)) dX8_append_29 (fun H locs hH => ?_)
  obtain ⟨f26, ef26⟩ : ∃ z : gF, z = va_up f22 xb (.inl (E.2.2 0, 800, .inl (upd (upd (upd (upd v ((16 : Int32)).toNatClampNeg (vp_nar .byte ((z1).toInt8.toInt32))) ((17 : Int32)).toNatClampNeg (vp_nar .byte ((z8).toInt8.toInt32))) ((18 : Int32)).toNatClampNeg (vp_nar .byte ((z16).toInt8.toInt32))) ((19 : Int32)).toNatClampNeg (vp_nar .byte ((z24).toInt8.toInt32))))) := ⟨_, rfl⟩
  have hH : gH E A L f26 s.heap H locs := by rw [ef26]; exact hH
  have h27 : f26 xb = .inl (E.2.2 0, 800, .inl (upd (upd (upd (upd v ((16 : Int32)).toNatClampNeg (vp_nar .byte ((z1).toInt8.toInt32))) ((17 : Int32)).toNatClampNeg (vp_nar .byte ((z8).toInt8.toInt32))) ((18 : Int32)).toNatClampNeg (vp_nar .byte ((z16).toInt8.toInt32))) ((19 : Int32)).toNatClampNeg (vp_nar .byte ((z24).toInt8.toInt32)))) := (congrFun ef26 xb).trans (va_up_self _ _ _)
  refine lv_aload_n hx hb dX8_append_30 rfl (lv_at hl 1 rfl) ?_
  refine lv_dup hx hb dX8_append_31 rfl ?_
  have h28 : f26 xt = .inr (8, [.ref xb, .int (19 : Int32)]) := ((congrFun ef26 xt).trans (va_up_ne _ _ (g_neOA h23 h25))).trans h23
  refine g_get C hH mt h28 iX8 rfl 1 (by decide) wd52 rfl rfl dX8_append_32 ?_
  refine lv_iconst (v := (1 : Int32)) hx hb dX8_append_35 (by decide) ?_
  refine lv_iadd hx hb dX8_append_36 ?_
  refine lv_topi (fun z29 ez29 => ?_)
  obtain rfl : z29 = (20 : Int32) := ez29.trans (by decide)
  refine g_put C hH mt h28 iX8 tyX8 tyX8_ok nmX8 rfl 1 (by decide) wd52 rfl rfl rfl rfl (Nat.le_of_ble_eq_true rfl) (fs' := [.ref xb, .int (20 : Int32)]) rfl dX8_append_37 (fun H locs hH => ?_)
  obtain ⟨f30, ef30⟩ : ∃ z : gF, z = va_up f26 xt (.inr (8, [.ref xb, .int (20 : Int32)])) := ⟨_, rfl⟩
  have hH : gH E A L f30 s.heap H locs := by rw [ef30]; exact hH
  have h31 : f30 xt = .inr (8, [.ref xb, .int (20 : Int32)]) := (congrFun ef30 xt).trans (va_up_self _ _ _)
  refine lv_iinc (v := (-8 : Int32)) (lv' := [(2, .int (-8 : Int32)), (0, .ref xt), (1, .int p0)]) hx hb dX8_append_40 hl (k := 0) rfl (by decide) (by decide) rfl (fun ls hl => ?_)
  refine lv_goto (tgt := 3) hx hb dX8_append_43 (by decide) ?_
  refine lv_iload_n hx hb dX8_append_3 rfl (lv_at hl 0 rfl) ?_
  refine lv_if_lt (tgt := 46) hx hb dX8_append_4 (by decide) (fun _ => ?_) (fun h => absurd (by decide) h)
  refine g_vret C hr hH (Nat.le_of_ble_eq_true rfl) (Nat.le_of_ble_eq_true rfl) dX8_append_46 ?_
  have h32 : f30 xb = .inl (E.2.2 0, 800, .inl (upd (upd (upd (upd v ((16 : Int32)).toNatClampNeg (vp_nar .byte ((z1).toInt8.toInt32))) ((17 : Int32)).toNatClampNeg (vp_nar .byte ((z8).toInt8.toInt32))) ((18 : Int32)).toNatClampNeg (vp_nar .byte ((z16).toInt8.toInt32))) ((19 : Int32)).toNatClampNeg (vp_nar .byte ((z24).toInt8.toInt32)))) := ((congrFun ef30 xb).trans (va_up_ne _ _ (g_neAO h27 h28))).trans h27
  exact ⟨rfl, h31, ⟨_, h32⟩, fun b h1 h2 => by rw [ef30, va_up_ne _ _ h1, ef26, va_up_ne _ _ h2, ef22, va_up_ne _ _ h1, ef18, va_up_ne _ _ h2, ef14, va_up_ne _ _ h1, ef10, va_up_ne _ _ h2, ef6, va_up_ne _ _ h1, ef2, va_up_ne _ _ h2]⟩
set_option maxHeartbeats 4000000 in
set_option maxRecDepth 100000 in
theorem k_feed (l : Launch) (E : gE) (L : List Nat) (f : gF) {x xt xn xr xi xw xs xl xc xh xf xm : Nat} (mx : x ∈ L) (fx : f x = .inr (9, [.ref xt, .ref xn, .ref xr, .ref xi, .ref xw, .ref xs, .ref xl, .ref xc, .ref xh, .ref xf, .ref xm])) {xb : Nat} {v : Nat → Int32} (mt : xt ∈ L) (ft : f xt = .inr (8, [.ref xb, .int (0 : Int32)])) (mb : xb ∈ L) (fb : f xb = .inl (E.2.2 0, 800, .inl v)) (p0 p1 p2 p3 p4 : Int32) : gMi l E yX9_feed cX9_feed 6 .int (gRm 3 0 0) [.ref x, .int p0, .int p1, .int p2, .int p3, .int p4] L f (fun r _ _ => r = 20) := by
  refine gMi.intro (by decide) (Nat.le_of_ble_eq_true rfl) ?_
  intro p e s m below meth c A ls C hr hA hH hl
  have C : gC E cX9_feed 6 RX9 p s m _ meth c := C
  have hl : lv_has ls 6 [(0, .ref x), (1, .int p0), (2, .int p1), (3, .int p2), (4, .int p3), (5, .int p4)] := hl
  have hx := C.1
  have hb := C.2.1
  refine lv_aload_n hx hb dX9_feed_0 rfl (lv_at hl 0 rfl) ?_
  refine g_get C hH mx fx iX9 rfl 0 (by decide) wd54 rfl rfl dX9_feed_1 ?_
  refine g_get C hH mt ft iX8 rfl 1 (by decide) wd55 rfl rfl dX9_feed_4 ?_
  refine lv_bipush (v := (20 : Int32)) hx hb dX9_feed_7 (by decide) ?_
  refine lv_iadd hx hb dX9_feed_9 ?_
  refine lv_topi (fun z1 ez1 => ?_)
  obtain rfl : z1 = (20 : Int32) := ez1.trans (by decide)
  refine lv_sipush (v := (800 : Int32)) hx hb dX9_feed_10 (by decide) ?_
  refine lv_icmp_le (tgt := 18) hx hb dX9_feed_13 (by decide) (fun _ => ?_) (fun h => absurd (by decide) h)
  refine lv_aload_n hx hb dX9_feed_18 rfl (lv_at hl 0 rfl) ?_
  refine g_get C hH mx fx iX9 rfl 0 (by decide) wd54 rfl rfl dX9_feed_19 ?_
  refine lv_iload_n hx hb dX9_feed_22 rfl (lv_at hl 1 rfl) ?_
  refine g_Vv C hl.1 hA hH (As := [.int p0]) (rest := []) (k_append0 l E L f mt ft mb fb p0) my_X8_append wd60 mt ft rfl rfl rfl (Nat.le_of_ble_eq_true rfl) ⟨Nat.le_of_ble_eq_true rfl, Nat.le_of_ble_eq_true rfl⟩ ⟨Nat.le_of_ble_eq_true rfl, Nat.le_of_ble_eq_true rfl⟩ dX9_feed_23 (fun L3 f2 H locs hp hH => ?_)
  obtain ⟨rfl, h4, ⟨v5, h6⟩, k7⟩ := hp
  refine lv_aload_n hx hb dX9_feed_26 rfl (lv_at hl 0 rfl) ?_
  have h8 : f2 x = .inr (9, [.ref xt, .ref xn, .ref xr, .ref xi, .ref xw, .ref xs, .ref xl, .ref xc, .ref xh, .ref xf, .ref xm]) := (k7 x (g_neO fx ft (by decide)) (g_neOA fx fb)).trans fx
  refine g_get C hH mx h8 iX9 rfl 0 (by decide) wd54 rfl rfl dX9_feed_27 ?_
  refine lv_iload_n hx hb dX9_feed_30 rfl (lv_at hl 2 rfl) ?_
  refine g_Vv C hl.1 hA hH (As := [.int p1]) (rest := []) (k_append4 l E L f2 mt h4 mb h6 p1) my_X8_append wd60 mt h4 rfl rfl rfl (Nat.le_of_ble_eq_true rfl) ⟨Nat.le_of_ble_eq_true rfl, Nat.le_of_ble_eq_true rfl⟩ ⟨Nat.le_of_ble_eq_true rfl, Nat.le_of_ble_eq_true rfl⟩ dX9_feed_31 (fun L10 f9 H locs hp hH => ?_)
  obtain ⟨rfl, h11, ⟨v12, h13⟩, k14⟩ := hp
  refine lv_aload_n hx hb dX9_feed_34 rfl (lv_at hl 0 rfl) ?_
  have h15 : f9 x = .inr (9, [.ref xt, .ref xn, .ref xr, .ref xi, .ref xw, .ref xs, .ref xl, .ref xc, .ref xh, .ref xf, .ref xm]) := (k14 x (g_neO h8 h4 (by decide)) (g_neOA h8 h6)).trans h8
  refine g_get C hH mx h15 iX9 rfl 0 (by decide) wd54 rfl rfl dX9_feed_35 ?_
  refine lv_iload_n hx hb dX9_feed_38 rfl (lv_at hl 3 rfl) ?_
  refine g_Vv C hl.1 hA hH (As := [.int p2]) (rest := []) (k_append8 l E L f9 mt h11 mb h13 p2) my_X8_append wd60 mt h11 rfl rfl rfl (Nat.le_of_ble_eq_true rfl) ⟨Nat.le_of_ble_eq_true rfl, Nat.le_of_ble_eq_true rfl⟩ ⟨Nat.le_of_ble_eq_true rfl, Nat.le_of_ble_eq_true rfl⟩ dX9_feed_39 (fun L17 f16 H locs hp hH => ?_)
  obtain ⟨rfl, h18, ⟨v19, h20⟩, k21⟩ := hp
  refine lv_aload_n hx hb dX9_feed_42 rfl (lv_at hl 0 rfl) ?_
  have h22 : f16 x = .inr (9, [.ref xt, .ref xn, .ref xr, .ref xi, .ref xw, .ref xs, .ref xl, .ref xc, .ref xh, .ref xf, .ref xm]) := (k21 x (g_neO h15 h11 (by decide)) (g_neOA h15 h13)).trans h15
  refine g_get C hH mx h22 iX9 rfl 0 (by decide) wd54 rfl rfl dX9_feed_43 ?_
  refine lv_iload hx hb dX9_feed_46 (lv_at hl 4 rfl) ?_
  refine g_Vv C hl.1 hA hH (As := [.int p3]) (rest := []) (k_append12 l E L f16 mt h18 mb h20 p3) my_X8_append wd60 mt h18 rfl rfl rfl (Nat.le_of_ble_eq_true rfl) ⟨Nat.le_of_ble_eq_true rfl, Nat.le_of_ble_eq_true rfl⟩ ⟨Nat.le_of_ble_eq_true rfl, Nat.le_of_ble_eq_true rfl⟩ dX9_feed_48 (fun L24 f23 H locs hp hH => ?_)
  obtain ⟨rfl, h25, ⟨v26, h27⟩, k28⟩ := hp
  refine lv_aload_n hx hb dX9_feed_51 rfl (lv_at hl 0 rfl) ?_
  have h29 : f23 x = .inr (9, [.ref xt, .ref xn, .ref xr, .ref xi, .ref xw, .ref xs, .ref xl, .ref xc, .ref xh, .ref xf, .ref xm]) := (k28 x (g_neO h22 h18 (by decide)) (g_neOA h22 h20)).trans h22
  refine g_get C hH mx h29 iX9 rfl 0 (by decide) wd54 rfl rfl dX9_feed_52 ?_
  refine lv_iload hx hb dX9_feed_55 (lv_at hl 5 rfl) ?_
  refine g_Vv C hl.1 hA hH (As := [.int p4]) (rest := []) (k_append16 l E L f23 mt h25 mb h27 p4) my_X8_append wd60 mt h25 rfl rfl rfl (Nat.le_of_ble_eq_true rfl) ⟨Nat.le_of_ble_eq_true rfl, Nat.le_of_ble_eq_true rfl⟩ ⟨Nat.le_of_ble_eq_true rfl, Nat.le_of_ble_eq_true rfl⟩ dX9_feed_57 (fun L31 f30 H locs hp hH => ?_)
  obtain ⟨rfl, h32, ⟨v33, h34⟩, k35⟩ := hp
  refine lv_aload_n hx hb dX9_feed_60 rfl (lv_at hl 0 rfl) ?_
  have h36 : f30 x = .inr (9, [.ref xt, .ref xn, .ref xr, .ref xi, .ref xw, .ref xs, .ref xl, .ref xc, .ref xh, .ref xf, .ref xm]) := (k35 x (g_neO h29 h25 (by decide)) (g_neOA h29 h27)).trans h29
  refine g_get C hH mx h36 iX9 rfl 0 (by decide) wd54 rfl rfl dX9_feed_61 ?_
  refine g_get C hH mt h32 iX8 rfl 1 (by decide) wd55 rfl rfl dX9_feed_64 ?_
  refine g_iret C hr hH (Nat.le_of_ble_eq_true rfl) (Nat.le_of_ble_eq_true rfl) dX9_feed_67 ?_
  exact rfl
set_option maxHeartbeats 4000000 in
set_option maxRecDepth 100000 in
theorem k_end (l : Launch) (E : gE) (L : List Nat) (f : gF) {x xt xn xr xi xw xs xl xc xh xf xm : Nat} (mx : x ∈ L) (fx : f x = .inr (9, [.ref xt, .ref xn, .ref xr, .ref xi, .ref xw, .ref xs, .ref xl, .ref xc, .ref xh, .ref xf, .ref xm])) {xb : Nat} {v : Nat → Int32} (mt : xt ∈ L) (ft : f xt = .inr (8, [.ref xb, .int (0 : Int32)])) (mb : xb ∈ L) (fb : f xb = .inl (E.2.2 0, 800, .inl v)) (p0 : Int32) : gMi l E yX9_end cX9_end 2 .int (gRm 1 0 0) [.ref x, .int p0] L f (fun r _ _ => r = gEnd p0) := by
  refine gMi.intro (by decide) (Nat.le_of_ble_eq_true rfl) ?_
  intro p e s m below meth c A ls C hr hA hH hl
  have C : gC E cX9_end 2 RX9 p s m _ meth c := C
  have hl : lv_has ls 2 [(0, .ref x), (1, .int p0)] := hl
  have hx := C.1
  have hb := C.2.1
  refine lv_iload_n hx hb dX9_end_0 rfl (lv_at hl 1 rfl) ?_
  refine lv_if_lt (tgt := 15) hx hb dX9_end_1 (by decide) (fun c1 => ?_) (fun c1 => ?_)
  · skip
    refine lv_iconst (v := (-1 : Int32)) hx hb dX9_end_15 (by decide) ?_
    refine g_iret C hr hH (Nat.le_of_ble_eq_true rfl) (Nat.le_of_ble_eq_true rfl) dX9_end_16 ?_
    exact (by rw [gEnd, if_pos c1])
  · skip
    refine lv_iload_n hx hb dX9_end_4 rfl (lv_at hl 1 rfl) ?_
    refine lv_aload_n hx hb dX9_end_5 rfl (lv_at hl 0 rfl) ?_
    refine g_get C hH mx fx iX9 rfl 0 (by decide) wd54 rfl rfl dX9_end_6 ?_
    refine g_get C hH mt ft iX8 rfl 1 (by decide) wd55 rfl rfl dX9_end_9 ?_
    refine lv_icmp_le (tgt := 17) hx hb dX9_end_12 (by decide) (fun c2 => ?_) (fun c2 => ?_)
    · skip
      refine lv_aload_n hx hb dX9_end_17 rfl (lv_at hl 0 rfl) ?_
      refine g_get C hH mx fx iX9 rfl 0 (by decide) wd54 rfl rfl dX9_end_18 ?_
      refine lv_iload_n hx hb dX9_end_21 rfl (lv_at hl 1 rfl) ?_
      refine g_put C hH mt ft iX8 tyX8 tyX8_ok nmX8 rfl 1 (by decide) wd55 rfl rfl rfl rfl (Nat.le_of_ble_eq_true rfl) (fs' := [.ref xb, .int p0]) rfl dX9_end_22 (fun H locs hH => ?_)
      obtain ⟨f3, ef3⟩ : ∃ z : gF, z = va_up f xt (.inr (8, [.ref xb, .int p0])) := ⟨_, rfl⟩
      have hH : gH E A L f3 s.heap H locs := by rw [ef3]; exact hH
      have h4 : f3 xt = .inr (8, [.ref xb, .int p0]) := (congrFun ef3 xt).trans (va_up_self _ _ _)
      refine lv_iload_n hx hb dX9_end_25 rfl (lv_at hl 1 rfl) ?_
      refine g_iret C hr hH (Nat.le_of_ble_eq_true rfl) (Nat.le_of_ble_eq_true rfl) dX9_end_26 ?_
      exact (by rw [gEnd, if_neg c1, if_pos c2])
    · skip
      refine lv_iconst (v := (-1 : Int32)) hx hb dX9_end_15 (by decide) ?_
      refine g_iret C hr hH (Nat.le_of_ble_eq_true rfl) (Nat.le_of_ble_eq_true rfl) dX9_end_16 ?_
      exact (by rw [gEnd, if_neg c1, if_neg c2])
set_option maxHeartbeats 4000000 in
set_option maxRecDepth 100000 in
theorem k_fault (l : Launch) (E : gE) (L : List Nat) (f : gF) {x xt xn xr xi xw xs xl xc xh xf xm : Nat} (mx : x ∈ L) (fx : f x = .inr (9, [.ref xt, .ref xn, .ref xr, .ref xi, .ref xw, .ref xs, .ref xl, .ref xc, .ref xh, .ref xf, .ref xm])) {xd : Nat} (mr : xr ∈ L) (fr : f xr = .inr (5, [.ref xt, .ref xd, .int (0 : Int32), .int (0 : Int32), .int (0 : Int32), .int (0 : Int32), .int (-1 : Int32)])) (p0 : Int32) : gMi l E yX9_fault cX9_fault 2 .int (gRm 1 0 0) [.ref x, .int p0] L f (fun r _ _ => r = gFault p0) := by
  refine gMi.intro (by decide) (Nat.le_of_ble_eq_true rfl) ?_
  intro p e s m below meth c A ls C hr hA hH hl
  have C : gC E cX9_fault 2 RX9 p s m _ meth c := C
  have hl : lv_has ls 2 [(0, .ref x), (1, .int p0)] := hl
  have hx := C.1
  have hb := C.2.1
  refine lv_iload_n hx hb dX9_fault_0 rfl (lv_at hl 1 rfl) ?_
  refine lv_if_ne (tgt := 12) hx hb dX9_fault_1 (by decide) (fun c1 => ?_) (fun c1 => ?_)
  · skip
    refine lv_iload_n hx hb dX9_fault_12 rfl (lv_at hl 1 rfl) ?_
    refine lv_iconst (v := (1 : Int32)) hx hb dX9_fault_13 (by decide) ?_
    refine lv_icmp_ne (tgt := 27) hx hb dX9_fault_14 (by decide) (fun c2 => ?_) (fun c2 => ?_)
    · skip
      refine lv_iconst (v := (-1 : Int32)) hx hb dX9_fault_27 (by decide) ?_
      refine g_iret C hr hH (Nat.le_of_ble_eq_true rfl) (Nat.le_of_ble_eq_true rfl) dX9_fault_28 ?_
      exact (by rw [gFault, if_neg c1])
    · skip
      refine lv_aload_n hx hb dX9_fault_17 rfl (lv_at hl 0 rfl) ?_
      refine g_get C hH mx fx iX9 rfl 2 (by decide) wd61 rfl rfl dX9_fault_18 ?_
      refine g_get C hH mr fr iX5 rfl 6 (by decide) wd62 rfl rfl dX9_fault_21 ?_
      refine lv_goto (tgt := 28) hx hb dX9_fault_24 (by decide) ?_
      refine g_iret C hr hH (Nat.le_of_ble_eq_true rfl) (Nat.le_of_ble_eq_true rfl) dX9_fault_28 ?_
      exact (by rw [gFault, if_neg c1])
  · skip
    refine lv_aload_n hx hb dX9_fault_4 rfl (lv_at hl 0 rfl) ?_
    refine g_get C hH mx fx iX9 rfl 2 (by decide) wd61 rfl rfl dX9_fault_5 ?_
    refine g_get C hH mr fr iX5 rfl 5 (by decide) wd63 rfl rfl dX9_fault_8 ?_
    refine g_iret C hr hH (Nat.le_of_ble_eq_true rfl) (Nat.le_of_ble_eq_true rfl) dX9_fault_11 ?_
    exact (by rw [gFault, if_pos c1])
set_option maxHeartbeats 4000000 in
set_option maxRecDepth 100000 in
theorem k_isNothing (l : Launch) (E : gE) (L : List Nat) (f : gF) {q nu : Nat} (mq : q ∈ L) (fq : f q = .inr (6, [.ref nu, .int (-1 : Int32), .int (0 : Int32)])) : gMi l E yX6_isNothing cX6_isNothing 1 .boolean (gRm 1 0 0) [.ref q] L f (gRO (1 : Int32) L f) := by
  refine gMi.intro (by decide) (Nat.le_of_ble_eq_true rfl) ?_
  intro p e s m below meth c A ls C hr hA hH hl
  have C : gC E cX6_isNothing 1 RX6 p s m _ meth c := C
  have hl : lv_has ls 1 [(0, .ref q)] := hl
  have hx := C.1
  have hb := C.2.1
  refine lv_aload_n hx hb dX6_isNothing_0 rfl (lv_at hl 0 rfl) ?_
  refine g_get C hH mq fq iX6 rfl 1 (by decide) wd64 rfl rfl dX6_isNothing_1 ?_
  refine lv_iconst (v := (-1 : Int32)) hx hb dX6_isNothing_4 (by decide) ?_
  refine lv_icmp_ne (tgt := 12) hx hb dX6_isNothing_5 (by decide) (fun h => absurd (by decide) h) (fun _ => ?_)
  refine lv_iconst (v := (1 : Int32)) hx hb dX6_isNothing_8 (by decide) ?_
  refine lv_goto (tgt := 13) hx hb dX6_isNothing_9 (by decide) ?_
  refine g_zret C hr (by first | rfl | decide | (exact rfl)) hH (Nat.le_of_ble_eq_true rfl) (Nat.le_of_ble_eq_true rfl) dX6_isNothing_13 ?_
  exact ⟨rfl, rfl, rfl⟩
set_option maxHeartbeats 4000000 in
set_option maxRecDepth 100000 in
theorem k_rowsHad (l : Launch) (E : gE) (L : List Nat) (f : gF) {x xt xn xr xi xw xs xl xc xh xf xm : Nat} (mx : x ∈ L) (fx : f x = .inr (9, [.ref xt, .ref xn, .ref xr, .ref xi, .ref xw, .ref xs, .ref xl, .ref xc, .ref xh, .ref xf, .ref xm])) {wv : Nat → Option Nat} (mw : xw ∈ L) (fw : f xw = .inl (E.2.2 5, 4, .inr (.inr (.inr (.inr wv))))) (wr : gRows E L f wv) : gMi l E yX9_rowsHad cX9_rowsHad 3 .int (gRm 2 0 0) [.ref x] L f (gRO (0 : Int32) L f) := by
  refine gMi.intro (by decide) (Nat.le_of_ble_eq_true rfl) ?_
  intro p e s m below meth c A ls C hr hA hH hl
  have C : gC E cX9_rowsHad 3 RX9 p s m _ meth c := C
  have hl : lv_has ls 3 [(0, .ref x)] := hl
  have hx := C.1
  have hb := C.2.1
  refine lv_iconst (v := (0 : Int32)) hx hb dX9_rowsHad_0 (by decide) ?_
  refine lv_istore_n (lv' := [(1, .int (0 : Int32)), (0, .ref x)]) hx hb dX9_rowsHad_1 rfl hl (by decide) rfl (fun ls hl => ?_)
  refine lv_iconst (v := (0 : Int32)) hx hb dX9_rowsHad_2 (by decide) ?_
  refine lv_istore_n (lv' := [(2, .int (0 : Int32)), (1, .int (0 : Int32)), (0, .ref x)]) hx hb dX9_rowsHad_3 rfl hl (by decide) rfl (fun ls hl => ?_)
  refine lv_iload_n hx hb dX9_rowsHad_4 rfl (lv_at hl 0 rfl) ?_
  refine lv_iconst (v := (4 : Int32)) hx hb dX9_rowsHad_5 (by decide) ?_
  refine lv_icmp_ge (tgt := 30) hx hb dX9_rowsHad_6 (by decide) (fun h => absurd h (by decide)) (fun _ => ?_)
  refine lv_aload_n hx hb dX9_rowsHad_9 rfl (lv_at hl 2 rfl) ?_
  refine g_get C hH mx fx iX9 rfl 4 (by decide) wd65 rfl rfl dX9_rowsHad_10 ?_
  refine lv_iload_n hx hb dX9_rowsHad_13 rfl (lv_at hl 0 rfl) ?_
  obtain ⟨q1, nu2, u3, h4, m5, h6, m7, h8⟩ := wr ((0 : Int32)).toNatClampNeg (vp_lt (vp_inL (by decide)))
  refine g_aald C hH mw 5 rfl fw (vp_inL (by decide)) h4 dX9_rowsHad_14 ?_
  refine g_Vi C hl.1 hA hH (As := []) (rest := []) (k_isNothing l E L f m5 h6) my_X6_isNothing wd70 m5 h6 rfl rfl rfl (Nat.le_of_ble_eq_true rfl) ⟨Nat.le_of_ble_eq_true rfl, Nat.le_of_ble_eq_true rfl⟩ ⟨Nat.le_of_ble_eq_true rfl, Nat.le_of_ble_eq_true rfl⟩ dX9_rowsHad_15 (fun r11 L10 f9 H locs hp hH => ?_)
  obtain ⟨er11, rfl, rfl⟩ := hp
  subst er11
  refine lv_if_ne (tgt := 24) hx hb dX9_rowsHad_18 (by decide) (fun _ => ?_) (fun h => absurd h (by decide))
  refine lv_iinc (v := (1 : Int32)) (lv' := [(2, .int (1 : Int32)), (1, .int (0 : Int32)), (0, .ref x)]) hx hb dX9_rowsHad_24 hl (k := 0) rfl (by decide) (by decide) rfl (fun ls hl => ?_)
  refine lv_goto (tgt := 4) hx hb dX9_rowsHad_27 (by decide) ?_
  refine lv_iload_n hx hb dX9_rowsHad_4 rfl (lv_at hl 0 rfl) ?_
  refine lv_iconst (v := (4 : Int32)) hx hb dX9_rowsHad_5 (by decide) ?_
  refine lv_icmp_ge (tgt := 30) hx hb dX9_rowsHad_6 (by decide) (fun h => absurd h (by decide)) (fun _ => ?_)
  refine lv_aload_n hx hb dX9_rowsHad_9 rfl (lv_at hl 2 rfl) ?_
  refine g_get C hH mx fx iX9 rfl 4 (by decide) wd65 rfl rfl dX9_rowsHad_10 ?_
  refine lv_iload_n hx hb dX9_rowsHad_13 rfl (lv_at hl 0 rfl) ?_
  obtain ⟨q12, nu13, u14, h15, m16, h17, m18, h19⟩ := wr ((1 : Int32)).toNatClampNeg (vp_lt (vp_inL (by decide)))
  refine g_aald C hH mw 5 rfl fw (vp_inL (by decide)) h15 dX9_rowsHad_14 ?_
  refine g_Vi C hl.1 hA hH (As := []) (rest := []) (k_isNothing l E L f m16 h17) my_X6_isNothing wd70 m16 h17 rfl rfl rfl (Nat.le_of_ble_eq_true rfl) ⟨Nat.le_of_ble_eq_true rfl, Nat.le_of_ble_eq_true rfl⟩ ⟨Nat.le_of_ble_eq_true rfl, Nat.le_of_ble_eq_true rfl⟩ dX9_rowsHad_15 (fun r22 L21 f20 H locs hp hH => ?_)
  obtain ⟨er22, rfl, rfl⟩ := hp
  subst er22
  refine lv_if_ne (tgt := 24) hx hb dX9_rowsHad_18 (by decide) (fun _ => ?_) (fun h => absurd h (by decide))
  refine lv_iinc (v := (2 : Int32)) (lv' := [(2, .int (2 : Int32)), (1, .int (0 : Int32)), (0, .ref x)]) hx hb dX9_rowsHad_24 hl (k := 0) rfl (by decide) (by decide) rfl (fun ls hl => ?_)
  refine lv_goto (tgt := 4) hx hb dX9_rowsHad_27 (by decide) ?_
  refine lv_iload_n hx hb dX9_rowsHad_4 rfl (lv_at hl 0 rfl) ?_
  refine lv_iconst (v := (4 : Int32)) hx hb dX9_rowsHad_5 (by decide) ?_
  refine lv_icmp_ge (tgt := 30) hx hb dX9_rowsHad_6 (by decide) (fun h => absurd h (by decide)) (fun _ => ?_)
  refine lv_aload_n hx hb dX9_rowsHad_9 rfl (lv_at hl 2 rfl) ?_
  refine g_get C hH mx fx iX9 rfl 4 (by decide) wd65 rfl rfl dX9_rowsHad_10 ?_
  refine lv_iload_n hx hb dX9_rowsHad_13 rfl (lv_at hl 0 rfl) ?_
  obtain ⟨q23, nu24, u25, h26, m27, h28, m29, h30⟩ := wr ((2 : Int32)).toNatClampNeg (vp_lt (vp_inL (by decide)))
  refine g_aald C hH mw 5 rfl fw (vp_inL (by decide)) h26 dX9_rowsHad_14 ?_
  refine g_Vi C hl.1 hA hH (As := []) (rest := []) (k_isNothing l E L f m27 h28) my_X6_isNothing wd70 m27 h28 rfl rfl rfl (Nat.le_of_ble_eq_true rfl) ⟨Nat.le_of_ble_eq_true rfl, Nat.le_of_ble_eq_true rfl⟩ ⟨Nat.le_of_ble_eq_true rfl, Nat.le_of_ble_eq_true rfl⟩ dX9_rowsHad_15 (fun r33 L32 f31 H locs hp hH => ?_)
  obtain ⟨er33, rfl, rfl⟩ := hp
  subst er33
  refine lv_if_ne (tgt := 24) hx hb dX9_rowsHad_18 (by decide) (fun _ => ?_) (fun h => absurd h (by decide))
  refine lv_iinc (v := (3 : Int32)) (lv' := [(2, .int (3 : Int32)), (1, .int (0 : Int32)), (0, .ref x)]) hx hb dX9_rowsHad_24 hl (k := 0) rfl (by decide) (by decide) rfl (fun ls hl => ?_)
  refine lv_goto (tgt := 4) hx hb dX9_rowsHad_27 (by decide) ?_
  refine lv_iload_n hx hb dX9_rowsHad_4 rfl (lv_at hl 0 rfl) ?_
  refine lv_iconst (v := (4 : Int32)) hx hb dX9_rowsHad_5 (by decide) ?_
  refine lv_icmp_ge (tgt := 30) hx hb dX9_rowsHad_6 (by decide) (fun h => absurd h (by decide)) (fun _ => ?_)
  refine lv_aload_n hx hb dX9_rowsHad_9 rfl (lv_at hl 2 rfl) ?_
  refine g_get C hH mx fx iX9 rfl 4 (by decide) wd65 rfl rfl dX9_rowsHad_10 ?_
  refine lv_iload_n hx hb dX9_rowsHad_13 rfl (lv_at hl 0 rfl) ?_
  obtain ⟨q34, nu35, u36, h37, m38, h39, m40, h41⟩ := wr ((3 : Int32)).toNatClampNeg (vp_lt (vp_inL (by decide)))
  refine g_aald C hH mw 5 rfl fw (vp_inL (by decide)) h37 dX9_rowsHad_14 ?_
  refine g_Vi C hl.1 hA hH (As := []) (rest := []) (k_isNothing l E L f m38 h39) my_X6_isNothing wd70 m38 h39 rfl rfl rfl (Nat.le_of_ble_eq_true rfl) ⟨Nat.le_of_ble_eq_true rfl, Nat.le_of_ble_eq_true rfl⟩ ⟨Nat.le_of_ble_eq_true rfl, Nat.le_of_ble_eq_true rfl⟩ dX9_rowsHad_15 (fun r44 L43 f42 H locs hp hH => ?_)
  obtain ⟨er44, rfl, rfl⟩ := hp
  subst er44
  refine lv_if_ne (tgt := 24) hx hb dX9_rowsHad_18 (by decide) (fun _ => ?_) (fun h => absurd h (by decide))
  refine lv_iinc (v := (4 : Int32)) (lv' := [(2, .int (4 : Int32)), (1, .int (0 : Int32)), (0, .ref x)]) hx hb dX9_rowsHad_24 hl (k := 0) rfl (by decide) (by decide) rfl (fun ls hl => ?_)
  refine lv_goto (tgt := 4) hx hb dX9_rowsHad_27 (by decide) ?_
  refine lv_iload_n hx hb dX9_rowsHad_4 rfl (lv_at hl 0 rfl) ?_
  refine lv_iconst (v := (4 : Int32)) hx hb dX9_rowsHad_5 (by decide) ?_
  refine lv_icmp_ge (tgt := 30) hx hb dX9_rowsHad_6 (by decide) (fun _ => ?_) (fun h => absurd (by decide) h)
  refine lv_iload_n hx hb dX9_rowsHad_30 rfl (lv_at hl 1 rfl) ?_
  refine g_iret C hr hH (Nat.le_of_ble_eq_true rfl) (Nat.le_of_ble_eq_true rfl) dX9_rowsHad_31 ?_
  exact ⟨rfl, rfl, rfl⟩
set_option maxHeartbeats 4000000 in
set_option maxRecDepth 100000 in
theorem k_count (l : Launch) (E : gE) (L : List Nat) (f : gF) {x xt xn xr xi xw xs xl xc xh xf xm : Nat} (mx : x ∈ L) (fx : f x = .inr (9, [.ref xt, .ref xn, .ref xr, .ref xi, .ref xw, .ref xs, .ref xl, .ref xc, .ref xh, .ref xf, .ref xm])) {na : Nat → Nat} (mn : xn ∈ L) (fn : f xn = .inr (3, [.int (0 : Int32), .int (0 : Int32), .int (0 : Int32), .int (0 : Int32), .int (0 : Int32), .int (0 : Int32), .int (0 : Int32), .int (0 : Int32), .int (0 : Int32), .int (0 : Int32), .ref (na 0), .ref (na 1), .ref (na 2), .ref (na 3), .ref (na 4), .ref (na 5), .ref (na 6), .ref (na 7), .ref (na 8), .ref (na 9)])) {xb : Nat} {v : Nat → Int32} (mt : xt ∈ L) (ft : f xt = .inr (8, [.ref xb, .int (0 : Int32)])) (mb : xb ∈ L) (fb : f xb = .inl (E.2.2 0, 800, .inl v)) {wv : Nat → Option Nat} (mw : xw ∈ L) (fw : f xw = .inl (E.2.2 5, 4, .inr (.inr (.inr (.inr wv))))) (wr : gRows E L f wv) (p0 : Int32) : gMi l E yX9_count cX9_count 2 .int (gRm 3 0 0) [.ref x, .int p0] L f (fun r _ _ => r = gCount p0) := by
  refine gMi.intro (by decide) (Nat.le_of_ble_eq_true rfl) ?_
  intro p e s m below meth c A ls C hr hA hH hl
  have C : gC E cX9_count 2 RX9 p s m _ meth c := C
  have hl : lv_has ls 2 [(0, .ref x), (1, .int p0)] := hl
  have hx := C.1
  have hb := C.2.1
  refine lv_iload_n hx hb dX9_count_0 rfl (lv_at hl 1 rfl) ?_
  rcases g_sw p0 0 11 (by decide) with c1 | c1
  · refine lv_tableOut (tgt := 157) hx hb dX9_count_1 (by first | exact c1 | omega) (by decide) ?_
    refine lv_iconst (v := (-1 : Int32)) hx hb dX9_count_157 (by decide) ?_
    refine g_iret C hr hH (Nat.le_of_ble_eq_true rfl) (Nat.le_of_ble_eq_true rfl) dX9_count_158 ?_
    exact (if_pos c1).symm
  · obtain ⟨j, hj, ej⟩ := c1
    rcases (show j = 0 ∨ j = 1 ∨ j = 2 ∨ j = 3 ∨ j = 4 ∨ j = 5 ∨ j = 6 ∨ j = 7 ∨ j = 8 ∨ j = 9 ∨ j = 10 ∨ j = 11 by omega) with rfl | rfl | rfl | rfl | rfl | rfl | rfl | rfl | rfl | rfl | rfl | rfl
    · obtain rfl : p0 = (0 : Int32) := g_swE ej (by decide)
      refine lv_tableIn (tgt := 64) (off := 63) hx hb dX9_count_1 (by decide) (by decide) (by decide) (by decide) ?_
      refine lv_aload_n hx hb dX9_count_64 rfl (lv_at hl 0 rfl) ?_
      refine g_get C hH mx fx iX9 rfl 1 (by decide) wd18 rfl rfl dX9_count_65 ?_
      refine g_get C hH mn fn iX3 rfl 1 (by decide) wd71 rfl rfl dX9_count_68 ?_
      refine g_iret C hr hH (Nat.le_of_ble_eq_true rfl) (Nat.le_of_ble_eq_true rfl) dX9_count_71 ?_
      exact (by decide)
    · obtain rfl : p0 = (1 : Int32) := g_swE ej (by decide)
      refine lv_tableIn (tgt := 72) (off := 71) hx hb dX9_count_1 (by decide) (by decide) (by decide) (by decide) ?_
      refine lv_aload_n hx hb dX9_count_72 rfl (lv_at hl 0 rfl) ?_
      refine g_get C hH mx fx iX9 rfl 1 (by decide) wd18 rfl rfl dX9_count_73 ?_
      refine g_get C hH mn fn iX3 rfl 2 (by decide) wd72 rfl rfl dX9_count_76 ?_
      refine g_iret C hr hH (Nat.le_of_ble_eq_true rfl) (Nat.le_of_ble_eq_true rfl) dX9_count_79 ?_
      exact (by decide)
    · obtain rfl : p0 = (2 : Int32) := g_swE ej (by decide)
      refine lv_tableIn (tgt := 80) (off := 79) hx hb dX9_count_1 (by decide) (by decide) (by decide) (by decide) ?_
      refine lv_aload_n hx hb dX9_count_80 rfl (lv_at hl 0 rfl) ?_
      refine g_get C hH mx fx iX9 rfl 1 (by decide) wd18 rfl rfl dX9_count_81 ?_
      refine g_get C hH mn fn iX3 rfl 3 (by decide) wd73 rfl rfl dX9_count_84 ?_
      refine g_iret C hr hH (Nat.le_of_ble_eq_true rfl) (Nat.le_of_ble_eq_true rfl) dX9_count_87 ?_
      exact (by decide)
    · obtain rfl : p0 = (3 : Int32) := g_swE ej (by decide)
      refine lv_tableIn (tgt := 88) (off := 87) hx hb dX9_count_1 (by decide) (by decide) (by decide) (by decide) ?_
      refine lv_aload_n hx hb dX9_count_88 rfl (lv_at hl 0 rfl) ?_
      refine g_get C hH mx fx iX9 rfl 1 (by decide) wd18 rfl rfl dX9_count_89 ?_
      refine g_get C hH mn fn iX3 rfl 4 (by decide) wd74 rfl rfl dX9_count_92 ?_
      refine g_iret C hr hH (Nat.le_of_ble_eq_true rfl) (Nat.le_of_ble_eq_true rfl) dX9_count_95 ?_
      exact (by decide)
    · obtain rfl : p0 = (4 : Int32) := g_swE ej (by decide)
      refine lv_tableIn (tgt := 96) (off := 95) hx hb dX9_count_1 (by decide) (by decide) (by decide) (by decide) ?_
      refine lv_aload_n hx hb dX9_count_96 rfl (lv_at hl 0 rfl) ?_
      refine g_get C hH mx fx iX9 rfl 1 (by decide) wd18 rfl rfl dX9_count_97 ?_
      refine g_get C hH mn fn iX3 rfl 5 (by decide) wd75 rfl rfl dX9_count_100 ?_
      refine g_iret C hr hH (Nat.le_of_ble_eq_true rfl) (Nat.le_of_ble_eq_true rfl) dX9_count_103 ?_
      exact (by decide)
    · obtain rfl : p0 = (5 : Int32) := g_swE ej (by decide)
      refine lv_tableIn (tgt := 104) (off := 103) hx hb dX9_count_1 (by decide) (by decide) (by decide) (by decide) ?_
      refine lv_aload_n hx hb dX9_count_104 rfl (lv_at hl 0 rfl) ?_
      refine g_get C hH mx fx iX9 rfl 1 (by decide) wd18 rfl rfl dX9_count_105 ?_
      refine g_Vi C hl.1 hA hH (As := []) (rest := []) (k_cells l E L f mn fn) my_X3_cells wd76 mn fn rfl rfl rfl (Nat.le_of_ble_eq_true rfl) ⟨Nat.le_of_ble_eq_true rfl, Nat.le_of_ble_eq_true rfl⟩ ⟨Nat.le_of_ble_eq_true rfl, Nat.le_of_ble_eq_true rfl⟩ dX9_count_108 (fun r4 L3 f2 H locs hp hH => ?_)
      obtain ⟨er4, rfl, rfl⟩ := hp
      subst er4
      refine g_iret C hr hH (Nat.le_of_ble_eq_true rfl) (Nat.le_of_ble_eq_true rfl) dX9_count_111 ?_
      exact (by decide)
    · obtain rfl : p0 = (6 : Int32) := g_swE ej (by decide)
      refine lv_tableIn (tgt := 112) (off := 111) hx hb dX9_count_1 (by decide) (by decide) (by decide) (by decide) ?_
      refine lv_aload_n hx hb dX9_count_112 rfl (lv_at hl 0 rfl) ?_
      refine g_get C hH mx fx iX9 rfl 1 (by decide) wd18 rfl rfl dX9_count_113 ?_
      refine g_get C hH mn fn iX3 rfl 6 (by decide) wd77 rfl rfl dX9_count_116 ?_
      refine g_iret C hr hH (Nat.le_of_ble_eq_true rfl) (Nat.le_of_ble_eq_true rfl) dX9_count_119 ?_
      exact (by decide)
    · obtain rfl : p0 = (7 : Int32) := g_swE ej (by decide)
      refine lv_tableIn (tgt := 120) (off := 119) hx hb dX9_count_1 (by decide) (by decide) (by decide) (by decide) ?_
      refine lv_aload_n hx hb dX9_count_120 rfl (lv_at hl 0 rfl) ?_
      refine g_get C hH mx fx iX9 rfl 1 (by decide) wd18 rfl rfl dX9_count_121 ?_
      refine g_get C hH mn fn iX3 rfl 7 (by decide) wd78 rfl rfl dX9_count_124 ?_
      refine g_iret C hr hH (Nat.le_of_ble_eq_true rfl) (Nat.le_of_ble_eq_true rfl) dX9_count_127 ?_
      exact (by decide)
    · obtain rfl : p0 = (8 : Int32) := g_swE ej (by decide)
      refine lv_tableIn (tgt := 128) (off := 127) hx hb dX9_count_1 (by decide) (by decide) (by decide) (by decide) ?_
      refine lv_aload_n hx hb dX9_count_128 rfl (lv_at hl 0 rfl) ?_
      refine g_get C hH mx fx iX9 rfl 1 (by decide) wd18 rfl rfl dX9_count_129 ?_
      refine g_get C hH mn fn iX3 rfl 9 (by decide) wd79 rfl rfl dX9_count_132 ?_
      refine g_iret C hr hH (Nat.le_of_ble_eq_true rfl) (Nat.le_of_ble_eq_true rfl) dX9_count_135 ?_
      exact (by decide)
    · obtain rfl : p0 = (9 : Int32) := g_swE ej (by decide)
      refine lv_tableIn (tgt := 136) (off := 135) hx hb dX9_count_1 (by decide) (by decide) (by decide) (by decide) ?_
      refine lv_aload_n hx hb dX9_count_136 rfl (lv_at hl 0 rfl) ?_
      refine g_get C hH mx fx iX9 rfl 1 (by decide) wd18 rfl rfl dX9_count_137 ?_
      refine g_get C hH mn fn iX3 rfl 0 (by decide) wd80 rfl rfl dX9_count_140 ?_
      refine g_iret C hr hH (Nat.le_of_ble_eq_true rfl) (Nat.le_of_ble_eq_true rfl) dX9_count_143 ?_
      exact (by decide)
    · obtain rfl : p0 = (10 : Int32) := g_swE ej (by decide)
      refine lv_tableIn (tgt := 144) (off := 143) hx hb dX9_count_1 (by decide) (by decide) (by decide) (by decide) ?_
      refine lv_aload_n hx hb dX9_count_144 rfl (lv_at hl 0 rfl) ?_
      refine g_get C hH mx fx iX9 rfl 0 (by decide) wd54 rfl rfl dX9_count_145 ?_
      refine g_get C hH mt ft iX8 rfl 1 (by decide) wd55 rfl rfl dX9_count_148 ?_
      refine g_iret C hr hH (Nat.le_of_ble_eq_true rfl) (Nat.le_of_ble_eq_true rfl) dX9_count_151 ?_
      exact (by decide)
    · obtain rfl : p0 = (11 : Int32) := g_swE ej (by decide)
      refine lv_tableIn (tgt := 152) (off := 151) hx hb dX9_count_1 (by decide) (by decide) (by decide) (by decide) ?_
      refine lv_aload_n hx hb dX9_count_152 rfl (lv_at hl 0 rfl) ?_
      refine g_Vi C hl.1 hA hH (As := []) (rest := []) (k_rowsHad l E L f mx fx mw fw wr) my_X9_rowsHad wd84 mx fx rfl rfl rfl (Nat.le_of_ble_eq_true rfl) ⟨Nat.le_of_ble_eq_true rfl, Nat.le_of_ble_eq_true rfl⟩ ⟨Nat.le_of_ble_eq_true rfl, Nat.le_of_ble_eq_true rfl⟩ dX9_count_153 (fun r7 L6 f5 H locs hp hH => ?_)
      obtain ⟨er7, rfl, rfl⟩ := hp
      subst er7
      refine g_iret C hr hH (Nat.le_of_ble_eq_true rfl) (Nat.le_of_ble_eq_true rfl) dX9_count_156 ?_
      exact (by decide)
set_option maxHeartbeats 4000000 in
set_option maxRecDepth 100000 in
theorem k_write (l : Launch) (E : gE) (L : List Nat) (f : gF) {x xt xn xr xi xw xs xl xc xh xf xm : Nat} (mx : x ∈ L) (fx : f x = .inr (9, [.ref xt, .ref xn, .ref xr, .ref xi, .ref xw, .ref xs, .ref xl, .ref xc, .ref xh, .ref xf, .ref xm])) {wv : Nat → Option Nat} (mw : xw ∈ L) (fw : f xw = .inl (E.2.2 5, 4, .inr (.inr (.inr (.inr wv))))) (wr : gRows E L f wv) (p0 p1 : Int32) (p2 : Int64) : gMi l E yX9_write cX9_write 6 .int (gRm 2 0 0) [.ref x, .int p0, .int p1, .long p2] L f (fun r _ _ => r = gWrite p0) := by
  refine gMi.intro (by decide) (Nat.le_of_ble_eq_true rfl) ?_
  intro p e s m below meth c A ls C hr hA hH hl
  have C : gC E cX9_write 6 RX9 p s m _ meth c := C
  have hl : lv_has ls 6 [(0, .ref x), (1, .int p0), (2, .int p1), (3, .long p2)] := hl
  have hx := C.1
  have hb := C.2.1
  refine lv_iload_n hx hb dX9_write_0 rfl (lv_at hl 1 rfl) ?_
  refine g_Si C hl.1 hA hH (As := [.int p0]) (rest := []) (k_isSlot l E L f p0) my_X9_isSlot wd17 rfl rfl (Nat.le_of_ble_eq_true rfl) ⟨Nat.le_of_ble_eq_true rfl, Nat.le_of_ble_eq_true rfl⟩ ⟨Nat.le_of_ble_eq_true rfl, Nat.le_of_ble_eq_true rfl⟩ dX9_write_1 (fun r3 L2 f1 H locs hp hH => ?_)
  obtain ⟨er3, rfl, rfl⟩ := hp
  subst er3
  refine lv_if_ne (tgt := 10) hx hb dX9_write_4 (by decide) (fun c4 => ?_) (fun c4 => ?_)
  · skip
    refine lv_aload_n hx hb dX9_write_10 rfl (lv_at hl 0 rfl) ?_
    refine g_get C hH mx fx iX9 rfl 4 (by decide) wd65 rfl rfl dX9_write_11 ?_
    refine lv_iload_n hx hb dX9_write_14 rfl (lv_at hl 1 rfl) ?_
    obtain ⟨q5, nu6, u7, h8, m9, h10, m11, h12⟩ := wr (p0).toNatClampNeg (vp_lt (gSlot_in c4))
    refine g_aald C hH mw 5 rfl fw (gSlot_in c4) h8 dX9_write_15 ?_
    refine lv_astore (lv' := [(5, .ref q5), (0, .ref x), (1, .int p0), (2, .int p1), (3, .long p2)]) hx hb dX9_write_16 hl (by decide) rfl (fun ls hl => ?_)
    refine lv_aload hx hb dX9_write_18 (lv_at hl 0 rfl) ?_
    refine g_Vi C hl.1 hA hH (As := []) (rest := []) (k_isNothing l E L f m9 h10) my_X6_isNothing wd70 m9 h10 rfl rfl rfl (Nat.le_of_ble_eq_true rfl) ⟨Nat.le_of_ble_eq_true rfl, Nat.le_of_ble_eq_true rfl⟩ ⟨Nat.le_of_ble_eq_true rfl, Nat.le_of_ble_eq_true rfl⟩ dX9_write_20 (fun r15 L14 f13 H locs hp hH => ?_)
    obtain ⟨er15, rfl, rfl⟩ := hp
    subst er15
    refine lv_if_eq (tgt := 29) hx hb dX9_write_23 (by decide) (fun h => absurd h (by decide)) (fun _ => ?_)
    refine lv_bipush (v := (-6 : Int32)) hx hb dX9_write_26 (by decide) ?_
    refine g_iret C hr hH (Nat.le_of_ble_eq_true rfl) (Nat.le_of_ble_eq_true rfl) dX9_write_28 ?_
    exact (by rw [gWrite, if_neg c4])
  · skip
    refine lv_bipush (v := (-2 : Int32)) hx hb dX9_write_7 (by decide) ?_
    refine g_iret C hr hH (Nat.le_of_ble_eq_true rfl) (Nat.le_of_ble_eq_true rfl) dX9_write_9 ?_
    exact (by rw [gWrite, if_pos c4])
set_option maxHeartbeats 4000000 in
set_option maxRecDepth 100000 in
theorem k_paste (l : Launch) (E : gE) (L : List Nat) (f : gF) {x xt xn xr xi xw xs xl xc xh xf xm : Nat} (mx : x ∈ L) (fx : f x = .inr (9, [.ref xt, .ref xn, .ref xr, .ref xi, .ref xw, .ref xs, .ref xl, .ref xc, .ref xh, .ref xf, .ref xm])) {wv : Nat → Option Nat} (mw : xw ∈ L) (fw : f xw = .inl (E.2.2 5, 4, .inr (.inr (.inr (.inr wv))))) (wr : gRows E L f wv) (p0 p1 p2 p3 p4 : Int32) : gMi l E yX9_paste cX9_paste 8 .int (gRm 2 0 0) [.ref x, .int p0, .int p1, .int p2, .int p3, .int p4] L f (fun r _ _ => r = gPaste p0 p2) := by
  refine gMi.intro (by decide) (Nat.le_of_ble_eq_true rfl) ?_
  intro p e s m below meth c A ls C hr hA hH hl
  have C : gC E cX9_paste 8 RX9 p s m _ meth c := C
  have hl : lv_has ls 8 [(0, .ref x), (1, .int p0), (2, .int p1), (3, .int p2), (4, .int p3), (5, .int p4)] := hl
  have hx := C.1
  have hb := C.2.1
  refine lv_iload_n hx hb dX9_paste_0 rfl (lv_at hl 1 rfl) ?_
  refine g_Si C hl.1 hA hH (As := [.int p0]) (rest := []) (k_isSlot l E L f p0) my_X9_isSlot wd17 rfl rfl (Nat.le_of_ble_eq_true rfl) ⟨Nat.le_of_ble_eq_true rfl, Nat.le_of_ble_eq_true rfl⟩ ⟨Nat.le_of_ble_eq_true rfl, Nat.le_of_ble_eq_true rfl⟩ dX9_paste_1 (fun r3 L2 f1 H locs hp hH => ?_)
  obtain ⟨er3, rfl, rfl⟩ := hp
  subst er3
  refine lv_if_eq (tgt := 14) hx hb dX9_paste_4 (by decide) (fun c4 => ?_) (fun c4 => ?_)
  · skip
    refine lv_bipush (v := (-2 : Int32)) hx hb dX9_paste_14 (by decide) ?_
    refine g_iret C hr hH (Nat.le_of_ble_eq_true rfl) (Nat.le_of_ble_eq_true rfl) dX9_paste_16 ?_
    exact (by rw [gPaste, if_pos c4])
  · skip
    refine lv_iload_n hx hb dX9_paste_7 rfl (lv_at hl 3 rfl) ?_
    refine g_Si C hl.1 hA hH (As := [.int p2]) (rest := []) (k_isSlot l E L f p2) my_X9_isSlot wd17 rfl rfl (Nat.le_of_ble_eq_true rfl) ⟨Nat.le_of_ble_eq_true rfl, Nat.le_of_ble_eq_true rfl⟩ ⟨Nat.le_of_ble_eq_true rfl, Nat.le_of_ble_eq_true rfl⟩ dX9_paste_8 (fun r7 L6 f5 H locs hp hH => ?_)
    obtain ⟨er7, rfl, rfl⟩ := hp
    subst er7
    refine lv_if_ne (tgt := 17) hx hb dX9_paste_11 (by decide) (fun c8 => ?_) (fun c8 => ?_)
    · skip
      refine lv_aload_n hx hb dX9_paste_17 rfl (lv_at hl 0 rfl) ?_
      refine g_get C hH mx fx iX9 rfl 4 (by decide) wd65 rfl rfl dX9_paste_18 ?_
      refine lv_iload_n hx hb dX9_paste_21 rfl (lv_at hl 1 rfl) ?_
      obtain ⟨q9, nu10, u11, h12, m13, h14, m15, h16⟩ := wr (p0).toNatClampNeg (vp_lt (gSlot_in c4))
      refine g_aald C hH mw 5 rfl fw (gSlot_in c4) h12 dX9_paste_22 ?_
      refine lv_astore (lv' := [(6, .ref q9), (0, .ref x), (1, .int p0), (2, .int p1), (3, .int p2), (4, .int p3), (5, .int p4)]) hx hb dX9_paste_23 hl (by decide) rfl (fun ls hl => ?_)
      refine lv_aload_n hx hb dX9_paste_25 rfl (lv_at hl 1 rfl) ?_
      refine g_get C hH mx fx iX9 rfl 4 (by decide) wd65 rfl rfl dX9_paste_26 ?_
      refine lv_iload_n hx hb dX9_paste_29 rfl (lv_at hl 4 rfl) ?_
      obtain ⟨q17, nu18, u19, h20, m21, h22, m23, h24⟩ := wr (p2).toNatClampNeg (vp_lt (gSlot_in c8))
      refine g_aald C hH mw 5 rfl fw (gSlot_in c8) h20 dX9_paste_30 ?_
      refine lv_astore (lv' := [(7, .ref q17), (6, .ref q9), (0, .ref x), (1, .int p0), (2, .int p1), (3, .int p2), (4, .int p3), (5, .int p4)]) hx hb dX9_paste_31 hl (by decide) rfl (fun ls hl => ?_)
      refine lv_aload hx hb dX9_paste_33 (lv_at hl 1 rfl) ?_
      refine g_Vi C hl.1 hA hH (As := []) (rest := []) (k_isNothing l E L f m13 h14) my_X6_isNothing wd70 m13 h14 rfl rfl rfl (Nat.le_of_ble_eq_true rfl) ⟨Nat.le_of_ble_eq_true rfl, Nat.le_of_ble_eq_true rfl⟩ ⟨Nat.le_of_ble_eq_true rfl, Nat.le_of_ble_eq_true rfl⟩ dX9_paste_35 (fun r27 L26 f25 H locs hp hH => ?_)
      obtain ⟨er27, rfl, rfl⟩ := hp
      subst er27
      refine lv_if_ne (tgt := 49) hx hb dX9_paste_38 (by decide) (fun _ => ?_) (fun h => absurd h (by decide))
      refine lv_bipush (v := (-6 : Int32)) hx hb dX9_paste_49 (by decide) ?_
      refine g_iret C hr hH (Nat.le_of_ble_eq_true rfl) (Nat.le_of_ble_eq_true rfl) dX9_paste_51 ?_
      exact (by rw [gPaste, if_neg c4, if_neg c8])
    · skip
      refine lv_bipush (v := (-2 : Int32)) hx hb dX9_paste_14 (by decide) ?_
      refine g_iret C hr hH (Nat.le_of_ble_eq_true rfl) (Nat.le_of_ble_eq_true rfl) dX9_paste_16 ?_
      exact (by rw [gPaste, if_neg c4, if_pos c8])
end
section
theorem dJ7_fill_d0a16_0 : decode cJ7_fill_d0a16 0 = .ok (.iconst 0, 1) := by decide +kernel
theorem dJ7_fill_d0a16_1 : decode cJ7_fill_d0a16 1 = .ok (.istore_n 3, 1) := by decide +kernel
theorem dJ7_fill_d0a16_2 : decode cJ7_fill_d0a16 2 = .ok (.aload_n 0, 1) := by decide +kernel
theorem dJ7_fill_d0a16_3 : decode cJ7_fill_d0a16 3 = .ok (.arraylength, 1) := by decide +kernel
theorem dJ7_fill_d0a16_4 : decode cJ7_fill_d0a16 4 = .ok (.istore 4, 2) := by decide +kernel
theorem dJ7_fill_d0a16_6 : decode cJ7_fill_d0a16 6 = .ok (.iload_n 3, 1) := by decide +kernel
theorem dJ7_fill_d0a16_7 : decode cJ7_fill_d0a16 7 = .ok (.iload 4, 2) := by decide +kernel
theorem dJ7_fill_d0a16_9 : decode cJ7_fill_d0a16 9 = .ok (.if_icmp .ge 13, 3) := by decide +kernel
theorem dJ7_fill_d0a16_12 : decode cJ7_fill_d0a16 12 = .ok (.aload_n 0, 1) := by decide +kernel
theorem dJ7_fill_d0a16_13 : decode cJ7_fill_d0a16 13 = .ok (.iload_n 3, 1) := by decide +kernel
theorem dJ7_fill_d0a16_14 : decode cJ7_fill_d0a16 14 = .ok (.lload_n 1, 1) := by decide +kernel
theorem dJ7_fill_d0a16_15 : decode cJ7_fill_d0a16 15 = .ok (.lastore, 1) := by decide +kernel
theorem dJ7_fill_d0a16_16 : decode cJ7_fill_d0a16 16 = .ok (.iinc 3 1, 3) := by decide +kernel
theorem dJ7_fill_d0a16_19 : decode cJ7_fill_d0a16 19 = .ok (.goto (-13), 3) := by decide +kernel
theorem dJ7_fill_d0a16_22 : decode cJ7_fill_d0a16 22 = .ok (.return_, 1) := by decide +kernel
theorem dX3_become_0 : decode cX3_become 0 = .ok (.aload_n 0, 1) := by decide +kernel
theorem dX3_become_1 : decode cX3_become 1 = .ok (.aload_n 1, 1) := by decide +kernel
theorem dX3_become_2 : decode cX3_become 2 = .ok (.getfield 42, 3) := by decide +kernel
theorem dX3_become_5 : decode cX3_become 5 = .ok (.putfield 42, 3) := by decide +kernel
theorem dX3_become_8 : decode cX3_become 8 = .ok (.aload_n 0, 1) := by decide +kernel
theorem dX3_become_9 : decode cX3_become 9 = .ok (.aload_n 1, 1) := by decide +kernel
theorem dX3_become_10 : decode cX3_become 10 = .ok (.getfield 46, 3) := by decide +kernel
theorem dX3_become_13 : decode cX3_become 13 = .ok (.putfield 46, 3) := by decide +kernel
theorem dX3_become_16 : decode cX3_become 16 = .ok (.aload_n 0, 1) := by decide +kernel
theorem dX3_become_17 : decode cX3_become 17 = .ok (.aload_n 1, 1) := by decide +kernel
theorem dX3_become_18 : decode cX3_become 18 = .ok (.getfield 49, 3) := by decide +kernel
theorem dX3_become_21 : decode cX3_become 21 = .ok (.putfield 49, 3) := by decide +kernel
theorem dX3_become_24 : decode cX3_become 24 = .ok (.aload_n 0, 1) := by decide +kernel
theorem dX3_become_25 : decode cX3_become 25 = .ok (.aload_n 1, 1) := by decide +kernel
theorem dX3_become_26 : decode cX3_become 26 = .ok (.getfield 52, 3) := by decide +kernel
theorem dX3_become_29 : decode cX3_become 29 = .ok (.putfield 52, 3) := by decide +kernel
theorem dX3_become_32 : decode cX3_become 32 = .ok (.aload_n 0, 1) := by decide +kernel
theorem dX3_become_33 : decode cX3_become 33 = .ok (.aload_n 1, 1) := by decide +kernel
theorem dX3_become_34 : decode cX3_become 34 = .ok (.getfield 55, 3) := by decide +kernel
theorem dX3_become_37 : decode cX3_become 37 = .ok (.putfield 55, 3) := by decide +kernel
theorem dX3_become_40 : decode cX3_become 40 = .ok (.aload_n 0, 1) := by decide +kernel
theorem dX3_become_41 : decode cX3_become 41 = .ok (.aload_n 1, 1) := by decide +kernel
theorem dX3_become_42 : decode cX3_become 42 = .ok (.getfield 58, 3) := by decide +kernel
theorem dX3_become_45 : decode cX3_become 45 = .ok (.putfield 58, 3) := by decide +kernel
theorem dX3_become_48 : decode cX3_become 48 = .ok (.aload_n 0, 1) := by decide +kernel
theorem dX3_become_49 : decode cX3_become 49 = .ok (.aload_n 1, 1) := by decide +kernel
theorem dX3_become_50 : decode cX3_become 50 = .ok (.getfield 61, 3) := by decide +kernel
theorem dX3_become_53 : decode cX3_become 53 = .ok (.putfield 61, 3) := by decide +kernel
theorem dX3_become_56 : decode cX3_become 56 = .ok (.aload_n 0, 1) := by decide +kernel
theorem dX3_become_57 : decode cX3_become 57 = .ok (.aload_n 1, 1) := by decide +kernel
theorem dX3_become_58 : decode cX3_become 58 = .ok (.getfield 64, 3) := by decide +kernel
theorem dX3_become_61 : decode cX3_become 61 = .ok (.putfield 64, 3) := by decide +kernel
theorem dX3_become_64 : decode cX3_become 64 = .ok (.aload_n 0, 1) := by decide +kernel
theorem dX3_become_65 : decode cX3_become 65 = .ok (.aload_n 1, 1) := by decide +kernel
theorem dX3_become_66 : decode cX3_become 66 = .ok (.getfield 67, 3) := by decide +kernel
theorem dX3_become_69 : decode cX3_become 69 = .ok (.putfield 67, 3) := by decide +kernel
theorem dX3_become_72 : decode cX3_become 72 = .ok (.aload_n 0, 1) := by decide +kernel
theorem dX3_become_73 : decode cX3_become 73 = .ok (.aload_n 1, 1) := by decide +kernel
theorem dX3_become_74 : decode cX3_become 74 = .ok (.getfield 70, 3) := by decide +kernel
theorem dX3_become_77 : decode cX3_become 77 = .ok (.putfield 70, 3) := by decide +kernel
theorem dX3_become_80 : decode cX3_become 80 = .ok (.aload_n 1, 1) := by decide +kernel
theorem dX3_become_81 : decode cX3_become 81 = .ok (.getfield 9, 3) := by decide +kernel
theorem dX3_become_84 : decode cX3_become 84 = .ok (.iconst 0, 1) := by decide +kernel
theorem dX3_become_85 : decode cX3_become 85 = .ok (.aload_n 0, 1) := by decide +kernel
theorem dX3_become_86 : decode cX3_become 86 = .ok (.getfield 9, 3) := by decide +kernel
theorem dX3_become_89 : decode cX3_become 89 = .ok (.iconst 0, 1) := by decide +kernel
theorem dX3_become_90 : decode cX3_become 90 = .ok (.iconst 4, 1) := by decide +kernel
theorem dX3_become_91 : decode cX3_become 91 = .ok (.invokestatic 73, 3) := by decide +kernel
theorem dX3_become_94 : decode cX3_become 94 = .ok (.aload_n 1, 1) := by decide +kernel
theorem dX3_become_95 : decode cX3_become 95 = .ok (.getfield 15, 3) := by decide +kernel
theorem dX3_become_98 : decode cX3_become 98 = .ok (.iconst 0, 1) := by decide +kernel
theorem dX3_become_99 : decode cX3_become 99 = .ok (.aload_n 0, 1) := by decide +kernel
theorem dX3_become_100 : decode cX3_become 100 = .ok (.getfield 15, 3) := by decide +kernel
theorem dX3_become_103 : decode cX3_become 103 = .ok (.iconst 0, 1) := by decide +kernel
theorem dX3_become_104 : decode cX3_become 104 = .ok (.iconst 4, 1) := by decide +kernel
theorem dX3_become_105 : decode cX3_become 105 = .ok (.invokestatic 73, 3) := by decide +kernel
theorem dX3_become_108 : decode cX3_become 108 = .ok (.aload_n 1, 1) := by decide +kernel
theorem dX3_become_109 : decode cX3_become 109 = .ok (.getfield 18, 3) := by decide +kernel
theorem dX3_become_112 : decode cX3_become 112 = .ok (.iconst 0, 1) := by decide +kernel
theorem dX3_become_113 : decode cX3_become 113 = .ok (.aload_n 0, 1) := by decide +kernel
theorem dX3_become_114 : decode cX3_become 114 = .ok (.getfield 18, 3) := by decide +kernel
theorem dX3_become_117 : decode cX3_become 117 = .ok (.iconst 0, 1) := by decide +kernel
theorem dX3_become_118 : decode cX3_become 118 = .ok (.iconst 4, 1) := by decide +kernel
theorem dX3_become_119 : decode cX3_become 119 = .ok (.invokestatic 73, 3) := by decide +kernel
theorem dX3_become_122 : decode cX3_become 122 = .ok (.aload_n 1, 1) := by decide +kernel
theorem dX3_become_123 : decode cX3_become 123 = .ok (.getfield 21, 3) := by decide +kernel
theorem dX3_become_126 : decode cX3_become 126 = .ok (.iconst 0, 1) := by decide +kernel
theorem dX3_become_127 : decode cX3_become 127 = .ok (.aload_n 0, 1) := by decide +kernel
theorem dX3_become_128 : decode cX3_become 128 = .ok (.getfield 21, 3) := by decide +kernel
theorem dX3_become_131 : decode cX3_become 131 = .ok (.iconst 0, 1) := by decide +kernel
theorem dX3_become_132 : decode cX3_become 132 = .ok (.bipush 6, 2) := by decide +kernel
theorem dX3_become_134 : decode cX3_become 134 = .ok (.invokestatic 73, 3) := by decide +kernel
theorem dX3_become_137 : decode cX3_become 137 = .ok (.aload_n 1, 1) := by decide +kernel
theorem dX3_become_138 : decode cX3_become 138 = .ok (.getfield 24, 3) := by decide +kernel
theorem dX3_become_141 : decode cX3_become 141 = .ok (.iconst 0, 1) := by decide +kernel
theorem dX3_become_142 : decode cX3_become 142 = .ok (.aload_n 0, 1) := by decide +kernel
theorem dX3_become_143 : decode cX3_become 143 = .ok (.getfield 24, 3) := by decide +kernel
theorem dX3_become_146 : decode cX3_become 146 = .ok (.iconst 0, 1) := by decide +kernel
theorem dX3_become_147 : decode cX3_become 147 = .ok (.bipush 6, 2) := by decide +kernel
theorem dX3_become_149 : decode cX3_become 149 = .ok (.invokestatic 73, 3) := by decide +kernel
theorem dX3_become_152 : decode cX3_become 152 = .ok (.aload_n 1, 1) := by decide +kernel
theorem dX3_become_153 : decode cX3_become 153 = .ok (.getfield 27, 3) := by decide +kernel
theorem dX3_become_156 : decode cX3_become 156 = .ok (.iconst 0, 1) := by decide +kernel
theorem dX3_become_157 : decode cX3_become 157 = .ok (.aload_n 0, 1) := by decide +kernel
theorem dX3_become_158 : decode cX3_become 158 = .ok (.getfield 27, 3) := by decide +kernel
theorem dX3_become_161 : decode cX3_become 161 = .ok (.iconst 0, 1) := by decide +kernel
theorem dX3_become_162 : decode cX3_become 162 = .ok (.bipush 6, 2) := by decide +kernel
theorem dX3_become_164 : decode cX3_become 164 = .ok (.invokestatic 73, 3) := by decide +kernel
theorem dX3_become_167 : decode cX3_become 167 = .ok (.aload_n 1, 1) := by decide +kernel
theorem dX3_become_168 : decode cX3_become 168 = .ok (.getfield 30, 3) := by decide +kernel
theorem dX3_become_171 : decode cX3_become 171 = .ok (.iconst 0, 1) := by decide +kernel
theorem dX3_become_172 : decode cX3_become 172 = .ok (.aload_n 0, 1) := by decide +kernel
theorem dX3_become_173 : decode cX3_become 173 = .ok (.getfield 30, 3) := by decide +kernel
theorem dX3_become_176 : decode cX3_become 176 = .ok (.iconst 0, 1) := by decide +kernel
theorem dX3_become_177 : decode cX3_become 177 = .ok (.bipush 40, 2) := by decide +kernel
theorem dX3_become_179 : decode cX3_become 179 = .ok (.invokestatic 73, 3) := by decide +kernel
theorem dX3_become_182 : decode cX3_become 182 = .ok (.aload_n 1, 1) := by decide +kernel
theorem dX3_become_183 : decode cX3_become 183 = .ok (.getfield 33, 3) := by decide +kernel
theorem dX3_become_186 : decode cX3_become 186 = .ok (.iconst 0, 1) := by decide +kernel
theorem dX3_become_187 : decode cX3_become 187 = .ok (.aload_n 0, 1) := by decide +kernel
theorem dX3_become_188 : decode cX3_become 188 = .ok (.getfield 33, 3) := by decide +kernel
theorem dX3_become_191 : decode cX3_become 191 = .ok (.iconst 0, 1) := by decide +kernel
theorem dX3_become_192 : decode cX3_become 192 = .ok (.bipush 40, 2) := by decide +kernel
theorem dX3_become_194 : decode cX3_become 194 = .ok (.invokestatic 73, 3) := by decide +kernel
theorem dX3_become_197 : decode cX3_become 197 = .ok (.aload_n 1, 1) := by decide +kernel
theorem dX3_become_198 : decode cX3_become 198 = .ok (.getfield 36, 3) := by decide +kernel
theorem dX3_become_201 : decode cX3_become 201 = .ok (.iconst 0, 1) := by decide +kernel
theorem dX3_become_202 : decode cX3_become 202 = .ok (.aload_n 0, 1) := by decide +kernel
theorem dX3_become_203 : decode cX3_become 203 = .ok (.getfield 36, 3) := by decide +kernel
theorem dX3_become_206 : decode cX3_become 206 = .ok (.iconst 0, 1) := by decide +kernel
theorem dX3_become_207 : decode cX3_become 207 = .ok (.bipush 20, 2) := by decide +kernel
theorem dX3_become_209 : decode cX3_become 209 = .ok (.invokestatic 73, 3) := by decide +kernel
theorem dX3_become_212 : decode cX3_become 212 = .ok (.aload_n 1, 1) := by decide +kernel
theorem dX3_become_213 : decode cX3_become 213 = .ok (.getfield 39, 3) := by decide +kernel
theorem dX3_become_216 : decode cX3_become 216 = .ok (.iconst 0, 1) := by decide +kernel
theorem dX3_become_217 : decode cX3_become 217 = .ok (.aload_n 0, 1) := by decide +kernel
theorem dX3_become_218 : decode cX3_become 218 = .ok (.getfield 39, 3) := by decide +kernel
theorem dX3_become_221 : decode cX3_become 221 = .ok (.iconst 0, 1) := by decide +kernel
theorem dX3_become_222 : decode cX3_become 222 = .ok (.bipush 80, 2) := by decide +kernel
theorem dX3_become_224 : decode cX3_become 224 = .ok (.invokestatic 73, 3) := by decide +kernel
theorem dX3_become_227 : decode cX3_become 227 = .ok (.return_, 1) := by decide +kernel
theorem dX3_clear_0 : decode cX3_clear 0 = .ok (.aload_n 0, 1) := by decide +kernel
theorem dX3_clear_1 : decode cX3_clear 1 = .ok (.iconst 0, 1) := by decide +kernel
theorem dX3_clear_2 : decode cX3_clear 2 = .ok (.putfield 42, 3) := by decide +kernel
theorem dX3_clear_5 : decode cX3_clear 5 = .ok (.aload_n 0, 1) := by decide +kernel
theorem dX3_clear_6 : decode cX3_clear 6 = .ok (.iconst 0, 1) := by decide +kernel
theorem dX3_clear_7 : decode cX3_clear 7 = .ok (.putfield 46, 3) := by decide +kernel
theorem dX3_clear_10 : decode cX3_clear 10 = .ok (.aload_n 0, 1) := by decide +kernel
theorem dX3_clear_11 : decode cX3_clear 11 = .ok (.iconst 0, 1) := by decide +kernel
theorem dX3_clear_12 : decode cX3_clear 12 = .ok (.putfield 49, 3) := by decide +kernel
theorem dX3_clear_15 : decode cX3_clear 15 = .ok (.aload_n 0, 1) := by decide +kernel
theorem dX3_clear_16 : decode cX3_clear 16 = .ok (.iconst 0, 1) := by decide +kernel
theorem dX3_clear_17 : decode cX3_clear 17 = .ok (.putfield 52, 3) := by decide +kernel
theorem dX3_clear_20 : decode cX3_clear 20 = .ok (.aload_n 0, 1) := by decide +kernel
theorem dX3_clear_21 : decode cX3_clear 21 = .ok (.iconst 0, 1) := by decide +kernel
theorem dX3_clear_22 : decode cX3_clear 22 = .ok (.putfield 55, 3) := by decide +kernel
theorem dX3_clear_25 : decode cX3_clear 25 = .ok (.aload_n 0, 1) := by decide +kernel
theorem dX3_clear_26 : decode cX3_clear 26 = .ok (.iconst 0, 1) := by decide +kernel
theorem dX3_clear_27 : decode cX3_clear 27 = .ok (.putfield 58, 3) := by decide +kernel
theorem dX3_clear_30 : decode cX3_clear 30 = .ok (.aload_n 0, 1) := by decide +kernel
theorem dX3_clear_31 : decode cX3_clear 31 = .ok (.iconst 0, 1) := by decide +kernel
theorem dX3_clear_32 : decode cX3_clear 32 = .ok (.putfield 61, 3) := by decide +kernel
theorem dX3_clear_35 : decode cX3_clear 35 = .ok (.aload_n 0, 1) := by decide +kernel
theorem dX3_clear_36 : decode cX3_clear 36 = .ok (.iconst 0, 1) := by decide +kernel
theorem dX3_clear_37 : decode cX3_clear 37 = .ok (.putfield 64, 3) := by decide +kernel
theorem dX3_clear_40 : decode cX3_clear 40 = .ok (.aload_n 0, 1) := by decide +kernel
theorem dX3_clear_41 : decode cX3_clear 41 = .ok (.iconst 0, 1) := by decide +kernel
theorem dX3_clear_42 : decode cX3_clear 42 = .ok (.putfield 67, 3) := by decide +kernel
theorem dX3_clear_45 : decode cX3_clear 45 = .ok (.aload_n 0, 1) := by decide +kernel
theorem dX3_clear_46 : decode cX3_clear 46 = .ok (.iconst 0, 1) := by decide +kernel
theorem dX3_clear_47 : decode cX3_clear 47 = .ok (.putfield 70, 3) := by decide +kernel
theorem dX3_clear_50 : decode cX3_clear 50 = .ok (.return_, 1) := by decide +kernel
theorem dX3_survey_0 : decode cX3_survey 0 = .ok (.iconst 0, 1) := by decide +kernel
theorem dX3_survey_1 : decode cX3_survey 1 = .ok (.istore_n 1, 1) := by decide +kernel
theorem dX3_survey_2 : decode cX3_survey 2 = .ok (.iload_n 1, 1) := by decide +kernel
theorem dX3_survey_3 : decode cX3_survey 3 = .ok (.aload_n 0, 1) := by decide +kernel
theorem dX3_survey_4 : decode cX3_survey 4 = .ok (.invokevirtual 79, 3) := by decide +kernel
theorem dX3_survey_7 : decode cX3_survey 7 = .ok (.if_icmp .ge 86, 3) := by decide +kernel
theorem dX3_survey_93 : decode cX3_survey 93 = .ok (.return_, 1) := by decide +kernel
theorem dX4_forget_0 : decode cX4_forget 0 = .ok (.aload_n 0, 1) := by decide +kernel
theorem dX4_forget_1 : decode cX4_forget 1 = .ok (.iconst 0, 1) := by decide +kernel
theorem dX4_forget_2 : decode cX4_forget 2 = .ok (.putfield 26, 3) := by decide +kernel
theorem dX4_forget_5 : decode cX4_forget 5 = .ok (.return_, 1) := by decide +kernel
theorem dX5_advance_0 : decode cX5_advance 0 = .ok (.aload_n 0, 1) := by decide +kernel
theorem dX5_advance_1 : decode cX5_advance 1 = .ok (.aload_n 0, 1) := by decide +kernel
theorem dX5_advance_2 : decode cX5_advance 2 = .ok (.getfield 31, 3) := by decide +kernel
theorem dX5_advance_5 : decode cX5_advance 5 = .ok (.putfield 141, 3) := by decide +kernel
theorem dX5_advance_8 : decode cX5_advance 8 = .ok (.aload_n 0, 1) := by decide +kernel
theorem dX5_advance_9 : decode cX5_advance 9 = .ok (.getfield 141, 3) := by decide +kernel
theorem dX5_advance_12 : decode cX5_advance 12 = .ok (.aload_n 0, 1) := by decide +kernel
theorem dX5_advance_13 : decode cX5_advance 13 = .ok (.getfield 15, 3) := by decide +kernel
theorem dX5_advance_16 : decode cX5_advance 16 = .ok (.getfield 144, 3) := by decide +kernel
theorem dX5_advance_19 : decode cX5_advance 19 = .ok (.if_icmp .ge 35, 3) := by decide +kernel
theorem dX5_advance_54 : decode cX5_advance 54 = .ok (.aload_n 0, 1) := by decide +kernel
theorem dX5_advance_55 : decode cX5_advance 55 = .ok (.aload_n 0, 1) := by decide +kernel
theorem dX5_advance_56 : decode cX5_advance 56 = .ok (.getfield 141, 3) := by decide +kernel
theorem dX5_advance_59 : decode cX5_advance 59 = .ok (.putfield 31, 3) := by decide +kernel
theorem dX5_advance_62 : decode cX5_advance 62 = .ok (.aload_n 0, 1) := by decide +kernel
theorem dX5_advance_63 : decode cX5_advance 63 = .ok (.getfield 141, 3) := by decide +kernel
theorem dX5_advance_66 : decode cX5_advance 66 = .ok (.aload_n 0, 1) := by decide +kernel
theorem dX5_advance_67 : decode cX5_advance 67 = .ok (.getfield 15, 3) := by decide +kernel
theorem dX5_advance_70 : decode cX5_advance 70 = .ok (.getfield 144, 3) := by decide +kernel
theorem dX5_advance_73 : decode cX5_advance 73 = .ok (.if_icmp .lt 9, 3) := by decide +kernel
theorem dX5_advance_76 : decode cX5_advance 76 = .ok (.aload_n 0, 1) := by decide +kernel
theorem dX5_advance_77 : decode cX5_advance 77 = .ok (.iconst 0, 1) := by decide +kernel
theorem dX5_advance_78 : decode cX5_advance 78 = .ok (.putfield 37, 3) := by decide +kernel
theorem dX5_advance_81 : decode cX5_advance 81 = .ok (.return_, 1) := by decide +kernel
theorem dX5_readTape_0 : decode cX5_readTape 0 = .ok (.aload_n 0, 1) := by decide +kernel
theorem dX5_readTape_1 : decode cX5_readTape 1 = .ok (.getfield 19, 3) := by decide +kernel
theorem dX5_readTape_4 : decode cX5_readTape 4 = .ok (.invokevirtual 23, 3) := by decide +kernel
theorem dX5_readTape_7 : decode cX5_readTape 7 = .ok (.aload_n 0, 1) := by decide +kernel
theorem dX5_readTape_8 : decode cX5_readTape 8 = .ok (.iconst 0, 1) := by decide +kernel
theorem dX5_readTape_9 : decode cX5_readTape 9 = .ok (.putfield 28, 3) := by decide +kernel
theorem dX5_readTape_12 : decode cX5_readTape 12 = .ok (.aload_n 0, 1) := by decide +kernel
theorem dX5_readTape_13 : decode cX5_readTape 13 = .ok (.iconst (-1), 1) := by decide +kernel
theorem dX5_readTape_14 : decode cX5_readTape 14 = .ok (.putfield 9, 3) := by decide +kernel
theorem dX5_readTape_17 : decode cX5_readTape 17 = .ok (.aload_n 0, 1) := by decide +kernel
theorem dX5_readTape_18 : decode cX5_readTape 18 = .ok (.iconst 0, 1) := by decide +kernel
theorem dX5_readTape_19 : decode cX5_readTape 19 = .ok (.putfield 31, 3) := by decide +kernel
theorem dX5_readTape_22 : decode cX5_readTape 22 = .ok (.aload_n 0, 1) := by decide +kernel
theorem dX5_readTape_23 : decode cX5_readTape 23 = .ok (.invokevirtual 34, 3) := by decide +kernel
theorem dX5_readTape_26 : decode cX5_readTape 26 = .ok (.iconst 0, 1) := by decide +kernel
theorem dX5_readTape_27 : decode cX5_readTape 27 = .ok (.istore_n 1, 1) := by decide +kernel
theorem dX5_readTape_28 : decode cX5_readTape 28 = .ok (.iload_n 1, 1) := by decide +kernel
theorem dX5_readTape_29 : decode cX5_readTape 29 = .ok (.sipush 800, 3) := by decide +kernel
theorem dX5_readTape_32 : decode cX5_readTape 32 = .ok (.if_icmp .ge 27, 3) := by decide +kernel
theorem dX5_readTape_35 : decode cX5_readTape 35 = .ok (.aload_n 0, 1) := by decide +kernel
theorem dX5_readTape_36 : decode cX5_readTape 36 = .ok (.getfield 37, 3) := by decide +kernel
theorem dX5_readTape_39 : decode cX5_readTape 39 = .ok (.ifCond .eq 20, 3) := by decide +kernel
theorem dX5_readTape_59 : decode cX5_readTape 59 = .ok (.aload_n 0, 1) := by decide +kernel
theorem dX5_readTape_60 : decode cX5_readTape 60 = .ok (.getfield 19, 3) := by decide +kernel
theorem dX5_readTape_63 : decode cX5_readTape 63 = .ok (.invokevirtual 43, 3) := by decide +kernel
theorem dX5_readTape_66 : decode cX5_readTape 66 = .ok (.aload_n 0, 1) := by decide +kernel
theorem dX5_readTape_67 : decode cX5_readTape 67 = .ok (.getfield 28, 3) := by decide +kernel
theorem dX5_readTape_70 : decode cX5_readTape 70 = .ok (.ifCond .ne 7, 3) := by decide +kernel
theorem dX5_readTape_73 : decode cX5_readTape 73 = .ok (.iconst 1, 1) := by decide +kernel
theorem dX5_readTape_74 : decode cX5_readTape 74 = .ok (.goto 4, 3) := by decide +kernel
theorem dX5_readTape_78 : decode cX5_readTape 78 = .ok (.ireturn, 1) := by decide +kernel
theorem dX6_begin_0 : decode cX6_begin 0 = .ok (.aload_n 0, 1) := by decide +kernel
theorem dX6_begin_1 : decode cX6_begin 1 = .ok (.iload_n 1, 1) := by decide +kernel
theorem dX6_begin_2 : decode cX6_begin 2 = .ok (.putfield 15, 3) := by decide +kernel
theorem dX6_begin_5 : decode cX6_begin 5 = .ok (.aload_n 0, 1) := by decide +kernel
theorem dX6_begin_6 : decode cX6_begin 6 = .ok (.iload_n 2, 1) := by decide +kernel
theorem dX6_begin_7 : decode cX6_begin 7 = .ok (.putfield 19, 3) := by decide +kernel
theorem dX6_begin_10 : decode cX6_begin 10 = .ok (.aload_n 0, 1) := by decide +kernel
theorem dX6_begin_11 : decode cX6_begin 11 = .ok (.getfield 9, 3) := by decide +kernel
theorem dX6_begin_14 : decode cX6_begin 14 = .ok (.lconst 0, 1) := by decide +kernel
theorem dX6_begin_15 : decode cX6_begin 15 = .ok (.invokestatic 22, 3) := by decide +kernel
theorem dX6_begin_18 : decode cX6_begin 18 = .ok (.return_, 1) := by decide +kernel
theorem dX9_back_0 : decode cX9_back 0 = .ok (.iload_n 1, 1) := by decide +kernel
theorem dX9_back_1 : decode cX9_back 1 = .ok (.ifCond .lt 8, 3) := by decide +kernel
theorem dX9_back_4 : decode cX9_back 4 = .ok (.iload_n 1, 1) := by decide +kernel
theorem dX9_back_5 : decode cX9_back 5 = .ok (.iconst 3, 1) := by decide +kernel
theorem dX9_back_6 : decode cX9_back 6 = .ok (.if_icmp .lt 6, 3) := by decide +kernel
theorem dX9_back_9 : decode cX9_back 9 = .ok (.bipush (-2), 2) := by decide +kernel
theorem dX9_back_11 : decode cX9_back 11 = .ok (.ireturn, 1) := by decide +kernel
theorem dX9_back_12 : decode cX9_back 12 = .ok (.aload_n 0, 1) := by decide +kernel
theorem dX9_back_13 : decode cX9_back 13 = .ok (.getfield 81, 3) := by decide +kernel
theorem dX9_back_16 : decode cX9_back 16 = .ok (.iload_n 1, 1) := by decide +kernel
theorem dX9_back_17 : decode cX9_back 17 = .ok (.baload, 1) := by decide +kernel
theorem dX9_back_18 : decode cX9_back 18 = .ok (.ifCond .ne 6, 3) := by decide +kernel
theorem dX9_back_21 : decode cX9_back 21 = .ok (.bipush (-6), 2) := by decide +kernel
theorem dX9_back_23 : decode cX9_back 23 = .ok (.ireturn, 1) := by decide +kernel
theorem dX9_image_0 : decode cX9_image 0 = .ok (.iload_n 1, 1) := by decide +kernel
theorem dX9_image_1 : decode cX9_image 1 = .ok (.ifCond .lt 8, 3) := by decide +kernel
theorem dX9_image_4 : decode cX9_image 4 = .ok (.iload_n 1, 1) := by decide +kernel
theorem dX9_image_5 : decode cX9_image 5 = .ok (.iconst 3, 1) := by decide +kernel
theorem dX9_image_6 : decode cX9_image 6 = .ok (.if_icmp .lt 6, 3) := by decide +kernel
theorem dX9_image_9 : decode cX9_image 9 = .ok (.bipush (-2), 2) := by decide +kernel
theorem dX9_image_11 : decode cX9_image 11 = .ok (.ireturn, 1) := by decide +kernel
theorem dX9_image_12 : decode cX9_image 12 = .ok (.aload_n 0, 1) := by decide +kernel
theorem dX9_image_13 : decode cX9_image 13 = .ok (.getfield 32, 3) := by decide +kernel
theorem dX9_image_16 : decode cX9_image 16 = .ok (.iload_n 1, 1) := by decide +kernel
theorem dX9_image_17 : decode cX9_image 17 = .ok (.aaload, 1) := by decide +kernel
theorem dX9_image_18 : decode cX9_image 18 = .ok (.aload_n 0, 1) := by decide +kernel
theorem dX9_image_19 : decode cX9_image 19 = .ok (.getfield 19, 3) := by decide +kernel
theorem dX9_image_22 : decode cX9_image 22 = .ok (.invokevirtual 101, 3) := by decide +kernel
theorem dX9_image_25 : decode cX9_image 25 = .ok (.aload_n 0, 1) := by decide +kernel
theorem dX9_image_26 : decode cX9_image 26 = .ok (.getfield 81, 3) := by decide +kernel
theorem dX9_image_29 : decode cX9_image 29 = .ok (.iload_n 1, 1) := by decide +kernel
theorem dX9_image_30 : decode cX9_image 30 = .ok (.iconst 1, 1) := by decide +kernel
theorem dX9_image_31 : decode cX9_image 31 = .ok (.bastore, 1) := by decide +kernel
theorem dX9_image_32 : decode cX9_image 32 = .ok (.iconst 0, 1) := by decide +kernel
theorem dX9_image_33 : decode cX9_image 33 = .ok (.ireturn, 1) := by decide +kernel
theorem dX9_land_0 : decode cX9_land 0 = .ok (.aload_n 0, 1) := by decide +kernel
theorem dX9_land_1 : decode cX9_land 1 = .ok (.getfield 28, 3) := by decide +kernel
theorem dX9_land_4 : decode cX9_land 4 = .ok (.invokevirtual 94, 3) := by decide +kernel
theorem dX9_land_7 : decode cX9_land 7 = .ok (.ifCond .ne 6, 3) := by decide +kernel
theorem dX9_land_13 : decode cX9_land 13 = .ok (.aload_n 0, 1) := by decide +kernel
theorem dX9_land_14 : decode cX9_land 14 = .ok (.getfield 10, 3) := by decide +kernel
theorem dX9_land_17 : decode cX9_land 17 = .ok (.iconst 0, 1) := by decide +kernel
theorem dX9_land_18 : decode cX9_land 18 = .ok (.putfield 86, 3) := by decide +kernel
theorem dX9_land_21 : decode cX9_land 21 = .ok (.aload_n 0, 1) := by decide +kernel
theorem dX9_land_22 : decode cX9_land 22 = .ok (.getfield 19, 3) := by decide +kernel
theorem dX9_land_25 : decode cX9_land 25 = .ok (.aload_n 0, 1) := by decide +kernel
theorem dX9_land_26 : decode cX9_land 26 = .ok (.getfield 28, 3) := by decide +kernel
theorem dX9_land_29 : decode cX9_land 29 = .ok (.getfield 98, 3) := by decide +kernel
theorem dX9_land_32 : decode cX9_land 32 = .ok (.invokevirtual 101, 3) := by decide +kernel
theorem dX9_land_35 : decode cX9_land 35 = .ok (.aload_n 0, 1) := by decide +kernel
theorem dX9_land_36 : decode cX9_land 36 = .ok (.getfield 56, 3) := by decide +kernel
theorem dX9_land_39 : decode cX9_land 39 = .ok (.invokevirtual 104, 3) := by decide +kernel
theorem dX9_land_42 : decode cX9_land 42 = .ok (.aload_n 0, 1) := by decide +kernel
theorem dX9_land_43 : decode cX9_land 43 = .ok (.getfield 19, 3) := by decide +kernel
theorem dX9_land_46 : decode cX9_land 46 = .ok (.getfield 107, 3) := by decide +kernel
theorem dX9_land_49 : decode cX9_land 49 = .ok (.ireturn, 1) := by decide +kernel
theorem dX9_row_0 : decode cX9_row 0 = .ok (.iload_n 1, 1) := by decide +kernel
theorem dX9_row_1 : decode cX9_row 1 = .ok (.invokestatic 395, 3) := by decide +kernel
theorem dX9_row_4 : decode cX9_row 4 = .ok (.ifCond .eq 18, 3) := by decide +kernel
theorem dX9_row_7 : decode cX9_row 7 = .ok (.iload_n 2, 1) := by decide +kernel
theorem dX9_row_8 : decode cX9_row 8 = .ok (.ifCond .lt 14, 3) := by decide +kernel
theorem dX9_row_11 : decode cX9_row 11 = .ok (.iload_n 2, 1) := by decide +kernel
theorem dX9_row_12 : decode cX9_row 12 = .ok (.iconst 4, 1) := by decide +kernel
theorem dX9_row_13 : decode cX9_row 13 = .ok (.if_icmp .ge 9, 3) := by decide +kernel
theorem dX9_row_16 : decode cX9_row 16 = .ok (.iload_n 3, 1) := by decide +kernel
theorem dX9_row_17 : decode cX9_row 17 = .ok (.bipush 60, 2) := by decide +kernel
theorem dX9_row_19 : decode cX9_row 19 = .ok (.if_icmp .le 6, 3) := by decide +kernel
theorem dX9_row_22 : decode cX9_row 22 = .ok (.bipush (-2), 2) := by decide +kernel
theorem dX9_row_24 : decode cX9_row 24 = .ok (.ireturn, 1) := by decide +kernel
theorem dX9_row_25 : decode cX9_row 25 = .ok (.iload_n 3, 1) := by decide +kernel
theorem dX9_row_26 : decode cX9_row 26 = .ok (.ifCond .ge 6, 3) := by decide +kernel
theorem dX9_row_29 : decode cX9_row 29 = .ok (.bipush (-3), 2) := by decide +kernel
theorem dX9_row_31 : decode cX9_row 31 = .ok (.ireturn, 1) := by decide +kernel
theorem dX9_row_32 : decode cX9_row 32 = .ok (.aload_n 0, 1) := by decide +kernel
theorem dX9_row_33 : decode cX9_row 33 = .ok (.getfield 38, 3) := by decide +kernel
theorem dX9_row_36 : decode cX9_row 36 = .ok (.iload_n 1, 1) := by decide +kernel
theorem dX9_row_37 : decode cX9_row 37 = .ok (.aaload, 1) := by decide +kernel
theorem dX9_row_38 : decode cX9_row 38 = .ok (.iload_n 2, 1) := by decide +kernel
theorem dX9_row_39 : decode cX9_row 39 = .ok (.iload_n 3, 1) := by decide +kernel
theorem dX9_row_40 : decode cX9_row 40 = .ok (.invokevirtual 398, 3) := by decide +kernel
theorem dX9_row_43 : decode cX9_row 43 = .ok (.iconst 0, 1) := by decide +kernel
theorem dX9_row_44 : decode cX9_row 44 = .ok (.ireturn, 1) := by decide +kernel
theorem wd85 : Cond.fieldLink RX6 19 "GooseShares$Row" "length" "I" ∈ gW := gm (tm_2 87 (by decide +kernel)) rfl
theorem wd86 : Cond.fieldLink RX6 9 "GooseShares$Row" "numbers" "[J" ∈ gW := gm (tm_2 81 (by decide +kernel)) rfl
theorem wd87 : Cond.static yJ7_fill_d0a16 ∈ gW := gm (tm_6 58 (by decide +kernel)) rfl
theorem wd88 : Cond.initialized "java/util/Arrays" ∈ gW := gm (tm_1 18 (by decide +kernel)) rfl
theorem wd89 : Cond.code yJ7_fill_d0a16 cJ7_fill_d0a16 5 none ∈ gW := gm (tm_6 59 (by decide +kernel)) rfl
theorem wd90 : Cond.methodLink RX6 22 yJ7_fill_d0a16 ∈ gW := gm (tm_6 57 (by decide +kernel)) rfl
theorem wd91 : Cond.instanceMethod yX6_begin ∈ gW := gm (tm_6 54 (by decide +kernel)) rfl
theorem wd92 : Cond.selects RX6 yX6_begin yX6_begin ∈ gW := gm (tm_6 55 (by decide +kernel)) rfl
theorem wd93 : Cond.code yX6_begin cX6_begin 3 none ∈ gW := gm (tm_6 56 (by decide +kernel)) rfl
theorem wd94 : Cond.methodLink RX9 398 yX6_begin ∈ gW := gm (tm_6 53 (by decide +kernel)) rfl
theorem wd95 : Cond.fieldLink RX3 52 "GooseShares$Land" "law" "I" ∈ gW := gm (tm_1 61 (by decide +kernel)) rfl
theorem wd96 : Cond.fieldLink RX3 55 "GooseShares$Land" "ear" "I" ∈ gW := gm (tm_1 67 (by decide +kernel)) rfl
theorem wd97 : Cond.fieldLink RX3 58 "GooseShares$Land" "odds" "I" ∈ gW := gm (tm_1 70 (by decide +kernel)) rfl
theorem wd98 : Cond.fieldLink RX3 67 "GooseShares$Land" "lit" "I" ∈ gW := gm (tm_1 88 (by decide +kernel)) rfl
theorem wd99 : Cond.fieldLink RX3 70 "GooseShares$Land" "acts" "I" ∈ gW := gm (tm_1 93 (by decide +kernel)) rfl
theorem wd100 : Cond.fieldLink RX3 9 "GooseShares$Land" "starts" "[I" ∈ gW := gm (tm_1 95 (by decide +kernel)) rfl
theorem wd101 : Cond.initialized "java/lang/System" ∈ gW := gm (tm_1 17 (by decide +kernel)) rfl
theorem wd102 : Cond.methodLink RX3 73 arraycopyName ∈ gW := gm (tm_3 48 (by decide +kernel)) rfl
theorem wd103 : Cond.native arraycopyName ∈ gW := gm (tm_3 50 (by decide +kernel)) rfl
theorem wd104 : Cond.static arraycopyName ∈ gW := gm (tm_3 49 (by decide +kernel)) rfl
theorem wd105 : Cond.fieldLink RX3 15 "GooseShares$Land" "headings" "[I" ∈ gW := gm (tm_1 99 (by decide +kernel)) rfl
theorem wd106 : Cond.fieldLink RX3 18 "GooseShares$Land" "flocks" "[I" ∈ gW := gm (tm_1 103 (by decide +kernel)) rfl
theorem wd107 : Cond.fieldLink RX3 21 "GooseShares$Land" "houses" "[I" ∈ gW := gm (tm_1 107 (by decide +kernel)) rfl
theorem wd108 : Cond.fieldLink RX3 24 "GooseShares$Land" "wants" "[I" ∈ gW := gm (tm_1 112 (by decide +kernel)) rfl
theorem wd109 : Cond.fieldLink RX3 27 "GooseShares$Land" "pays" "[I" ∈ gW := gm (tm_1 116 (by decide +kernel)) rfl
theorem wd110 : Cond.fieldLink RX3 30 "GooseShares$Land" "actPlaces" "[I" ∈ gW := gm (tm_1 120 (by decide +kernel)) rfl
theorem wd111 : Cond.fieldLink RX3 33 "GooseShares$Land" "actWere" "[I" ∈ gW := gm (tm_1 121 (by decide +kernel)) rfl
theorem wd112 : Cond.fieldLink RX3 36 "GooseShares$Land" "within" "[I" ∈ gW := gm (tm_1 122 (by decide +kernel)) rfl
theorem wd113 : Cond.fieldLink RX3 39 "GooseShares$Land" "beside" "[I" ∈ gW := gm (tm_1 124 (by decide +kernel)) rfl
theorem wd114 : Cond.fieldLink RX9 32 "GooseShares" "images" "[LGooseShares$Land;" ∈ gW := gm (tm_2 101 (by decide +kernel)) rfl
theorem wd115 : Cond.instanceMethod yX3_become ∈ gW := gm (tm_3 45 (by decide +kernel)) rfl
theorem wd116 : Cond.selects RX3 yX3_become yX3_become ∈ gW := gm (tm_3 46 (by decide +kernel)) rfl
theorem wd117 : Cond.code yX3_become cX3_become 2 none ∈ gW := gm (tm_3 47 (by decide +kernel)) rfl
theorem wd118 : Cond.methodLink RX9 101 yX3_become ∈ gW := gm (tm_3 44 (by decide +kernel)) rfl
theorem wd119 : Cond.fieldLink RX9 81 "GooseShares" "imaged" "[Z" ∈ gW := gm (tm_2 108 (by decide +kernel)) rfl
theorem wd120 : Cond.fieldLink RX5 31 "GooseShares$Reader" "stop" "I" ∈ gW := gm (tm_1 179 (by decide +kernel)) rfl
theorem wd121 : Cond.fieldLink RX5 141 "GooseShares$Reader" "start" "I" ∈ gW := gm (tm_1 178 (by decide +kernel)) rfl
theorem wd122 : Cond.fieldLink RX5 15 "GooseShares$Reader" "tape" "LGooseShares$Tape;" ∈ gW := gm (tm_1 174 (by decide +kernel)) rfl
theorem wd123 : Cond.fieldLink RX5 144 "GooseShares$Tape" "length" "I" ∈ gW := gm (tm_1 38 (by decide +kernel)) rfl
theorem wd124 : Cond.fieldLink RX5 37 "GooseShares$Reader" "kind" "I" ∈ gW := gm (tm_1 177 (by decide +kernel)) rfl
theorem wd125 : Cond.fieldLink RX5 19 "GooseShares$Reader" "draft" "LGooseShares$Land;" ∈ gW := gm (tm_1 175 (by decide +kernel)) rfl
theorem wd126 : Cond.instanceMethod yX3_clear ∈ gW := gm (tm_2 153 (by decide +kernel)) rfl
theorem wd127 : Cond.selects RX3 yX3_clear yX3_clear ∈ gW := gm (tm_2 154 (by decide +kernel)) rfl
theorem wd128 : Cond.code yX3_clear cX3_clear 1 none ∈ gW := gm (tm_2 155 (by decide +kernel)) rfl
theorem wd129 : Cond.methodLink RX5 23 yX3_clear ∈ gW := gm (tm_2 152 (by decide +kernel)) rfl
theorem wd130 : Cond.fieldLink RX5 28 "GooseShares$Reader" "trouble" "I" ∈ gW := gm (tm_1 180 (by decide +kernel)) rfl
theorem wd131 : Cond.fieldLink RX5 9 "GooseShares$Reader" "where" "I" ∈ gW := gm (tm_1 182 (by decide +kernel)) rfl
theorem wd132 : Cond.instanceMethod yX5_advance ∈ gW := gm (tm_2 157 (by decide +kernel)) rfl
theorem wd133 : Cond.selects RX5 yX5_advance yX5_advance ∈ gW := gm (tm_2 158 (by decide +kernel)) rfl
theorem wd134 : Cond.initialized RX5 ∈ gW := gm (tm_1 4 (by decide +kernel)) rfl
theorem wd135 : Cond.code yX5_advance cX5_advance 1 none ∈ gW := gm (tm_2 159 (by decide +kernel)) rfl
theorem wd136 : Cond.methodLink RX5 34 yX5_advance ∈ gW := gm (tm_2 156 (by decide +kernel)) rfl
theorem wd137 : Cond.instanceMethod yX3_survey ∈ gW := gm (tm_3 25 (by decide +kernel)) rfl
theorem wd138 : Cond.selects RX3 yX3_survey yX3_survey ∈ gW := gm (tm_3 26 (by decide +kernel)) rfl
theorem wd139 : Cond.code yX3_survey cX3_survey 3 none ∈ gW := gm (tm_3 27 (by decide +kernel)) rfl
theorem wd140 : Cond.methodLink RX5 43 yX3_survey ∈ gW := gm (tm_3 24 (by decide +kernel)) rfl
theorem wd141 : Cond.fieldLink RX4 26 "GooseShares$Lanterns" "known" "Z" ∈ gW := gm (tm_2 12 (by decide +kernel)) rfl
theorem wd142 : Cond.instanceMethod yX5_readTape ∈ gW := gm (tm_2 149 (by decide +kernel)) rfl
theorem wd143 : Cond.selects RX5 yX5_readTape yX5_readTape ∈ gW := gm (tm_2 150 (by decide +kernel)) rfl
theorem wd144 : Cond.code yX5_readTape cX5_readTape 2 (some .boolean) ∈ gW := gm (tm_2 151 (by decide +kernel)) rfl
theorem wd145 : Cond.methodLink RX9 94 yX5_readTape ∈ gW := gm (tm_2 148 (by decide +kernel)) rfl
theorem wd146 : Cond.fieldLink RX9 98 "GooseShares$Reader" "draft" "LGooseShares$Land;" ∈ gW := gm (tm_1 176 (by decide +kernel)) rfl
theorem wd147 : Cond.fieldLink RX9 56 "GooseShares" "lanterns" "LGooseShares$Lanterns;" ∈ gW := gm (tm_2 104 (by decide +kernel)) rfl
theorem wd148 : Cond.instanceMethod yX4_forget ∈ gW := gm (tm_3 52 (by decide +kernel)) rfl
theorem wd149 : Cond.selects RX4 yX4_forget yX4_forget ∈ gW := gm (tm_3 53 (by decide +kernel)) rfl
theorem wd150 : Cond.initialized RX4 ∈ gW := gm (tm_1 6 (by decide +kernel)) rfl
theorem wd151 : Cond.code yX4_forget cX4_forget 1 none ∈ gW := gm (tm_3 54 (by decide +kernel)) rfl
theorem wd152 : Cond.methodLink RX9 104 yX4_forget ∈ gW := gm (tm_3 51 (by decide +kernel)) rfl
theorem my_J7_fill_d0a16 : gWS "java/util/Arrays" yJ7_fill_d0a16 cJ7_fill_d0a16 5 none 2 := ⟨⟨wd87, wd88, wd89⟩, ⟨rfl, by decide +kernel, by decide +kernel, by decide +kernel⟩⟩
theorem my_X6_begin : gWV RX6 yX6_begin cX6_begin 3 none 2 := ⟨⟨wd91, wd92, wd68, wd93⟩, ⟨rfl, by decide +kernel, by decide +kernel, by decide +kernel⟩⟩
theorem my_X3_become : gWV RX3 yX3_become cX3_become 2 none 1 := ⟨⟨wd115, wd116, wd7, wd117⟩, ⟨rfl, by decide +kernel, by decide +kernel, by decide +kernel⟩⟩
theorem my_X3_clear : gWV RX3 yX3_clear cX3_clear 1 none 0 := ⟨⟨wd126, wd127, wd7, wd128⟩, ⟨rfl, by decide +kernel, by decide +kernel, by decide +kernel⟩⟩
theorem my_X5_advance : gWV RX5 yX5_advance cX5_advance 1 none 0 := ⟨⟨wd132, wd133, wd134, wd135⟩, ⟨rfl, by decide +kernel, by decide +kernel, by decide +kernel⟩⟩
theorem my_X3_survey : gWV RX3 yX3_survey cX3_survey 3 none 0 := ⟨⟨wd137, wd138, wd7, wd139⟩, ⟨rfl, by decide +kernel, by decide +kernel, by decide +kernel⟩⟩
theorem my_X5_readTape : gWV RX5 yX5_readTape cX5_readTape 2 (some .boolean) 0 := ⟨⟨wd142, wd143, wd134, wd144⟩, ⟨rfl, by decide +kernel, by decide +kernel, by decide +kernel⟩⟩
theorem my_X4_forget : gWV RX4 yX4_forget cX4_forget 1 none 0 := ⟨⟨wd148, wd149, wd150, wd151⟩, ⟨rfl, by decide +kernel, by decide +kernel, by decide +kernel⟩⟩
theorem ti_3 : (3 : Int32).toInt = 3 := by decide
end
section
def gImgs (E : gE) (L : List Nat) (f : gF) (iv : Nat → Option Nat) (n : Nat) : Prop := ∀ k, k < 3 → ∃ (q : Nat) (a : Nat → Nat), iv k = some q ∧ q ∈ L ∧ f q = .inr (3, [.int (0 : Int32), .int (0 : Int32), .int (0 : Int32), .int (0 : Int32), .int (0 : Int32), .int (0 : Int32), .int (0 : Int32), .int (0 : Int32), .int (0 : Int32), .int (0 : Int32), .ref (a 0), .ref (a 1), .ref (a 2), .ref (a 3), .ref (a 4), .ref (a 5), .ref (a 6), .ref (a 7), .ref (a 8), .ref (a 9)]) ∧ gArrs E L f a ∧ q ≠ n
theorem gArrs_neO {E : gE} {L : List Nat} {f : gF} {na : Nat → Nat} {b ci : Nat} {x : List Value} (h : gArrs E L f na) (hb : f b = .inr (ci, x)) : ∀ i, i < 10 → b ≠ na i := fun i hi => by
  obtain ⟨-, v, h2⟩ := h i hi
  exact g_neOA hb h2
theorem gArrs_neA {E : gE} {L : List Nat} {f : gF} {na : Nat → Nat} {b n : Nat} {cA : ClassId} {x : (Nat → Int32) ⊕ ((Nat → Int64) ⊕ ((Nat → UInt32) ⊕ ((Nat → UInt64) ⊕ (Nat → Option Nat))))} (h : gArrs E L f na) (hb : f b = .inl (cA, n, x)) (hn : ∀ i, i < 10 → n ≠ gLen i) : ∀ i, i < 10 → b ≠ na i := fun i hi => by
  obtain ⟨-, v, h2⟩ := h i hi
  exact g_neN hb h2 (hn i hi)
theorem gArrs_keep1 {E : gE} {L : List Nat} {f f1 : gF} {na : Nat → Nat} {q ci : Nat} {x : List Value} (hk : ∀ b, b ≠ q → f1 b = f b) (hq : f q = .inr (ci, x)) (h : gArrs E L f na) : gArrs E L f1 na := fun i hi => by
  obtain ⟨h1, v, h2⟩ := h i hi
  exact ⟨h1, v, (hk _ (g_neAO h2 hq)).trans h2⟩
theorem gArrs_keep2 {E : gE} {L : List Nat} {f f1 : gF} {na : Nat → Nat} {q ci q2 cj : Nat} {x y : List Value} (hk : ∀ b, b ≠ q → b ≠ q2 → f1 b = f b) (hq : f q = .inr (ci, x)) (hq2 : f q2 = .inr (cj, y)) (h : gArrs E L f na) : gArrs E L f1 na := fun i hi => by
  obtain ⟨h1, v, h2⟩ := h i hi
  exact ⟨h1, v, (hk _ (g_neAO h2 hq) (g_neAO h2 hq2)).trans h2⟩
set_option maxHeartbeats 4000000 in
set_option maxRecDepth 100000 in
theorem k_fillJ (l : Launch) (E : gE) (L : List Nat) (f : gF) {a n : Nat} {v : Nat → Int64} (ma : a ∈ L) (fa : f a = .inl (E.2.2 2, n, .inr (.inl v))) (hn : n < 2 ^ 31) (z : Int64) : gMv l E yJ7_fill_d0a16 cJ7_fill_d0a16 5 (gRm 1 0 0) [.ref a, .long z] L f (fun L1 f1 => L = L1 ∧ (∃ u, f1 a = .inl (E.2.2 2, n, .inr (.inl u))) ∧ ∀ b, b ≠ a → f1 b = f b) := by
  refine gMv.intro (by decide) (Nat.le_of_ble_eq_true rfl) ?_
  intro p e s m below meth c A ls C hr hnm hA hH hl
  have C : gC E cJ7_fill_d0a16 5 RJ7 p s m _ meth c := C
  have hl : lv_has ls 5 [(0, .ref a), (1, .long z)] := hl
  have hx := C.1
  have hb := C.2.1
  refine lv_iconst (v := (0 : Int32)) hx hb dJ7_fill_d0a16_0 (by decide) ?_
  refine lv_istore_n (lv' := [(3, .int (0 : Int32)), (0, .ref a), (1, .long z)]) hx hb dJ7_fill_d0a16_1 rfl hl (by decide) rfl (fun ls hl => ?_)
  refine lv_aload_n hx hb dJ7_fill_d0a16_2 rfl (lv_at hl 1 rfl) ?_
  refine g_alen C hH ma 2 rfl fa (v := nI n) rfl dJ7_fill_d0a16_3 ?_
  refine lv_istore (lv' := [(4, .int (nI n)), (3, .int (0 : Int32)), (0, .ref a), (1, .long z)]) hx hb dJ7_fill_d0a16_4 hl (by decide) rfl (fun ls hl => ?_)
  have loop : ∀ (k i : Nat) (x : Int32) (f1 : gF) (v1 : Nat → Int64) (H : Heap) (locs : List Loc) (ls : Array Slot), i + k = n → x = nI i → f1 a = .inl (E.2.2 2, n, .inr (.inl v1)) → (∀ b, b ≠ a → f1 b = f b) → gH E A L f1 s.heap H locs → lv_has ls 5 [(4, .int (nI n)), (3, .int x), (0, .ref a), (1, .long z)] → W p l e (gRm 1 0 0) s m [Value.ref a, Value.long z].toArray below meth c H locs 0 0 (MQ below (gQv E A (fun L1 f1 => L = L1 ∧ (∃ u, f1 a = .inl (E.2.2 2, n, .inr (.inl u))) ∧ ∀ b, b ≠ a → f1 b = f b)) [Value.ref a, Value.long z].toArray s (gRm 1 0 0).cells (gRm 1 0 0).slots A) (F0 m 6 ls []) := by
    intro k
    induction k with
    | zero =>
      intro i x f1 v1 H locs ls hik ex h1 h2 hH hl
      obtain rfl : i = n := by omega
      refine lv_iload_n hx hb dJ7_fill_d0a16_6 rfl (lv_at hl 1 rfl) ?_
      refine lv_iload hx hb dJ7_fill_d0a16_7 (lv_at hl 0 rfl) ?_
      refine lv_icmp_ge (tgt := 22) hx hb dJ7_fill_d0a16_9 (by decide) (fun _ => ?_) (fun h => absurd (by rw [ex]; exact Int32.le_refl _) h)
      refine g_vret C hr hH (Nat.le_of_ble_eq_true rfl) (Nat.le_of_ble_eq_true rfl) dJ7_fill_d0a16_22 ?_
      exact ⟨rfl, ⟨_, h1⟩, h2⟩
    | succ k ih =>
      intro i x f1 v1 H locs ls hik ex h1 h2 hH hl
      refine lv_iload_n hx hb dJ7_fill_d0a16_6 rfl (lv_at hl 1 rfl) ?_
      refine lv_iload hx hb dJ7_fill_d0a16_7 (lv_at hl 0 rfl) ?_
      refine lv_icmp_ge (tgt := 22) hx hb dJ7_fill_d0a16_9 (by decide) (fun h => absurd h (by rw [ex]; exact nI_ge (by omega) hn)) (fun _ => ?_)
      refine lv_aload_n hx hb dJ7_fill_d0a16_12 rfl (lv_at hl 2 rfl) ?_
      refine lv_iload_n hx hb dJ7_fill_d0a16_13 rfl (lv_at hl 1 rfl) ?_
      refine lv_lload_n hx hb dJ7_fill_d0a16_14 rfl (lv_at hl 3 rfl) ?_
      refine g_last C hH ma h1 (by rw [ex]; exact vp_in_nI (by omega) hn) dJ7_fill_d0a16_15 (fun H locs hH => ?_)
      obtain ⟨x2, ex2⟩ : ∃ y : Int32, y = x + 1 := ⟨_, rfl⟩
      refine lv_iinc (v := x2) (lv' := [(3, .int x2), (4, .int (nI n)), (0, .ref a), (1, .long z)]) hx hb dJ7_fill_d0a16_16 hl (k := 1) rfl (by rw [ex2]; rfl) (by decide) rfl (fun ls hl => ?_)
      refine lv_goto (tgt := 6) hx hb dJ7_fill_d0a16_19 (by decide) ?_
      exact ih (i + 1) x2 _ _ _ _ ls (by omega) (by rw [ex2, ex]; exact nI_1 i) (va_up_self _ _ _) (fun b hb => (va_up_ne _ _ hb).trans (h2 b hb)) hH (lv_sub hl [1, 0, 2, 3] rfl)
  exact loop n 0 _ _ _ _ _ ls (by omega) nI_0.symm fa (fun _ _ => rfl) hH hl
set_option maxHeartbeats 4000000 in
set_option maxRecDepth 100000 in
theorem k_begin (l : Launch) (E : gE) (L : List Nat) (f : gF) {q nu : Nat} {u : Nat → Int64} (mq : q ∈ L) (fq : f q = .inr (6, [.ref nu, .int (-1 : Int32), .int (0 : Int32)])) (mu : nu ∈ L) (fu : f nu = .inl (E.2.2 2, 60, .inr (.inl u))) (p0 p1 : Int32) : gMv l E yX6_begin cX6_begin 3 (gRm 2 0 0) [.ref q, .int p0, .int p1] L f (fun _ _ => True) := by
  refine gMv.intro (by decide) (Nat.le_of_ble_eq_true rfl) ?_
  intro p e s m below meth c A ls C hr hnm hA hH hl
  have C : gC E cX6_begin 3 RX6 p s m _ meth c := C
  have hl : lv_has ls 3 [(0, .ref q), (1, .int p0), (2, .int p1)] := hl
  have hx := C.1
  have hb := C.2.1
  refine lv_aload_n hx hb dX6_begin_0 rfl (lv_at hl 0 rfl) ?_
  refine lv_iload_n hx hb dX6_begin_1 rfl (lv_at hl 1 rfl) ?_
  refine g_put C hH mq fq iX6 tyX6 tyX6_ok nmX6 rfl 1 (by decide) wd64 rfl rfl rfl rfl (Nat.le_of_ble_eq_true rfl) (fs' := [.ref nu, .int p0, .int (0 : Int32)]) rfl dX6_begin_2 (fun H locs hH => ?_)
  obtain ⟨f1, ef1⟩ : ∃ z : gF, z = va_up f q (.inr (6, [.ref nu, .int p0, .int (0 : Int32)])) := ⟨_, rfl⟩
  have hH : gH E A L f1 s.heap H locs := by rw [ef1]; exact hH
  have h2 : f1 q = .inr (6, [.ref nu, .int p0, .int (0 : Int32)]) := (congrFun ef1 q).trans (va_up_self _ _ _)
  refine lv_aload_n hx hb dX6_begin_5 rfl (lv_at hl 0 rfl) ?_
  refine lv_iload_n hx hb dX6_begin_6 rfl (lv_at hl 2 rfl) ?_
  refine g_put C hH mq h2 iX6 tyX6 tyX6_ok nmX6 rfl 2 (by decide) wd85 rfl rfl rfl rfl (Nat.le_of_ble_eq_true rfl) (fs' := [.ref nu, .int p0, .int p1]) rfl dX6_begin_7 (fun H locs hH => ?_)
  obtain ⟨f3, ef3⟩ : ∃ z : gF, z = va_up f1 q (.inr (6, [.ref nu, .int p0, .int p1])) := ⟨_, rfl⟩
  have hH : gH E A L f3 s.heap H locs := by rw [ef3]; exact hH
  have h4 : f3 q = .inr (6, [.ref nu, .int p0, .int p1]) := (congrFun ef3 q).trans (va_up_self _ _ _)
  refine lv_aload_n hx hb dX6_begin_10 rfl (lv_at hl 0 rfl) ?_
  refine g_get C hH mq h4 iX6 rfl 0 (by decide) wd86 rfl rfl dX6_begin_11 ?_
  refine lv_lconst (v := (0 : Int64)) hx hb dX6_begin_14 (by decide) ?_
  have h5 : f1 nu = .inl (E.2.2 2, 60, .inr (.inl u)) := ((congrFun ef1 nu).trans (va_up_ne _ _ (g_neAO fu fq))).trans fu
  have h6 : f3 nu = .inl (E.2.2 2, 60, .inr (.inl u)) := ((congrFun ef3 nu).trans (va_up_ne _ _ (g_neAO h5 h2))).trans h5
  refine g_Sv C hl.1 hA hH (As := [.ref nu, .long (0 : Int64)]) (rest := []) (k_fillJ l E L f3 mu h6 (Nat.le_of_ble_eq_true rfl) (0 : Int64)) my_J7_fill_d0a16 wd90 rfl rfl (Nat.le_of_ble_eq_true rfl) ⟨Nat.le_of_ble_eq_true rfl, Nat.le_of_ble_eq_true rfl⟩ ⟨Nat.le_of_ble_eq_true rfl, Nat.le_of_ble_eq_true rfl⟩ dX6_begin_15 (fun L8 f7 H locs hp hH => ?_)
  obtain ⟨rfl, ⟨v9, h10⟩, k11⟩ := hp
  refine g_vret C hr hH (Nat.le_of_ble_eq_true rfl) (Nat.le_of_ble_eq_true rfl) dX6_begin_18 ?_
  exact trivial
set_option maxHeartbeats 4000000 in
set_option maxRecDepth 100000 in
theorem k_row (l : Launch) (E : gE) (L : List Nat) (f : gF) {x xt xn xr xi xw xs xl xc xh xf xm : Nat} (mx : x ∈ L) (fx : f x = .inr (9, [.ref xt, .ref xn, .ref xr, .ref xi, .ref xw, .ref xs, .ref xl, .ref xc, .ref xh, .ref xf, .ref xm])) {wv : Nat → Option Nat} (mw : xw ∈ L) (fw : f xw = .inl (E.2.2 5, 4, .inr (.inr (.inr (.inr wv))))) (wr : gRows E L f wv) (p0 p1 p2 : Int32) : gMi l E yX9_row cX9_row 4 .int (gRm 3 0 0) [.ref x, .int p0, .int p1, .int p2] L f (fun r _ _ => r = gRow p0 p1 p2) := by
  refine gMi.intro (by decide) (Nat.le_of_ble_eq_true rfl) ?_
  intro p e s m below meth c A ls C hr hA hH hl
  have C : gC E cX9_row 4 RX9 p s m _ meth c := C
  have hl : lv_has ls 4 [(0, .ref x), (1, .int p0), (2, .int p1), (3, .int p2)] := hl
  have hx := C.1
  have hb := C.2.1
  refine lv_iload_n hx hb dX9_row_0 rfl (lv_at hl 1 rfl) ?_
  refine g_Si C hl.1 hA hH (As := [.int p0]) (rest := []) (k_isSlot l E L f p0) my_X9_isSlot wd17 rfl rfl (Nat.le_of_ble_eq_true rfl) ⟨Nat.le_of_ble_eq_true rfl, Nat.le_of_ble_eq_true rfl⟩ ⟨Nat.le_of_ble_eq_true rfl, Nat.le_of_ble_eq_true rfl⟩ dX9_row_1 (fun r3 L2 f1 H locs hp hH => ?_)
  obtain ⟨er3, rfl, rfl⟩ := hp
  subst er3
  refine lv_if_eq (tgt := 22) hx hb dX9_row_4 (by decide) (fun c4 => ?_) (fun c4 => ?_)
  · skip
    refine lv_bipush (v := (-2 : Int32)) hx hb dX9_row_22 (by decide) ?_
    refine g_iret C hr hH (Nat.le_of_ble_eq_true rfl) (Nat.le_of_ble_eq_true rfl) dX9_row_24 ?_
    exact (by rw [gRow, if_pos c4])
  · skip
    refine lv_iload_n hx hb dX9_row_7 rfl (lv_at hl 2 rfl) ?_
    refine lv_if_lt (tgt := 22) hx hb dX9_row_8 (by decide) (fun c5 => ?_) (fun c5 => ?_)
    · skip
      refine lv_bipush (v := (-2 : Int32)) hx hb dX9_row_22 (by decide) ?_
      refine g_iret C hr hH (Nat.le_of_ble_eq_true rfl) (Nat.le_of_ble_eq_true rfl) dX9_row_24 ?_
      exact (by rw [gRow, if_neg c4, if_pos c5])
    · skip
      refine lv_iload_n hx hb dX9_row_11 rfl (lv_at hl 2 rfl) ?_
      refine lv_iconst (v := (4 : Int32)) hx hb dX9_row_12 (by decide) ?_
      refine lv_icmp_ge (tgt := 22) hx hb dX9_row_13 (by decide) (fun c6 => ?_) (fun c6 => ?_)
      · skip
        refine lv_bipush (v := (-2 : Int32)) hx hb dX9_row_22 (by decide) ?_
        refine g_iret C hr hH (Nat.le_of_ble_eq_true rfl) (Nat.le_of_ble_eq_true rfl) dX9_row_24 ?_
        exact (by rw [gRow, if_neg c4, if_neg c5, if_pos c6])
      · skip
        refine lv_iload_n hx hb dX9_row_16 rfl (lv_at hl 3 rfl) ?_
        refine lv_bipush (v := (60 : Int32)) hx hb dX9_row_17 (by decide) ?_
        refine lv_icmp_le (tgt := 25) hx hb dX9_row_19 (by decide) (fun c7 => ?_) (fun c7 => ?_)
        · skip
          refine lv_iload_n hx hb dX9_row_25 rfl (lv_at hl 3 rfl) ?_
          refine lv_if_ge (tgt := 32) hx hb dX9_row_26 (by decide) (fun c8 => ?_) (fun c8 => ?_)
          · skip
            refine lv_aload_n hx hb dX9_row_32 rfl (lv_at hl 0 rfl) ?_
            refine g_get C hH mx fx iX9 rfl 4 (by decide) wd65 rfl rfl dX9_row_33 ?_
            refine lv_iload_n hx hb dX9_row_36 rfl (lv_at hl 1 rfl) ?_
            obtain ⟨q9, nu10, u11, h12, m13, h14, m15, h16⟩ := wr (p0).toNatClampNeg (vp_lt (gSlot_in c4))
            refine g_aald C hH mw 5 rfl fw (gSlot_in c4) h12 dX9_row_37 ?_
            refine lv_iload_n hx hb dX9_row_38 rfl (lv_at hl 2 rfl) ?_
            refine lv_iload_n hx hb dX9_row_39 rfl (lv_at hl 3 rfl) ?_
            refine g_Vv C hl.1 hA hH (As := [.int p1, .int p2]) (rest := []) (k_begin l E L f m13 h14 m15 h16 p1 p2) my_X6_begin wd94 m13 h14 rfl rfl rfl (Nat.le_of_ble_eq_true rfl) ⟨Nat.le_of_ble_eq_true rfl, Nat.le_of_ble_eq_true rfl⟩ ⟨Nat.le_of_ble_eq_true rfl, Nat.le_of_ble_eq_true rfl⟩ dX9_row_40 (fun L18 f17 H locs hp hH => ?_)
            refine lv_iconst (v := (0 : Int32)) hx hb dX9_row_43 (by decide) ?_
            refine g_iret C hr hH (Nat.le_of_ble_eq_true rfl) (Nat.le_of_ble_eq_true rfl) dX9_row_44 ?_
            exact (by rw [gRow, if_neg c4, if_neg c5, if_neg c6, if_pos c7, if_pos c8])
          · skip
            refine lv_bipush (v := (-3 : Int32)) hx hb dX9_row_29 (by decide) ?_
            refine g_iret C hr hH (Nat.le_of_ble_eq_true rfl) (Nat.le_of_ble_eq_true rfl) dX9_row_31 ?_
            exact (by rw [gRow, if_neg c4, if_neg c5, if_neg c6, if_pos c7, if_neg c8])
        · skip
          refine lv_bipush (v := (-2 : Int32)) hx hb dX9_row_22 (by decide) ?_
          refine g_iret C hr hH (Nat.le_of_ble_eq_true rfl) (Nat.le_of_ble_eq_true rfl) dX9_row_24 ?_
          exact (by rw [gRow, if_neg c4, if_neg c5, if_neg c6, if_neg c7])
set_option maxHeartbeats 4000000 in
set_option maxRecDepth 100000 in
theorem k_become (l : Launch) (E : gE) (L : List Nat) (f : gF) {q o : Nat} {na oa : Nat → Nat} {v0 u0 v1 u1 v2 u2 v3 u3 v4 u4 v5 u5 v6 u6 v7 u7 v8 u8 v9 u9 : Int32} (mq : q ∈ L) (fq : f q = .inr (3, [.int v0, .int v1, .int v2, .int v3, .int v4, .int v5, .int v6, .int v7, .int v8, .int v9, .ref (na 0), .ref (na 1), .ref (na 2), .ref (na 3), .ref (na 4), .ref (na 5), .ref (na 6), .ref (na 7), .ref (na 8), .ref (na 9)])) (mo : o ∈ L) (fo : f o = .inr (3, [.int u0, .int u1, .int u2, .int u3, .int u4, .int u5, .int u6, .int u7, .int u8, .int u9, .ref (oa 0), .ref (oa 1), .ref (oa 2), .ref (oa 3), .ref (oa 4), .ref (oa 5), .ref (oa 6), .ref (oa 7), .ref (oa 8), .ref (oa 9)])) (gq : gArrs E L f na) (go : gArrs E L f oa) (hqo : q ≠ o) : gMv l E yX3_become cX3_become 2 (gRm 1 0 0) [.ref q, .ref o] L f (fun L1 f1 => L = L1 ∧ f1 q = .inr (3, [.int u0, .int u1, .int u2, .int u3, .int u4, .int u5, .int u6, .int u7, .int u8, .int u9, .ref (na 0), .ref (na 1), .ref (na 2), .ref (na 3), .ref (na 4), .ref (na 5), .ref (na 6), .ref (na 7), .ref (na 8), .ref (na 9)]) ∧ gArrs E L f1 na ∧ ∀ b, b ≠ q → (∀ i, i < 10 → b ≠ na i) → f1 b = f b) := by
  refine gMv.intro (by decide) (Nat.le_of_ble_eq_true rfl) ?_
  intro p e s m below meth c A ls C hr hnm hA hH hl
  have C : gC E cX3_become 2 RX3 p s m _ meth c := C
  have hl : lv_has ls 2 [(0, .ref q), (1, .ref o)] := hl
  have hx := C.1
  have hb := C.2.1
  refine lv_aload_n hx hb dX3_become_0 rfl (lv_at hl 0 rfl) ?_
  refine lv_aload_n hx hb dX3_become_1 rfl (lv_at hl 1 rfl) ?_
  refine g_get C hH mo fo iX3 rfl 0 (by decide) wd0 rfl rfl dX3_become_2 ?_
  refine g_put C hH mq fq iX3 tyX3 tyX3_ok nmX3 rfl 0 (by decide) wd0 rfl rfl rfl rfl (Nat.le_of_ble_eq_true rfl) (fs' := [.int u0, .int v1, .int v2, .int v3, .int v4, .int v5, .int v6, .int v7, .int v8, .int v9, .ref (na 0), .ref (na 1), .ref (na 2), .ref (na 3), .ref (na 4), .ref (na 5), .ref (na 6), .ref (na 7), .ref (na 8), .ref (na 9)]) rfl dX3_become_5 (fun H locs hH => ?_)
  obtain ⟨f1, ef1⟩ : ∃ z : gF, z = va_up f q (.inr (3, [.int u0, .int v1, .int v2, .int v3, .int v4, .int v5, .int v6, .int v7, .int v8, .int v9, .ref (na 0), .ref (na 1), .ref (na 2), .ref (na 3), .ref (na 4), .ref (na 5), .ref (na 6), .ref (na 7), .ref (na 8), .ref (na 9)])) := ⟨_, rfl⟩
  have hH : gH E A L f1 s.heap H locs := by rw [ef1]; exact hH
  have h2 : f1 q = .inr (3, [.int u0, .int v1, .int v2, .int v3, .int v4, .int v5, .int v6, .int v7, .int v8, .int v9, .ref (na 0), .ref (na 1), .ref (na 2), .ref (na 3), .ref (na 4), .ref (na 5), .ref (na 6), .ref (na 7), .ref (na 8), .ref (na 9)]) := (congrFun ef1 q).trans (va_up_self _ _ _)
  refine lv_aload_n hx hb dX3_become_8 rfl (lv_at hl 0 rfl) ?_
  refine lv_aload_n hx hb dX3_become_9 rfl (lv_at hl 1 rfl) ?_
  have h3 : f1 o = .inr (3, [.int u0, .int u1, .int u2, .int u3, .int u4, .int u5, .int u6, .int u7, .int u8, .int u9, .ref (oa 0), .ref (oa 1), .ref (oa 2), .ref (oa 3), .ref (oa 4), .ref (oa 5), .ref (oa 6), .ref (oa 7), .ref (oa 8), .ref (oa 9)]) := ((congrFun ef1 o).trans (va_up_ne _ _ (Ne.symm hqo))).trans fo
  refine g_get C hH mo h3 iX3 rfl 1 (by decide) wd1 rfl rfl dX3_become_10 ?_
  refine g_put C hH mq h2 iX3 tyX3 tyX3_ok nmX3 rfl 1 (by decide) wd1 rfl rfl rfl rfl (Nat.le_of_ble_eq_true rfl) (fs' := [.int u0, .int u1, .int v2, .int v3, .int v4, .int v5, .int v6, .int v7, .int v8, .int v9, .ref (na 0), .ref (na 1), .ref (na 2), .ref (na 3), .ref (na 4), .ref (na 5), .ref (na 6), .ref (na 7), .ref (na 8), .ref (na 9)]) rfl dX3_become_13 (fun H locs hH => ?_)
  obtain ⟨f4, ef4⟩ : ∃ z : gF, z = va_up f1 q (.inr (3, [.int u0, .int u1, .int v2, .int v3, .int v4, .int v5, .int v6, .int v7, .int v8, .int v9, .ref (na 0), .ref (na 1), .ref (na 2), .ref (na 3), .ref (na 4), .ref (na 5), .ref (na 6), .ref (na 7), .ref (na 8), .ref (na 9)])) := ⟨_, rfl⟩
  have hH : gH E A L f4 s.heap H locs := by rw [ef4]; exact hH
  have h5 : f4 q = .inr (3, [.int u0, .int u1, .int v2, .int v3, .int v4, .int v5, .int v6, .int v7, .int v8, .int v9, .ref (na 0), .ref (na 1), .ref (na 2), .ref (na 3), .ref (na 4), .ref (na 5), .ref (na 6), .ref (na 7), .ref (na 8), .ref (na 9)]) := (congrFun ef4 q).trans (va_up_self _ _ _)
  refine lv_aload_n hx hb dX3_become_16 rfl (lv_at hl 0 rfl) ?_
  refine lv_aload_n hx hb dX3_become_17 rfl (lv_at hl 1 rfl) ?_
  have h6 : f4 o = .inr (3, [.int u0, .int u1, .int u2, .int u3, .int u4, .int u5, .int u6, .int u7, .int u8, .int u9, .ref (oa 0), .ref (oa 1), .ref (oa 2), .ref (oa 3), .ref (oa 4), .ref (oa 5), .ref (oa 6), .ref (oa 7), .ref (oa 8), .ref (oa 9)]) := ((congrFun ef4 o).trans (va_up_ne _ _ (Ne.symm hqo))).trans h3
  refine g_get C hH mo h6 iX3 rfl 2 (by decide) wd2 rfl rfl dX3_become_18 ?_
  refine g_put C hH mq h5 iX3 tyX3 tyX3_ok nmX3 rfl 2 (by decide) wd2 rfl rfl rfl rfl (Nat.le_of_ble_eq_true rfl) (fs' := [.int u0, .int u1, .int u2, .int v3, .int v4, .int v5, .int v6, .int v7, .int v8, .int v9, .ref (na 0), .ref (na 1), .ref (na 2), .ref (na 3), .ref (na 4), .ref (na 5), .ref (na 6), .ref (na 7), .ref (na 8), .ref (na 9)]) rfl dX3_become_21 (fun H locs hH => ?_)
  obtain ⟨f7, ef7⟩ : ∃ z : gF, z = va_up f4 q (.inr (3, [.int u0, .int u1, .int u2, .int v3, .int v4, .int v5, .int v6, .int v7, .int v8, .int v9, .ref (na 0), .ref (na 1), .ref (na 2), .ref (na 3), .ref (na 4), .ref (na 5), .ref (na 6), .ref (na 7), .ref (na 8), .ref (na 9)])) := ⟨_, rfl⟩
  have hH : gH E A L f7 s.heap H locs := by rw [ef7]; exact hH
  have h8 : f7 q = .inr (3, [.int u0, .int u1, .int u2, .int v3, .int v4, .int v5, .int v6, .int v7, .int v8, .int v9, .ref (na 0), .ref (na 1), .ref (na 2), .ref (na 3), .ref (na 4), .ref (na 5), .ref (na 6), .ref (na 7), .ref (na 8), .ref (na 9)]) := (congrFun ef7 q).trans (va_up_self _ _ _)
  refine lv_aload_n hx hb dX3_become_24 rfl (lv_at hl 0 rfl) ?_
  refine lv_aload_n hx hb dX3_become_25 rfl (lv_at hl 1 rfl) ?_
  have h9 : f7 o = .inr (3, [.int u0, .int u1, .int u2, .int u3, .int u4, .int u5, .int u6, .int u7, .int u8, .int u9, .ref (oa 0), .ref (oa 1), .ref (oa 2), .ref (oa 3), .ref (oa 4), .ref (oa 5), .ref (oa 6), .ref (oa 7), .ref (oa 8), .ref (oa 9)]) := ((congrFun ef7 o).trans (va_up_ne _ _ (Ne.symm hqo))).trans h6
  refine g_get C hH mo h9 iX3 rfl 3 (by decide) wd95 rfl rfl dX3_become_26 ?_
  refine g_put C hH mq h8 iX3 tyX3 tyX3_ok nmX3 rfl 3 (by decide) wd95 rfl rfl rfl rfl (Nat.le_of_ble_eq_true rfl) (fs' := [.int u0, .int u1, .int u2, .int u3, .int v4, .int v5, .int v6, .int v7, .int v8, .int v9, .ref (na 0), .ref (na 1), .ref (na 2), .ref (na 3), .ref (na 4), .ref (na 5), .ref (na 6), .ref (na 7), .ref (na 8), .ref (na 9)]) rfl dX3_become_29 (fun H locs hH => ?_)
  obtain ⟨f10, ef10⟩ : ∃ z : gF, z = va_up f7 q (.inr (3, [.int u0, .int u1, .int u2, .int u3, .int v4, .int v5, .int v6, .int v7, .int v8, .int v9, .ref (na 0), .ref (na 1), .ref (na 2), .ref (na 3), .ref (na 4), .ref (na 5), .ref (na 6), .ref (na 7), .ref (na 8), .ref (na 9)])) := ⟨_, rfl⟩
  have hH : gH E A L f10 s.heap H locs := by rw [ef10]; exact hH
  have h11 : f10 q = .inr (3, [.int u0, .int u1, .int u2, .int u3, .int v4, .int v5, .int v6, .int v7, .int v8, .int v9, .ref (na 0), .ref (na 1), .ref (na 2), .ref (na 3), .ref (na 4), .ref (na 5), .ref (na 6), .ref (na 7), .ref (na 8), .ref (na 9)]) := (congrFun ef10 q).trans (va_up_self _ _ _)
  refine lv_aload_n hx hb dX3_become_32 rfl (lv_at hl 0 rfl) ?_
  refine lv_aload_n hx hb dX3_become_33 rfl (lv_at hl 1 rfl) ?_
  have h12 : f10 o = .inr (3, [.int u0, .int u1, .int u2, .int u3, .int u4, .int u5, .int u6, .int u7, .int u8, .int u9, .ref (oa 0), .ref (oa 1), .ref (oa 2), .ref (oa 3), .ref (oa 4), .ref (oa 5), .ref (oa 6), .ref (oa 7), .ref (oa 8), .ref (oa 9)]) := ((congrFun ef10 o).trans (va_up_ne _ _ (Ne.symm hqo))).trans h9
  refine g_get C hH mo h12 iX3 rfl 4 (by decide) wd96 rfl rfl dX3_become_34 ?_
  refine g_put C hH mq h11 iX3 tyX3 tyX3_ok nmX3 rfl 4 (by decide) wd96 rfl rfl rfl rfl (Nat.le_of_ble_eq_true rfl) (fs' := [.int u0, .int u1, .int u2, .int u3, .int u4, .int v5, .int v6, .int v7, .int v8, .int v9, .ref (na 0), .ref (na 1), .ref (na 2), .ref (na 3), .ref (na 4), .ref (na 5), .ref (na 6), .ref (na 7), .ref (na 8), .ref (na 9)]) rfl dX3_become_37 (fun H locs hH => ?_)
  obtain ⟨f13, ef13⟩ : ∃ z : gF, z = va_up f10 q (.inr (3, [.int u0, .int u1, .int u2, .int u3, .int u4, .int v5, .int v6, .int v7, .int v8, .int v9, .ref (na 0), .ref (na 1), .ref (na 2), .ref (na 3), .ref (na 4), .ref (na 5), .ref (na 6), .ref (na 7), .ref (na 8), .ref (na 9)])) := ⟨_, rfl⟩
  have hH : gH E A L f13 s.heap H locs := by rw [ef13]; exact hH
  have h14 : f13 q = .inr (3, [.int u0, .int u1, .int u2, .int u3, .int u4, .int v5, .int v6, .int v7, .int v8, .int v9, .ref (na 0), .ref (na 1), .ref (na 2), .ref (na 3), .ref (na 4), .ref (na 5), .ref (na 6), .ref (na 7), .ref (na 8), .ref (na 9)]) := (congrFun ef13 q).trans (va_up_self _ _ _)
  refine lv_aload_n hx hb dX3_become_40 rfl (lv_at hl 0 rfl) ?_
  refine lv_aload_n hx hb dX3_become_41 rfl (lv_at hl 1 rfl) ?_
  have h15 : f13 o = .inr (3, [.int u0, .int u1, .int u2, .int u3, .int u4, .int u5, .int u6, .int u7, .int u8, .int u9, .ref (oa 0), .ref (oa 1), .ref (oa 2), .ref (oa 3), .ref (oa 4), .ref (oa 5), .ref (oa 6), .ref (oa 7), .ref (oa 8), .ref (oa 9)]) := ((congrFun ef13 o).trans (va_up_ne _ _ (Ne.symm hqo))).trans h12
  refine g_get C hH mo h15 iX3 rfl 5 (by decide) wd97 rfl rfl dX3_become_42 ?_
  refine g_put C hH mq h14 iX3 tyX3 tyX3_ok nmX3 rfl 5 (by decide) wd97 rfl rfl rfl rfl (Nat.le_of_ble_eq_true rfl) (fs' := [.int u0, .int u1, .int u2, .int u3, .int u4, .int u5, .int v6, .int v7, .int v8, .int v9, .ref (na 0), .ref (na 1), .ref (na 2), .ref (na 3), .ref (na 4), .ref (na 5), .ref (na 6), .ref (na 7), .ref (na 8), .ref (na 9)]) rfl dX3_become_45 (fun H locs hH => ?_)
  obtain ⟨f16, ef16⟩ : ∃ z : gF, z = va_up f13 q (.inr (3, [.int u0, .int u1, .int u2, .int u3, .int u4, .int u5, .int v6, .int v7, .int v8, .int v9, .ref (na 0), .ref (na 1), .ref (na 2), .ref (na 3), .ref (na 4), .ref (na 5), .ref (na 6), .ref (na 7), .ref (na 8), .ref (na 9)])) := ⟨_, rfl⟩
  have hH : gH E A L f16 s.heap H locs := by rw [ef16]; exact hH
  have h17 : f16 q = .inr (3, [.int u0, .int u1, .int u2, .int u3, .int u4, .int u5, .int v6, .int v7, .int v8, .int v9, .ref (na 0), .ref (na 1), .ref (na 2), .ref (na 3), .ref (na 4), .ref (na 5), .ref (na 6), .ref (na 7), .ref (na 8), .ref (na 9)]) := (congrFun ef16 q).trans (va_up_self _ _ _)
  refine lv_aload_n hx hb dX3_become_48 rfl (lv_at hl 0 rfl) ?_
  refine lv_aload_n hx hb dX3_become_49 rfl (lv_at hl 1 rfl) ?_
  have h18 : f16 o = .inr (3, [.int u0, .int u1, .int u2, .int u3, .int u4, .int u5, .int u6, .int u7, .int u8, .int u9, .ref (oa 0), .ref (oa 1), .ref (oa 2), .ref (oa 3), .ref (oa 4), .ref (oa 5), .ref (oa 6), .ref (oa 7), .ref (oa 8), .ref (oa 9)]) := ((congrFun ef16 o).trans (va_up_ne _ _ (Ne.symm hqo))).trans h15
  refine g_get C hH mo h18 iX3 rfl 6 (by decide) wd3 rfl rfl dX3_become_50 ?_
  refine g_put C hH mq h17 iX3 tyX3 tyX3_ok nmX3 rfl 6 (by decide) wd3 rfl rfl rfl rfl (Nat.le_of_ble_eq_true rfl) (fs' := [.int u0, .int u1, .int u2, .int u3, .int u4, .int u5, .int u6, .int v7, .int v8, .int v9, .ref (na 0), .ref (na 1), .ref (na 2), .ref (na 3), .ref (na 4), .ref (na 5), .ref (na 6), .ref (na 7), .ref (na 8), .ref (na 9)]) rfl dX3_become_53 (fun H locs hH => ?_)
  obtain ⟨f19, ef19⟩ : ∃ z : gF, z = va_up f16 q (.inr (3, [.int u0, .int u1, .int u2, .int u3, .int u4, .int u5, .int u6, .int v7, .int v8, .int v9, .ref (na 0), .ref (na 1), .ref (na 2), .ref (na 3), .ref (na 4), .ref (na 5), .ref (na 6), .ref (na 7), .ref (na 8), .ref (na 9)])) := ⟨_, rfl⟩
  have hH : gH E A L f19 s.heap H locs := by rw [ef19]; exact hH
  have h20 : f19 q = .inr (3, [.int u0, .int u1, .int u2, .int u3, .int u4, .int u5, .int u6, .int v7, .int v8, .int v9, .ref (na 0), .ref (na 1), .ref (na 2), .ref (na 3), .ref (na 4), .ref (na 5), .ref (na 6), .ref (na 7), .ref (na 8), .ref (na 9)]) := (congrFun ef19 q).trans (va_up_self _ _ _)
  refine lv_aload_n hx hb dX3_become_56 rfl (lv_at hl 0 rfl) ?_
  refine lv_aload_n hx hb dX3_become_57 rfl (lv_at hl 1 rfl) ?_
  have h21 : f19 o = .inr (3, [.int u0, .int u1, .int u2, .int u3, .int u4, .int u5, .int u6, .int u7, .int u8, .int u9, .ref (oa 0), .ref (oa 1), .ref (oa 2), .ref (oa 3), .ref (oa 4), .ref (oa 5), .ref (oa 6), .ref (oa 7), .ref (oa 8), .ref (oa 9)]) := ((congrFun ef19 o).trans (va_up_ne _ _ (Ne.symm hqo))).trans h18
  refine g_get C hH mo h21 iX3 rfl 7 (by decide) wd4 rfl rfl dX3_become_58 ?_
  refine g_put C hH mq h20 iX3 tyX3 tyX3_ok nmX3 rfl 7 (by decide) wd4 rfl rfl rfl rfl (Nat.le_of_ble_eq_true rfl) (fs' := [.int u0, .int u1, .int u2, .int u3, .int u4, .int u5, .int u6, .int u7, .int v8, .int v9, .ref (na 0), .ref (na 1), .ref (na 2), .ref (na 3), .ref (na 4), .ref (na 5), .ref (na 6), .ref (na 7), .ref (na 8), .ref (na 9)]) rfl dX3_become_61 (fun H locs hH => ?_)
  obtain ⟨f22, ef22⟩ : ∃ z : gF, z = va_up f19 q (.inr (3, [.int u0, .int u1, .int u2, .int u3, .int u4, .int u5, .int u6, .int u7, .int v8, .int v9, .ref (na 0), .ref (na 1), .ref (na 2), .ref (na 3), .ref (na 4), .ref (na 5), .ref (na 6), .ref (na 7), .ref (na 8), .ref (na 9)])) := ⟨_, rfl⟩
  have hH : gH E A L f22 s.heap H locs := by rw [ef22]; exact hH
  have h23 : f22 q = .inr (3, [.int u0, .int u1, .int u2, .int u3, .int u4, .int u5, .int u6, .int u7, .int v8, .int v9, .ref (na 0), .ref (na 1), .ref (na 2), .ref (na 3), .ref (na 4), .ref (na 5), .ref (na 6), .ref (na 7), .ref (na 8), .ref (na 9)]) := (congrFun ef22 q).trans (va_up_self _ _ _)
  refine lv_aload_n hx hb dX3_become_64 rfl (lv_at hl 0 rfl) ?_
  refine lv_aload_n hx hb dX3_become_65 rfl (lv_at hl 1 rfl) ?_
  have h24 : f22 o = .inr (3, [.int u0, .int u1, .int u2, .int u3, .int u4, .int u5, .int u6, .int u7, .int u8, .int u9, .ref (oa 0), .ref (oa 1), .ref (oa 2), .ref (oa 3), .ref (oa 4), .ref (oa 5), .ref (oa 6), .ref (oa 7), .ref (oa 8), .ref (oa 9)]) := ((congrFun ef22 o).trans (va_up_ne _ _ (Ne.symm hqo))).trans h21
  refine g_get C hH mo h24 iX3 rfl 8 (by decide) wd98 rfl rfl dX3_become_66 ?_
  refine g_put C hH mq h23 iX3 tyX3 tyX3_ok nmX3 rfl 8 (by decide) wd98 rfl rfl rfl rfl (Nat.le_of_ble_eq_true rfl) (fs' := [.int u0, .int u1, .int u2, .int u3, .int u4, .int u5, .int u6, .int u7, .int u8, .int v9, .ref (na 0), .ref (na 1), .ref (na 2), .ref (na 3), .ref (na 4), .ref (na 5), .ref (na 6), .ref (na 7), .ref (na 8), .ref (na 9)]) rfl dX3_become_69 (fun H locs hH => ?_)
  obtain ⟨f25, ef25⟩ : ∃ z : gF, z = va_up f22 q (.inr (3, [.int u0, .int u1, .int u2, .int u3, .int u4, .int u5, .int u6, .int u7, .int u8, .int v9, .ref (na 0), .ref (na 1), .ref (na 2), .ref (na 3), .ref (na 4), .ref (na 5), .ref (na 6), .ref (na 7), .ref (na 8), .ref (na 9)])) := ⟨_, rfl⟩
  have hH : gH E A L f25 s.heap H locs := by rw [ef25]; exact hH
  have h26 : f25 q = .inr (3, [.int u0, .int u1, .int u2, .int u3, .int u4, .int u5, .int u6, .int u7, .int u8, .int v9, .ref (na 0), .ref (na 1), .ref (na 2), .ref (na 3), .ref (na 4), .ref (na 5), .ref (na 6), .ref (na 7), .ref (na 8), .ref (na 9)]) := (congrFun ef25 q).trans (va_up_self _ _ _)
  refine lv_aload_n hx hb dX3_become_72 rfl (lv_at hl 0 rfl) ?_
  refine lv_aload_n hx hb dX3_become_73 rfl (lv_at hl 1 rfl) ?_
  have h27 : f25 o = .inr (3, [.int u0, .int u1, .int u2, .int u3, .int u4, .int u5, .int u6, .int u7, .int u8, .int u9, .ref (oa 0), .ref (oa 1), .ref (oa 2), .ref (oa 3), .ref (oa 4), .ref (oa 5), .ref (oa 6), .ref (oa 7), .ref (oa 8), .ref (oa 9)]) := ((congrFun ef25 o).trans (va_up_ne _ _ (Ne.symm hqo))).trans h24
  refine g_get C hH mo h27 iX3 rfl 9 (by decide) wd99 rfl rfl dX3_become_74 ?_
  refine g_put C hH mq h26 iX3 tyX3 tyX3_ok nmX3 rfl 9 (by decide) wd99 rfl rfl rfl rfl (Nat.le_of_ble_eq_true rfl) (fs' := [.int u0, .int u1, .int u2, .int u3, .int u4, .int u5, .int u6, .int u7, .int u8, .int u9, .ref (na 0), .ref (na 1), .ref (na 2), .ref (na 3), .ref (na 4), .ref (na 5), .ref (na 6), .ref (na 7), .ref (na 8), .ref (na 9)]) rfl dX3_become_77 (fun H locs hH => ?_)
  obtain ⟨f28, ef28⟩ : ∃ z : gF, z = va_up f25 q (.inr (3, [.int u0, .int u1, .int u2, .int u3, .int u4, .int u5, .int u6, .int u7, .int u8, .int u9, .ref (na 0), .ref (na 1), .ref (na 2), .ref (na 3), .ref (na 4), .ref (na 5), .ref (na 6), .ref (na 7), .ref (na 8), .ref (na 9)])) := ⟨_, rfl⟩
  have hH : gH E A L f28 s.heap H locs := by rw [ef28]; exact hH
  have h29 : f28 q = .inr (3, [.int u0, .int u1, .int u2, .int u3, .int u4, .int u5, .int u6, .int u7, .int u8, .int u9, .ref (na 0), .ref (na 1), .ref (na 2), .ref (na 3), .ref (na 4), .ref (na 5), .ref (na 6), .ref (na 7), .ref (na 8), .ref (na 9)]) := (congrFun ef28 q).trans (va_up_self _ _ _)
  refine lv_aload_n hx hb dX3_become_80 rfl (lv_at hl 1 rfl) ?_
  have h30 : f28 o = .inr (3, [.int u0, .int u1, .int u2, .int u3, .int u4, .int u5, .int u6, .int u7, .int u8, .int u9, .ref (oa 0), .ref (oa 1), .ref (oa 2), .ref (oa 3), .ref (oa 4), .ref (oa 5), .ref (oa 6), .ref (oa 7), .ref (oa 8), .ref (oa 9)]) := ((congrFun ef28 o).trans (va_up_ne _ _ (Ne.symm hqo))).trans h27
  refine g_get C hH mo h30 iX3 rfl 10 (by decide) wd100 rfl rfl dX3_become_81 ?_
  refine lv_iconst (v := (0 : Int32)) hx hb dX3_become_84 (by decide) ?_
  refine lv_aload_n hx hb dX3_become_85 rfl (lv_at hl 0 rfl) ?_
  refine g_get C hH mq h29 iX3 rfl 10 (by decide) wd100 rfl rfl dX3_become_86 ?_
  refine lv_iconst (v := (0 : Int32)) hx hb dX3_become_89 (by decide) ?_
  refine lv_iconst (v := (4 : Int32)) hx hb dX3_become_90 (by decide) ?_
  have h31 := gArrs_upO ef1 fq go
  have h32 := gArrs_upO ef4 h2 h31
  have h33 := gArrs_upO ef7 h5 h32
  have h34 := gArrs_upO ef10 h8 h33
  have h35 := gArrs_upO ef13 h11 h34
  have h36 := gArrs_upO ef16 h14 h35
  have h37 := gArrs_upO ef19 h17 h36
  have h38 := gArrs_upO ef22 h20 h37
  have h39 := gArrs_upO ef25 h23 h38
  have h40 := gArrs_upO ef28 h26 h39
  obtain ⟨m41, v42, h43⟩ := h40 0 (by decide)
  have h44 := gArrs_upO ef1 fq gq
  have h45 := gArrs_upO ef4 h2 h44
  have h46 := gArrs_upO ef7 h5 h45
  have h47 := gArrs_upO ef10 h8 h46
  have h48 := gArrs_upO ef13 h11 h47
  have h49 := gArrs_upO ef16 h14 h48
  have h50 := gArrs_upO ef19 h17 h49
  have h51 := gArrs_upO ef22 h20 h50
  have h52 := gArrs_upO ef25 h23 h51
  have h53 := gArrs_upO ef28 h26 h52
  obtain ⟨m54, v55, h56⟩ := h53 0 (by decide)
  refine g_copyi C hl.1.symm hH wd102 wd103 wd104 wd101 m41 h43 m54 h56 (by decide) (by decide) (by decide) (by decide) (by decide) (Nat.le_of_ble_eq_true rfl) (Nat.le_of_ble_eq_true rfl) dX3_become_91 (fun H locs hH => ?_)
  obtain ⟨f57, ef57⟩ : ∃ z : gF, z = va_up f28 (na 0) (.inl (E.2.2 1, (gLen 0), .inl (va_cpy v42 v55 ((0 : Int32)).toNatClampNeg ((0 : Int32)).toNatClampNeg ((4 : Int32)).toNatClampNeg))) := ⟨_, rfl⟩
  have hH : gH E A L f57 s.heap H locs := by rw [ef57]; exact hH
  have h58 : f57 (na 0) = .inl (E.2.2 1, (gLen 0), .inl (va_cpy v42 v55 ((0 : Int32)).toNatClampNeg ((0 : Int32)).toNatClampNeg ((4 : Int32)).toNatClampNeg)) := (congrFun ef57 (na 0)).trans (va_up_self _ _ _)
  refine lv_aload_n hx hb dX3_become_94 rfl (lv_at hl 1 rfl) ?_
  have h59 : f57 o = .inr (3, [.int u0, .int u1, .int u2, .int u3, .int u4, .int u5, .int u6, .int u7, .int u8, .int u9, .ref (oa 0), .ref (oa 1), .ref (oa 2), .ref (oa 3), .ref (oa 4), .ref (oa 5), .ref (oa 6), .ref (oa 7), .ref (oa 8), .ref (oa 9)]) := ((congrFun ef57 o).trans (va_up_ne _ _ (g_neOA h30 h56))).trans h30
  refine g_get C hH mo h59 iX3 rfl 11 (by decide) wd105 rfl rfl dX3_become_95 ?_
  refine lv_iconst (v := (0 : Int32)) hx hb dX3_become_98 (by decide) ?_
  refine lv_aload_n hx hb dX3_become_99 rfl (lv_at hl 0 rfl) ?_
  have h60 : f57 q = .inr (3, [.int u0, .int u1, .int u2, .int u3, .int u4, .int u5, .int u6, .int u7, .int u8, .int u9, .ref (na 0), .ref (na 1), .ref (na 2), .ref (na 3), .ref (na 4), .ref (na 5), .ref (na 6), .ref (na 7), .ref (na 8), .ref (na 9)]) := ((congrFun ef57 q).trans (va_up_ne _ _ (g_neOA h29 h56))).trans h29
  refine g_get C hH mq h60 iX3 rfl 11 (by decide) wd105 rfl rfl dX3_become_100 ?_
  refine lv_iconst (v := (0 : Int32)) hx hb dX3_become_103 (by decide) ?_
  refine lv_iconst (v := (4 : Int32)) hx hb dX3_become_104 (by decide) ?_
  have h61 := gArrs_upI ef57 h56 h40
  obtain ⟨m62, v63, h64⟩ := h61 1 (by decide)
  have h65 := gArrs_upI ef57 h56 h53
  obtain ⟨m66, v67, h68⟩ := h65 1 (by decide)
  refine g_copyi C hl.1.symm hH wd102 wd103 wd104 wd101 m62 h64 m66 h68 (by decide) (by decide) (by decide) (by decide) (by decide) (Nat.le_of_ble_eq_true rfl) (Nat.le_of_ble_eq_true rfl) dX3_become_105 (fun H locs hH => ?_)
  obtain ⟨f69, ef69⟩ : ∃ z : gF, z = va_up f57 (na 1) (.inl (E.2.2 1, (gLen 1), .inl (va_cpy v63 v67 ((0 : Int32)).toNatClampNeg ((0 : Int32)).toNatClampNeg ((4 : Int32)).toNatClampNeg))) := ⟨_, rfl⟩
  have hH : gH E A L f69 s.heap H locs := by rw [ef69]; exact hH
  have h70 : f69 (na 1) = .inl (E.2.2 1, (gLen 1), .inl (va_cpy v63 v67 ((0 : Int32)).toNatClampNeg ((0 : Int32)).toNatClampNeg ((4 : Int32)).toNatClampNeg)) := (congrFun ef69 (na 1)).trans (va_up_self _ _ _)
  refine lv_aload_n hx hb dX3_become_108 rfl (lv_at hl 1 rfl) ?_
  have h71 : f69 o = .inr (3, [.int u0, .int u1, .int u2, .int u3, .int u4, .int u5, .int u6, .int u7, .int u8, .int u9, .ref (oa 0), .ref (oa 1), .ref (oa 2), .ref (oa 3), .ref (oa 4), .ref (oa 5), .ref (oa 6), .ref (oa 7), .ref (oa 8), .ref (oa 9)]) := ((congrFun ef69 o).trans (va_up_ne _ _ (g_neOA h59 h68))).trans h59
  refine g_get C hH mo h71 iX3 rfl 12 (by decide) wd106 rfl rfl dX3_become_109 ?_
  refine lv_iconst (v := (0 : Int32)) hx hb dX3_become_112 (by decide) ?_
  refine lv_aload_n hx hb dX3_become_113 rfl (lv_at hl 0 rfl) ?_
  have h72 : f69 q = .inr (3, [.int u0, .int u1, .int u2, .int u3, .int u4, .int u5, .int u6, .int u7, .int u8, .int u9, .ref (na 0), .ref (na 1), .ref (na 2), .ref (na 3), .ref (na 4), .ref (na 5), .ref (na 6), .ref (na 7), .ref (na 8), .ref (na 9)]) := ((congrFun ef69 q).trans (va_up_ne _ _ (g_neOA h60 h68))).trans h60
  refine g_get C hH mq h72 iX3 rfl 12 (by decide) wd106 rfl rfl dX3_become_114 ?_
  refine lv_iconst (v := (0 : Int32)) hx hb dX3_become_117 (by decide) ?_
  refine lv_iconst (v := (4 : Int32)) hx hb dX3_become_118 (by decide) ?_
  have h73 := gArrs_upI ef69 h68 h61
  obtain ⟨m74, v75, h76⟩ := h73 2 (by decide)
  have h77 := gArrs_upI ef69 h68 h65
  obtain ⟨m78, v79, h80⟩ := h77 2 (by decide)
  refine g_copyi C hl.1.symm hH wd102 wd103 wd104 wd101 m74 h76 m78 h80 (by decide) (by decide) (by decide) (by decide) (by decide) (Nat.le_of_ble_eq_true rfl) (Nat.le_of_ble_eq_true rfl) dX3_become_119 (fun H locs hH => ?_)
  obtain ⟨f81, ef81⟩ : ∃ z : gF, z = va_up f69 (na 2) (.inl (E.2.2 1, (gLen 2), .inl (va_cpy v75 v79 ((0 : Int32)).toNatClampNeg ((0 : Int32)).toNatClampNeg ((4 : Int32)).toNatClampNeg))) := ⟨_, rfl⟩
  have hH : gH E A L f81 s.heap H locs := by rw [ef81]; exact hH
  have h82 : f81 (na 2) = .inl (E.2.2 1, (gLen 2), .inl (va_cpy v75 v79 ((0 : Int32)).toNatClampNeg ((0 : Int32)).toNatClampNeg ((4 : Int32)).toNatClampNeg)) := (congrFun ef81 (na 2)).trans (va_up_self _ _ _)
  refine lv_aload_n hx hb dX3_become_122 rfl (lv_at hl 1 rfl) ?_
  have h83 : f81 o = .inr (3, [.int u0, .int u1, .int u2, .int u3, .int u4, .int u5, .int u6, .int u7, .int u8, .int u9, .ref (oa 0), .ref (oa 1), .ref (oa 2), .ref (oa 3), .ref (oa 4), .ref (oa 5), .ref (oa 6), .ref (oa 7), .ref (oa 8), .ref (oa 9)]) := ((congrFun ef81 o).trans (va_up_ne _ _ (g_neOA h71 h80))).trans h71
  refine g_get C hH mo h83 iX3 rfl 13 (by decide) wd107 rfl rfl dX3_become_123 ?_
  refine lv_iconst (v := (0 : Int32)) hx hb dX3_become_126 (by decide) ?_
  refine lv_aload_n hx hb dX3_become_127 rfl (lv_at hl 0 rfl) ?_
  have h84 : f81 q = .inr (3, [.int u0, .int u1, .int u2, .int u3, .int u4, .int u5, .int u6, .int u7, .int u8, .int u9, .ref (na 0), .ref (na 1), .ref (na 2), .ref (na 3), .ref (na 4), .ref (na 5), .ref (na 6), .ref (na 7), .ref (na 8), .ref (na 9)]) := ((congrFun ef81 q).trans (va_up_ne _ _ (g_neOA h72 h80))).trans h72
  refine g_get C hH mq h84 iX3 rfl 13 (by decide) wd107 rfl rfl dX3_become_128 ?_
  refine lv_iconst (v := (0 : Int32)) hx hb dX3_become_131 (by decide) ?_
  refine lv_bipush (v := (6 : Int32)) hx hb dX3_become_132 (by decide) ?_
  have h85 := gArrs_upI ef81 h80 h73
  obtain ⟨m86, v87, h88⟩ := h85 3 (by decide)
  have h89 := gArrs_upI ef81 h80 h77
  obtain ⟨m90, v91, h92⟩ := h89 3 (by decide)
  refine g_copyi C hl.1.symm hH wd102 wd103 wd104 wd101 m86 h88 m90 h92 (by decide) (by decide) (by decide) (by decide) (by decide) (Nat.le_of_ble_eq_true rfl) (Nat.le_of_ble_eq_true rfl) dX3_become_134 (fun H locs hH => ?_)
  obtain ⟨f93, ef93⟩ : ∃ z : gF, z = va_up f81 (na 3) (.inl (E.2.2 1, (gLen 3), .inl (va_cpy v87 v91 ((0 : Int32)).toNatClampNeg ((0 : Int32)).toNatClampNeg ((6 : Int32)).toNatClampNeg))) := ⟨_, rfl⟩
  have hH : gH E A L f93 s.heap H locs := by rw [ef93]; exact hH
  have h94 : f93 (na 3) = .inl (E.2.2 1, (gLen 3), .inl (va_cpy v87 v91 ((0 : Int32)).toNatClampNeg ((0 : Int32)).toNatClampNeg ((6 : Int32)).toNatClampNeg)) := (congrFun ef93 (na 3)).trans (va_up_self _ _ _)
  refine lv_aload_n hx hb dX3_become_137 rfl (lv_at hl 1 rfl) ?_
  have h95 : f93 o = .inr (3, [.int u0, .int u1, .int u2, .int u3, .int u4, .int u5, .int u6, .int u7, .int u8, .int u9, .ref (oa 0), .ref (oa 1), .ref (oa 2), .ref (oa 3), .ref (oa 4), .ref (oa 5), .ref (oa 6), .ref (oa 7), .ref (oa 8), .ref (oa 9)]) := ((congrFun ef93 o).trans (va_up_ne _ _ (g_neOA h83 h92))).trans h83
  refine g_get C hH mo h95 iX3 rfl 14 (by decide) wd108 rfl rfl dX3_become_138 ?_
  refine lv_iconst (v := (0 : Int32)) hx hb dX3_become_141 (by decide) ?_
  refine lv_aload_n hx hb dX3_become_142 rfl (lv_at hl 0 rfl) ?_
  have h96 : f93 q = .inr (3, [.int u0, .int u1, .int u2, .int u3, .int u4, .int u5, .int u6, .int u7, .int u8, .int u9, .ref (na 0), .ref (na 1), .ref (na 2), .ref (na 3), .ref (na 4), .ref (na 5), .ref (na 6), .ref (na 7), .ref (na 8), .ref (na 9)]) := ((congrFun ef93 q).trans (va_up_ne _ _ (g_neOA h84 h92))).trans h84
  refine g_get C hH mq h96 iX3 rfl 14 (by decide) wd108 rfl rfl dX3_become_143 ?_
  refine lv_iconst (v := (0 : Int32)) hx hb dX3_become_146 (by decide) ?_
  refine lv_bipush (v := (6 : Int32)) hx hb dX3_become_147 (by decide) ?_
  have h97 := gArrs_upI ef93 h92 h85
  obtain ⟨m98, v99, h100⟩ := h97 4 (by decide)
  have h101 := gArrs_upI ef93 h92 h89
  obtain ⟨m102, v103, h104⟩ := h101 4 (by decide)
  refine g_copyi C hl.1.symm hH wd102 wd103 wd104 wd101 m98 h100 m102 h104 (by decide) (by decide) (by decide) (by decide) (by decide) (Nat.le_of_ble_eq_true rfl) (Nat.le_of_ble_eq_true rfl) dX3_become_149 (fun H locs hH => ?_)
  obtain ⟨f105, ef105⟩ : ∃ z : gF, z = va_up f93 (na 4) (.inl (E.2.2 1, (gLen 4), .inl (va_cpy v99 v103 ((0 : Int32)).toNatClampNeg ((0 : Int32)).toNatClampNeg ((6 : Int32)).toNatClampNeg))) := ⟨_, rfl⟩
  have hH : gH E A L f105 s.heap H locs := by rw [ef105]; exact hH
  have h106 : f105 (na 4) = .inl (E.2.2 1, (gLen 4), .inl (va_cpy v99 v103 ((0 : Int32)).toNatClampNeg ((0 : Int32)).toNatClampNeg ((6 : Int32)).toNatClampNeg)) := (congrFun ef105 (na 4)).trans (va_up_self _ _ _)
  refine lv_aload_n hx hb dX3_become_152 rfl (lv_at hl 1 rfl) ?_
  have h107 : f105 o = .inr (3, [.int u0, .int u1, .int u2, .int u3, .int u4, .int u5, .int u6, .int u7, .int u8, .int u9, .ref (oa 0), .ref (oa 1), .ref (oa 2), .ref (oa 3), .ref (oa 4), .ref (oa 5), .ref (oa 6), .ref (oa 7), .ref (oa 8), .ref (oa 9)]) := ((congrFun ef105 o).trans (va_up_ne _ _ (g_neOA h95 h104))).trans h95
  refine g_get C hH mo h107 iX3 rfl 15 (by decide) wd109 rfl rfl dX3_become_153 ?_
  refine lv_iconst (v := (0 : Int32)) hx hb dX3_become_156 (by decide) ?_
  refine lv_aload_n hx hb dX3_become_157 rfl (lv_at hl 0 rfl) ?_
  have h108 : f105 q = .inr (3, [.int u0, .int u1, .int u2, .int u3, .int u4, .int u5, .int u6, .int u7, .int u8, .int u9, .ref (na 0), .ref (na 1), .ref (na 2), .ref (na 3), .ref (na 4), .ref (na 5), .ref (na 6), .ref (na 7), .ref (na 8), .ref (na 9)]) := ((congrFun ef105 q).trans (va_up_ne _ _ (g_neOA h96 h104))).trans h96
  refine g_get C hH mq h108 iX3 rfl 15 (by decide) wd109 rfl rfl dX3_become_158 ?_
  refine lv_iconst (v := (0 : Int32)) hx hb dX3_become_161 (by decide) ?_
  refine lv_bipush (v := (6 : Int32)) hx hb dX3_become_162 (by decide) ?_
  have h109 := gArrs_upI ef105 h104 h97
  obtain ⟨m110, v111, h112⟩ := h109 5 (by decide)
  have h113 := gArrs_upI ef105 h104 h101
  obtain ⟨m114, v115, h116⟩ := h113 5 (by decide)
  refine g_copyi C hl.1.symm hH wd102 wd103 wd104 wd101 m110 h112 m114 h116 (by decide) (by decide) (by decide) (by decide) (by decide) (Nat.le_of_ble_eq_true rfl) (Nat.le_of_ble_eq_true rfl) dX3_become_164 (fun H locs hH => ?_)
  obtain ⟨f117, ef117⟩ : ∃ z : gF, z = va_up f105 (na 5) (.inl (E.2.2 1, (gLen 5), .inl (va_cpy v111 v115 ((0 : Int32)).toNatClampNeg ((0 : Int32)).toNatClampNeg ((6 : Int32)).toNatClampNeg))) := ⟨_, rfl⟩
  have hH : gH E A L f117 s.heap H locs := by rw [ef117]; exact hH
  have h118 : f117 (na 5) = .inl (E.2.2 1, (gLen 5), .inl (va_cpy v111 v115 ((0 : Int32)).toNatClampNeg ((0 : Int32)).toNatClampNeg ((6 : Int32)).toNatClampNeg)) := (congrFun ef117 (na 5)).trans (va_up_self _ _ _)
  refine lv_aload_n hx hb dX3_become_167 rfl (lv_at hl 1 rfl) ?_
  have h119 : f117 o = .inr (3, [.int u0, .int u1, .int u2, .int u3, .int u4, .int u5, .int u6, .int u7, .int u8, .int u9, .ref (oa 0), .ref (oa 1), .ref (oa 2), .ref (oa 3), .ref (oa 4), .ref (oa 5), .ref (oa 6), .ref (oa 7), .ref (oa 8), .ref (oa 9)]) := ((congrFun ef117 o).trans (va_up_ne _ _ (g_neOA h107 h116))).trans h107
  refine g_get C hH mo h119 iX3 rfl 16 (by decide) wd110 rfl rfl dX3_become_168 ?_
  refine lv_iconst (v := (0 : Int32)) hx hb dX3_become_171 (by decide) ?_
  refine lv_aload_n hx hb dX3_become_172 rfl (lv_at hl 0 rfl) ?_
  have h120 : f117 q = .inr (3, [.int u0, .int u1, .int u2, .int u3, .int u4, .int u5, .int u6, .int u7, .int u8, .int u9, .ref (na 0), .ref (na 1), .ref (na 2), .ref (na 3), .ref (na 4), .ref (na 5), .ref (na 6), .ref (na 7), .ref (na 8), .ref (na 9)]) := ((congrFun ef117 q).trans (va_up_ne _ _ (g_neOA h108 h116))).trans h108
  refine g_get C hH mq h120 iX3 rfl 16 (by decide) wd110 rfl rfl dX3_become_173 ?_
  refine lv_iconst (v := (0 : Int32)) hx hb dX3_become_176 (by decide) ?_
  refine lv_bipush (v := (40 : Int32)) hx hb dX3_become_177 (by decide) ?_
  have h121 := gArrs_upI ef117 h116 h109
  obtain ⟨m122, v123, h124⟩ := h121 6 (by decide)
  have h125 := gArrs_upI ef117 h116 h113
  obtain ⟨m126, v127, h128⟩ := h125 6 (by decide)
  refine g_copyi C hl.1.symm hH wd102 wd103 wd104 wd101 m122 h124 m126 h128 (by decide) (by decide) (by decide) (by decide) (by decide) (Nat.le_of_ble_eq_true rfl) (Nat.le_of_ble_eq_true rfl) dX3_become_179 (fun H locs hH => ?_)
  obtain ⟨f129, ef129⟩ : ∃ z : gF, z = va_up f117 (na 6) (.inl (E.2.2 1, (gLen 6), .inl (va_cpy v123 v127 ((0 : Int32)).toNatClampNeg ((0 : Int32)).toNatClampNeg ((40 : Int32)).toNatClampNeg))) := ⟨_, rfl⟩
  have hH : gH E A L f129 s.heap H locs := by rw [ef129]; exact hH
  have h130 : f129 (na 6) = .inl (E.2.2 1, (gLen 6), .inl (va_cpy v123 v127 ((0 : Int32)).toNatClampNeg ((0 : Int32)).toNatClampNeg ((40 : Int32)).toNatClampNeg)) := (congrFun ef129 (na 6)).trans (va_up_self _ _ _)
  refine lv_aload_n hx hb dX3_become_182 rfl (lv_at hl 1 rfl) ?_
  have h131 : f129 o = .inr (3, [.int u0, .int u1, .int u2, .int u3, .int u4, .int u5, .int u6, .int u7, .int u8, .int u9, .ref (oa 0), .ref (oa 1), .ref (oa 2), .ref (oa 3), .ref (oa 4), .ref (oa 5), .ref (oa 6), .ref (oa 7), .ref (oa 8), .ref (oa 9)]) := ((congrFun ef129 o).trans (va_up_ne _ _ (g_neOA h119 h128))).trans h119
  refine g_get C hH mo h131 iX3 rfl 17 (by decide) wd111 rfl rfl dX3_become_183 ?_
  refine lv_iconst (v := (0 : Int32)) hx hb dX3_become_186 (by decide) ?_
  refine lv_aload_n hx hb dX3_become_187 rfl (lv_at hl 0 rfl) ?_
  have h132 : f129 q = .inr (3, [.int u0, .int u1, .int u2, .int u3, .int u4, .int u5, .int u6, .int u7, .int u8, .int u9, .ref (na 0), .ref (na 1), .ref (na 2), .ref (na 3), .ref (na 4), .ref (na 5), .ref (na 6), .ref (na 7), .ref (na 8), .ref (na 9)]) := ((congrFun ef129 q).trans (va_up_ne _ _ (g_neOA h120 h128))).trans h120
  refine g_get C hH mq h132 iX3 rfl 17 (by decide) wd111 rfl rfl dX3_become_188 ?_
  refine lv_iconst (v := (0 : Int32)) hx hb dX3_become_191 (by decide) ?_
  refine lv_bipush (v := (40 : Int32)) hx hb dX3_become_192 (by decide) ?_
  have h133 := gArrs_upI ef129 h128 h121
  obtain ⟨m134, v135, h136⟩ := h133 7 (by decide)
  have h137 := gArrs_upI ef129 h128 h125
  obtain ⟨m138, v139, h140⟩ := h137 7 (by decide)
  refine g_copyi C hl.1.symm hH wd102 wd103 wd104 wd101 m134 h136 m138 h140 (by decide) (by decide) (by decide) (by decide) (by decide) (Nat.le_of_ble_eq_true rfl) (Nat.le_of_ble_eq_true rfl) dX3_become_194 (fun H locs hH => ?_)
  obtain ⟨f141, ef141⟩ : ∃ z : gF, z = va_up f129 (na 7) (.inl (E.2.2 1, (gLen 7), .inl (va_cpy v135 v139 ((0 : Int32)).toNatClampNeg ((0 : Int32)).toNatClampNeg ((40 : Int32)).toNatClampNeg))) := ⟨_, rfl⟩
  have hH : gH E A L f141 s.heap H locs := by rw [ef141]; exact hH
  have h142 : f141 (na 7) = .inl (E.2.2 1, (gLen 7), .inl (va_cpy v135 v139 ((0 : Int32)).toNatClampNeg ((0 : Int32)).toNatClampNeg ((40 : Int32)).toNatClampNeg)) := (congrFun ef141 (na 7)).trans (va_up_self _ _ _)
  refine lv_aload_n hx hb dX3_become_197 rfl (lv_at hl 1 rfl) ?_
  have h143 : f141 o = .inr (3, [.int u0, .int u1, .int u2, .int u3, .int u4, .int u5, .int u6, .int u7, .int u8, .int u9, .ref (oa 0), .ref (oa 1), .ref (oa 2), .ref (oa 3), .ref (oa 4), .ref (oa 5), .ref (oa 6), .ref (oa 7), .ref (oa 8), .ref (oa 9)]) := ((congrFun ef141 o).trans (va_up_ne _ _ (g_neOA h131 h140))).trans h131
  refine g_get C hH mo h143 iX3 rfl 18 (by decide) wd112 rfl rfl dX3_become_198 ?_
  refine lv_iconst (v := (0 : Int32)) hx hb dX3_become_201 (by decide) ?_
  refine lv_aload_n hx hb dX3_become_202 rfl (lv_at hl 0 rfl) ?_
  have h144 : f141 q = .inr (3, [.int u0, .int u1, .int u2, .int u3, .int u4, .int u5, .int u6, .int u7, .int u8, .int u9, .ref (na 0), .ref (na 1), .ref (na 2), .ref (na 3), .ref (na 4), .ref (na 5), .ref (na 6), .ref (na 7), .ref (na 8), .ref (na 9)]) := ((congrFun ef141 q).trans (va_up_ne _ _ (g_neOA h132 h140))).trans h132
  refine g_get C hH mq h144 iX3 rfl 18 (by decide) wd112 rfl rfl dX3_become_203 ?_
  refine lv_iconst (v := (0 : Int32)) hx hb dX3_become_206 (by decide) ?_
  refine lv_bipush (v := (20 : Int32)) hx hb dX3_become_207 (by decide) ?_
  have h145 := gArrs_upI ef141 h140 h133
  obtain ⟨m146, v147, h148⟩ := h145 8 (by decide)
  have h149 := gArrs_upI ef141 h140 h137
  obtain ⟨m150, v151, h152⟩ := h149 8 (by decide)
  refine g_copyi C hl.1.symm hH wd102 wd103 wd104 wd101 m146 h148 m150 h152 (by decide) (by decide) (by decide) (by decide) (by decide) (Nat.le_of_ble_eq_true rfl) (Nat.le_of_ble_eq_true rfl) dX3_become_209 (fun H locs hH => ?_)
  obtain ⟨f153, ef153⟩ : ∃ z : gF, z = va_up f141 (na 8) (.inl (E.2.2 1, (gLen 8), .inl (va_cpy v147 v151 ((0 : Int32)).toNatClampNeg ((0 : Int32)).toNatClampNeg ((20 : Int32)).toNatClampNeg))) := ⟨_, rfl⟩
  have hH : gH E A L f153 s.heap H locs := by rw [ef153]; exact hH
  have h154 : f153 (na 8) = .inl (E.2.2 1, (gLen 8), .inl (va_cpy v147 v151 ((0 : Int32)).toNatClampNeg ((0 : Int32)).toNatClampNeg ((20 : Int32)).toNatClampNeg)) := (congrFun ef153 (na 8)).trans (va_up_self _ _ _)
  refine lv_aload_n hx hb dX3_become_212 rfl (lv_at hl 1 rfl) ?_
  have h155 : f153 o = .inr (3, [.int u0, .int u1, .int u2, .int u3, .int u4, .int u5, .int u6, .int u7, .int u8, .int u9, .ref (oa 0), .ref (oa 1), .ref (oa 2), .ref (oa 3), .ref (oa 4), .ref (oa 5), .ref (oa 6), .ref (oa 7), .ref (oa 8), .ref (oa 9)]) := ((congrFun ef153 o).trans (va_up_ne _ _ (g_neOA h143 h152))).trans h143
  refine g_get C hH mo h155 iX3 rfl 19 (by decide) wd113 rfl rfl dX3_become_213 ?_
  refine lv_iconst (v := (0 : Int32)) hx hb dX3_become_216 (by decide) ?_
  refine lv_aload_n hx hb dX3_become_217 rfl (lv_at hl 0 rfl) ?_
  have h156 : f153 q = .inr (3, [.int u0, .int u1, .int u2, .int u3, .int u4, .int u5, .int u6, .int u7, .int u8, .int u9, .ref (na 0), .ref (na 1), .ref (na 2), .ref (na 3), .ref (na 4), .ref (na 5), .ref (na 6), .ref (na 7), .ref (na 8), .ref (na 9)]) := ((congrFun ef153 q).trans (va_up_ne _ _ (g_neOA h144 h152))).trans h144
  refine g_get C hH mq h156 iX3 rfl 19 (by decide) wd113 rfl rfl dX3_become_218 ?_
  refine lv_iconst (v := (0 : Int32)) hx hb dX3_become_221 (by decide) ?_
  refine lv_bipush (v := (80 : Int32)) hx hb dX3_become_222 (by decide) ?_
  have h157 := gArrs_upI ef153 h152 h145
  obtain ⟨m158, v159, h160⟩ := h157 9 (by decide)
  have h161 := gArrs_upI ef153 h152 h149
  obtain ⟨m162, v163, h164⟩ := h161 9 (by decide)
  refine g_copyi C hl.1.symm hH wd102 wd103 wd104 wd101 m158 h160 m162 h164 (by decide) (by decide) (by decide) (by decide) (by decide) (Nat.le_of_ble_eq_true rfl) (Nat.le_of_ble_eq_true rfl) dX3_become_224 (fun H locs hH => ?_)
  obtain ⟨f165, ef165⟩ : ∃ z : gF, z = va_up f153 (na 9) (.inl (E.2.2 1, (gLen 9), .inl (va_cpy v159 v163 ((0 : Int32)).toNatClampNeg ((0 : Int32)).toNatClampNeg ((80 : Int32)).toNatClampNeg))) := ⟨_, rfl⟩
  have hH : gH E A L f165 s.heap H locs := by rw [ef165]; exact hH
  have h166 : f165 (na 9) = .inl (E.2.2 1, (gLen 9), .inl (va_cpy v159 v163 ((0 : Int32)).toNatClampNeg ((0 : Int32)).toNatClampNeg ((80 : Int32)).toNatClampNeg)) := (congrFun ef165 (na 9)).trans (va_up_self _ _ _)
  refine g_vret C hr hH (Nat.le_of_ble_eq_true rfl) (Nat.le_of_ble_eq_true rfl) dX3_become_227 ?_
  have h167 : f165 q = .inr (3, [.int u0, .int u1, .int u2, .int u3, .int u4, .int u5, .int u6, .int u7, .int u8, .int u9, .ref (na 0), .ref (na 1), .ref (na 2), .ref (na 3), .ref (na 4), .ref (na 5), .ref (na 6), .ref (na 7), .ref (na 8), .ref (na 9)]) := ((congrFun ef165 q).trans (va_up_ne _ _ (g_neOA h156 h164))).trans h156
  have h168 := gArrs_upI ef165 h164 h161
  exact ⟨rfl, h167, h168, fun b h1 h2 => by rw [ef165, va_up_ne _ _ (h2 9 (by decide)), ef153, va_up_ne _ _ (h2 8 (by decide)), ef141, va_up_ne _ _ (h2 7 (by decide)), ef129, va_up_ne _ _ (h2 6 (by decide)), ef117, va_up_ne _ _ (h2 5 (by decide)), ef105, va_up_ne _ _ (h2 4 (by decide)), ef93, va_up_ne _ _ (h2 3 (by decide)), ef81, va_up_ne _ _ (h2 2 (by decide)), ef69, va_up_ne _ _ (h2 1 (by decide)), ef57, va_up_ne _ _ (h2 0 (by decide)), ef28, va_up_ne _ _ h1, ef25, va_up_ne _ _ h1, ef22, va_up_ne _ _ h1, ef19, va_up_ne _ _ h1, ef16, va_up_ne _ _ h1, ef13, va_up_ne _ _ h1, ef10, va_up_ne _ _ h1, ef7, va_up_ne _ _ h1, ef4, va_up_ne _ _ h1, ef1, va_up_ne _ _ h1]⟩
set_option maxHeartbeats 4000000 in
set_option maxRecDepth 100000 in
theorem k_image (l : Launch) (E : gE) (L : List Nat) (f : gF) {x xt xn xr xi xw xs xl xc xh xf xm : Nat} (mx : x ∈ L) (fx : f x = .inr (9, [.ref xt, .ref xn, .ref xr, .ref xi, .ref xw, .ref xs, .ref xl, .ref xc, .ref xh, .ref xf, .ref xm])) {na : Nat → Nat} (mn : xn ∈ L) (fn : f xn = .inr (3, [.int (0 : Int32), .int (0 : Int32), .int (0 : Int32), .int (0 : Int32), .int (0 : Int32), .int (0 : Int32), .int (0 : Int32), .int (0 : Int32), .int (0 : Int32), .int (0 : Int32), .ref (na 0), .ref (na 1), .ref (na 2), .ref (na 3), .ref (na 4), .ref (na 5), .ref (na 6), .ref (na 7), .ref (na 8), .ref (na 9)])) {iv : Nat → Option Nat} (mi : xi ∈ L) (fi : f xi = .inl (E.2.2 4, 3, .inr (.inr (.inr (.inr iv))))) (im : gImgs E L f iv xn) (mm : xm ∈ L) (fm : f xm = .inl (E.2.2 3, 3, .inl (fun _ => 0))) (gn : gArrs E L f na) (p0 : Int32) : gMi l E yX9_image cX9_image 2 .int (gRm 2 0 0) [.ref x, .int p0] L f (fun r _ _ => r = gImage p0) := by
  refine gMi.intro (by decide) (Nat.le_of_ble_eq_true rfl) ?_
  intro p e s m below meth c A ls C hr hA hH hl
  have C : gC E cX9_image 2 RX9 p s m _ meth c := C
  have hl : lv_has ls 2 [(0, .ref x), (1, .int p0)] := hl
  have hx := C.1
  have hb := C.2.1
  refine lv_iload_n hx hb dX9_image_0 rfl (lv_at hl 1 rfl) ?_
  refine lv_if_lt (tgt := 9) hx hb dX9_image_1 (by decide) (fun c1 => ?_) (fun c1 => ?_)
  · skip
    refine lv_bipush (v := (-2 : Int32)) hx hb dX9_image_9 (by decide) ?_
    refine g_iret C hr hH (Nat.le_of_ble_eq_true rfl) (Nat.le_of_ble_eq_true rfl) dX9_image_11 ?_
    exact (by rw [gImage, if_pos c1])
  · skip
    refine lv_iload_n hx hb dX9_image_4 rfl (lv_at hl 1 rfl) ?_
    refine lv_iconst (v := (3 : Int32)) hx hb dX9_image_5 (by decide) ?_
    refine lv_icmp_lt (tgt := 12) hx hb dX9_image_6 (by decide) (fun c2 => ?_) (fun c2 => ?_)
    · skip
      refine lv_aload_n hx hb dX9_image_12 rfl (lv_at hl 0 rfl) ?_
      refine g_get C hH mx fx iX9 rfl 3 (by decide) wd114 rfl rfl dX9_image_13 ?_
      refine lv_iload_n hx hb dX9_image_16 rfl (lv_at hl 1 rfl) ?_
      obtain ⟨q3, nu4, h6, m7, h8, m9, h10⟩ := im (p0).toNatClampNeg (vp_lt (vp_inL (by simp only [fa_lt, fa_le, fa_eq, ti_0, ti_3] at c1 c2; omega)))
      refine g_aald C hH mi 4 rfl fi (vp_inL (by simp only [fa_lt, fa_le, fa_eq, ti_0, ti_3] at c1 c2; omega)) h6 dX9_image_17 ?_
      refine lv_aload_n hx hb dX9_image_18 rfl (lv_at hl 0 rfl) ?_
      refine g_get C hH mx fx iX9 rfl 1 (by decide) wd18 rfl rfl dX9_image_19 ?_
      refine g_Vv C hl.1 hA hH (As := [.ref xn]) (rest := []) (k_become l E L f m7 h8 mn fn m9 gn h10) my_X3_become wd118 m7 h8 rfl rfl rfl (Nat.le_of_ble_eq_true rfl) ⟨Nat.le_of_ble_eq_true rfl, Nat.le_of_ble_eq_true rfl⟩ ⟨Nat.le_of_ble_eq_true rfl, Nat.le_of_ble_eq_true rfl⟩ dX9_image_22 (fun L12 f11 H locs hp hH => ?_)
      obtain ⟨rfl, h13, h14, k15⟩ := hp
      refine lv_aload_n hx hb dX9_image_25 rfl (lv_at hl 0 rfl) ?_
      have h16 : f11 x = .inr (9, [.ref xt, .ref xn, .ref xr, .ref xi, .ref xw, .ref xs, .ref xl, .ref xc, .ref xh, .ref xf, .ref xm]) := (k15 x (g_neO fx h8 (by decide)) (gArrs_neO m9 fx)).trans fx
      refine g_get C hH mx h16 iX9 rfl 10 (by decide) wd119 rfl rfl dX9_image_26 ?_
      refine lv_iload_n hx hb dX9_image_29 rfl (lv_at hl 1 rfl) ?_
      refine lv_iconst (v := (1 : Int32)) hx hb dX9_image_30 (by decide) ?_
      have h17 : f11 xm = .inl (E.2.2 3, 3, .inl (fun _ => 0)) := (k15 xm (g_neAO fm h8) (gArrs_neA m9 fm (by decide))).trans fm
      refine g_zast C hH mm h17 (vp_inL (by simp only [fa_lt, fa_le, fa_eq, ti_0, ti_3] at c1 c2; omega)) dX9_image_31 (fun H locs hH => ?_)
      obtain ⟨f18, ef18⟩ : ∃ z : gF, z = va_up f11 xm (.inl (E.2.2 3, 3, .inl (upd (fun _ => 0) (p0).toNatClampNeg (vp_nar .boolean ((1 : Int32)))))) := ⟨_, rfl⟩
      have hH : gH E A L f18 s.heap H locs := by rw [ef18]; exact hH
      have h19 : f18 xm = .inl (E.2.2 3, 3, .inl (upd (fun _ => 0) (p0).toNatClampNeg (vp_nar .boolean ((1 : Int32))))) := (congrFun ef18 xm).trans (va_up_self _ _ _)
      refine lv_iconst (v := (0 : Int32)) hx hb dX9_image_32 (by decide) ?_
      refine g_iret C hr hH (Nat.le_of_ble_eq_true rfl) (Nat.le_of_ble_eq_true rfl) dX9_image_33 ?_
      exact (by rw [gImage, if_neg c1, if_pos c2])
    · skip
      refine lv_bipush (v := (-2 : Int32)) hx hb dX9_image_9 (by decide) ?_
      refine g_iret C hr hH (Nat.le_of_ble_eq_true rfl) (Nat.le_of_ble_eq_true rfl) dX9_image_11 ?_
      exact (by rw [gImage, if_neg c1, if_neg c2])
set_option maxHeartbeats 4000000 in
set_option maxRecDepth 100000 in
theorem k_back (l : Launch) (E : gE) (L : List Nat) (f : gF) {x xt xn xr xi xw xs xl xc xh xf xm : Nat} (mx : x ∈ L) (fx : f x = .inr (9, [.ref xt, .ref xn, .ref xr, .ref xi, .ref xw, .ref xs, .ref xl, .ref xc, .ref xh, .ref xf, .ref xm])) {na : Nat → Nat} (mn : xn ∈ L) (fn : f xn = .inr (3, [.int (0 : Int32), .int (0 : Int32), .int (0 : Int32), .int (0 : Int32), .int (0 : Int32), .int (0 : Int32), .int (0 : Int32), .int (0 : Int32), .int (0 : Int32), .int (0 : Int32), .ref (na 0), .ref (na 1), .ref (na 2), .ref (na 3), .ref (na 4), .ref (na 5), .ref (na 6), .ref (na 7), .ref (na 8), .ref (na 9)])) (mm : xm ∈ L) (fm : f xm = .inl (E.2.2 3, 3, .inl (fun _ => 0))) (p0 : Int32) : gMi l E yX9_back cX9_back 2 .int (gRm 2 0 0) [.ref x, .int p0] L f (fun r _ _ => r = gBack p0) := by
  refine gMi.intro (by decide) (Nat.le_of_ble_eq_true rfl) ?_
  intro p e s m below meth c A ls C hr hA hH hl
  have C : gC E cX9_back 2 RX9 p s m _ meth c := C
  have hl : lv_has ls 2 [(0, .ref x), (1, .int p0)] := hl
  have hx := C.1
  have hb := C.2.1
  refine lv_iload_n hx hb dX9_back_0 rfl (lv_at hl 1 rfl) ?_
  refine lv_if_lt (tgt := 9) hx hb dX9_back_1 (by decide) (fun c1 => ?_) (fun c1 => ?_)
  · skip
    refine lv_bipush (v := (-2 : Int32)) hx hb dX9_back_9 (by decide) ?_
    refine g_iret C hr hH (Nat.le_of_ble_eq_true rfl) (Nat.le_of_ble_eq_true rfl) dX9_back_11 ?_
    exact (by rw [gBack, if_pos c1])
  · skip
    refine lv_iload_n hx hb dX9_back_4 rfl (lv_at hl 1 rfl) ?_
    refine lv_iconst (v := (3 : Int32)) hx hb dX9_back_5 (by decide) ?_
    refine lv_icmp_lt (tgt := 12) hx hb dX9_back_6 (by decide) (fun c2 => ?_) (fun c2 => ?_)
    · skip
      refine lv_aload_n hx hb dX9_back_12 rfl (lv_at hl 0 rfl) ?_
      refine g_get C hH mx fx iX9 rfl 10 (by decide) wd119 rfl rfl dX9_back_13 ?_
      refine lv_iload_n hx hb dX9_back_16 rfl (lv_at hl 1 rfl) ?_
      refine g_zald C hH mm fm (vp_inL (by simp only [fa_lt, fa_le, fa_eq, ti_0, ti_3] at c1 c2; omega)) dX9_back_17 ?_
      refine lv_if_ne (tgt := 24) hx hb dX9_back_18 (by decide) (fun h => absurd (by decide) h) (fun _ => ?_)
      refine lv_bipush (v := (-6 : Int32)) hx hb dX9_back_21 (by decide) ?_
      refine g_iret C hr hH (Nat.le_of_ble_eq_true rfl) (Nat.le_of_ble_eq_true rfl) dX9_back_23 ?_
      exact (by rw [gBack, if_neg c1, if_pos c2])
    · skip
      refine lv_bipush (v := (-2 : Int32)) hx hb dX9_back_9 (by decide) ?_
      refine g_iret C hr hH (Nat.le_of_ble_eq_true rfl) (Nat.le_of_ble_eq_true rfl) dX9_back_11 ?_
      exact (by rw [gBack, if_neg c1, if_neg c2])
set_option maxHeartbeats 4000000 in
set_option maxRecDepth 100000 in
theorem k_clear (l : Launch) (E : gE) (L : List Nat) (f : gF) {q : Nat} {na : Nat → Nat} (mq : q ∈ L) (fq : f q = .inr (3, [.int (0 : Int32), .int (0 : Int32), .int (0 : Int32), .int (0 : Int32), .int (0 : Int32), .int (0 : Int32), .int (0 : Int32), .int (0 : Int32), .int (0 : Int32), .int (0 : Int32), .ref (na 0), .ref (na 1), .ref (na 2), .ref (na 3), .ref (na 4), .ref (na 5), .ref (na 6), .ref (na 7), .ref (na 8), .ref (na 9)])) : gMv l E yX3_clear cX3_clear 1 (gRm 1 0 0) [.ref q] L f (fun L1 f1 => L = L1 ∧ f1 q = .inr (3, [.int (0 : Int32), .int (0 : Int32), .int (0 : Int32), .int (0 : Int32), .int (0 : Int32), .int (0 : Int32), .int (0 : Int32), .int (0 : Int32), .int (0 : Int32), .int (0 : Int32), .ref (na 0), .ref (na 1), .ref (na 2), .ref (na 3), .ref (na 4), .ref (na 5), .ref (na 6), .ref (na 7), .ref (na 8), .ref (na 9)]) ∧ ∀ b, b ≠ q → f1 b = f b) := by
  refine gMv.intro (by decide) (Nat.le_of_ble_eq_true rfl) ?_
  intro p e s m below meth c A ls C hr hnm hA hH hl
  have C : gC E cX3_clear 1 RX3 p s m _ meth c := C
  have hl : lv_has ls 1 [(0, .ref q)] := hl
  have hx := C.1
  have hb := C.2.1
  refine lv_aload_n hx hb dX3_clear_0 rfl (lv_at hl 0 rfl) ?_
  refine lv_iconst (v := (0 : Int32)) hx hb dX3_clear_1 (by decide) ?_
  refine g_put C hH mq fq iX3 tyX3 tyX3_ok nmX3 rfl 0 (by decide) wd0 rfl rfl rfl rfl (Nat.le_of_ble_eq_true rfl) (fs' := [.int (0 : Int32), .int (0 : Int32), .int (0 : Int32), .int (0 : Int32), .int (0 : Int32), .int (0 : Int32), .int (0 : Int32), .int (0 : Int32), .int (0 : Int32), .int (0 : Int32), .ref (na 0), .ref (na 1), .ref (na 2), .ref (na 3), .ref (na 4), .ref (na 5), .ref (na 6), .ref (na 7), .ref (na 8), .ref (na 9)]) rfl dX3_clear_2 (fun H locs hH => ?_)
  obtain ⟨f1, ef1⟩ : ∃ z : gF, z = va_up f q (.inr (3, [.int (0 : Int32), .int (0 : Int32), .int (0 : Int32), .int (0 : Int32), .int (0 : Int32), .int (0 : Int32), .int (0 : Int32), .int (0 : Int32), .int (0 : Int32), .int (0 : Int32), .ref (na 0), .ref (na 1), .ref (na 2), .ref (na 3), .ref (na 4), .ref (na 5), .ref (na 6), .ref (na 7), .ref (na 8), .ref (na 9)])) := ⟨_, rfl⟩
  have hH : gH E A L f1 s.heap H locs := by rw [ef1]; exact hH
  have h2 : f1 q = .inr (3, [.int (0 : Int32), .int (0 : Int32), .int (0 : Int32), .int (0 : Int32), .int (0 : Int32), .int (0 : Int32), .int (0 : Int32), .int (0 : Int32), .int (0 : Int32), .int (0 : Int32), .ref (na 0), .ref (na 1), .ref (na 2), .ref (na 3), .ref (na 4), .ref (na 5), .ref (na 6), .ref (na 7), .ref (na 8), .ref (na 9)]) := (congrFun ef1 q).trans (va_up_self _ _ _)
  refine lv_aload_n hx hb dX3_clear_5 rfl (lv_at hl 0 rfl) ?_
  refine lv_iconst (v := (0 : Int32)) hx hb dX3_clear_6 (by decide) ?_
  refine g_put C hH mq h2 iX3 tyX3 tyX3_ok nmX3 rfl 1 (by decide) wd1 rfl rfl rfl rfl (Nat.le_of_ble_eq_true rfl) (fs' := [.int (0 : Int32), .int (0 : Int32), .int (0 : Int32), .int (0 : Int32), .int (0 : Int32), .int (0 : Int32), .int (0 : Int32), .int (0 : Int32), .int (0 : Int32), .int (0 : Int32), .ref (na 0), .ref (na 1), .ref (na 2), .ref (na 3), .ref (na 4), .ref (na 5), .ref (na 6), .ref (na 7), .ref (na 8), .ref (na 9)]) rfl dX3_clear_7 (fun H locs hH => ?_)
  obtain ⟨f3, ef3⟩ : ∃ z : gF, z = va_up f1 q (.inr (3, [.int (0 : Int32), .int (0 : Int32), .int (0 : Int32), .int (0 : Int32), .int (0 : Int32), .int (0 : Int32), .int (0 : Int32), .int (0 : Int32), .int (0 : Int32), .int (0 : Int32), .ref (na 0), .ref (na 1), .ref (na 2), .ref (na 3), .ref (na 4), .ref (na 5), .ref (na 6), .ref (na 7), .ref (na 8), .ref (na 9)])) := ⟨_, rfl⟩
  have hH : gH E A L f3 s.heap H locs := by rw [ef3]; exact hH
  have h4 : f3 q = .inr (3, [.int (0 : Int32), .int (0 : Int32), .int (0 : Int32), .int (0 : Int32), .int (0 : Int32), .int (0 : Int32), .int (0 : Int32), .int (0 : Int32), .int (0 : Int32), .int (0 : Int32), .ref (na 0), .ref (na 1), .ref (na 2), .ref (na 3), .ref (na 4), .ref (na 5), .ref (na 6), .ref (na 7), .ref (na 8), .ref (na 9)]) := (congrFun ef3 q).trans (va_up_self _ _ _)
  refine lv_aload_n hx hb dX3_clear_10 rfl (lv_at hl 0 rfl) ?_
  refine lv_iconst (v := (0 : Int32)) hx hb dX3_clear_11 (by decide) ?_
  refine g_put C hH mq h4 iX3 tyX3 tyX3_ok nmX3 rfl 2 (by decide) wd2 rfl rfl rfl rfl (Nat.le_of_ble_eq_true rfl) (fs' := [.int (0 : Int32), .int (0 : Int32), .int (0 : Int32), .int (0 : Int32), .int (0 : Int32), .int (0 : Int32), .int (0 : Int32), .int (0 : Int32), .int (0 : Int32), .int (0 : Int32), .ref (na 0), .ref (na 1), .ref (na 2), .ref (na 3), .ref (na 4), .ref (na 5), .ref (na 6), .ref (na 7), .ref (na 8), .ref (na 9)]) rfl dX3_clear_12 (fun H locs hH => ?_)
  obtain ⟨f5, ef5⟩ : ∃ z : gF, z = va_up f3 q (.inr (3, [.int (0 : Int32), .int (0 : Int32), .int (0 : Int32), .int (0 : Int32), .int (0 : Int32), .int (0 : Int32), .int (0 : Int32), .int (0 : Int32), .int (0 : Int32), .int (0 : Int32), .ref (na 0), .ref (na 1), .ref (na 2), .ref (na 3), .ref (na 4), .ref (na 5), .ref (na 6), .ref (na 7), .ref (na 8), .ref (na 9)])) := ⟨_, rfl⟩
  have hH : gH E A L f5 s.heap H locs := by rw [ef5]; exact hH
  have h6 : f5 q = .inr (3, [.int (0 : Int32), .int (0 : Int32), .int (0 : Int32), .int (0 : Int32), .int (0 : Int32), .int (0 : Int32), .int (0 : Int32), .int (0 : Int32), .int (0 : Int32), .int (0 : Int32), .ref (na 0), .ref (na 1), .ref (na 2), .ref (na 3), .ref (na 4), .ref (na 5), .ref (na 6), .ref (na 7), .ref (na 8), .ref (na 9)]) := (congrFun ef5 q).trans (va_up_self _ _ _)
  refine lv_aload_n hx hb dX3_clear_15 rfl (lv_at hl 0 rfl) ?_
  refine lv_iconst (v := (0 : Int32)) hx hb dX3_clear_16 (by decide) ?_
  refine g_put C hH mq h6 iX3 tyX3 tyX3_ok nmX3 rfl 3 (by decide) wd95 rfl rfl rfl rfl (Nat.le_of_ble_eq_true rfl) (fs' := [.int (0 : Int32), .int (0 : Int32), .int (0 : Int32), .int (0 : Int32), .int (0 : Int32), .int (0 : Int32), .int (0 : Int32), .int (0 : Int32), .int (0 : Int32), .int (0 : Int32), .ref (na 0), .ref (na 1), .ref (na 2), .ref (na 3), .ref (na 4), .ref (na 5), .ref (na 6), .ref (na 7), .ref (na 8), .ref (na 9)]) rfl dX3_clear_17 (fun H locs hH => ?_)
  obtain ⟨f7, ef7⟩ : ∃ z : gF, z = va_up f5 q (.inr (3, [.int (0 : Int32), .int (0 : Int32), .int (0 : Int32), .int (0 : Int32), .int (0 : Int32), .int (0 : Int32), .int (0 : Int32), .int (0 : Int32), .int (0 : Int32), .int (0 : Int32), .ref (na 0), .ref (na 1), .ref (na 2), .ref (na 3), .ref (na 4), .ref (na 5), .ref (na 6), .ref (na 7), .ref (na 8), .ref (na 9)])) := ⟨_, rfl⟩
  have hH : gH E A L f7 s.heap H locs := by rw [ef7]; exact hH
  have h8 : f7 q = .inr (3, [.int (0 : Int32), .int (0 : Int32), .int (0 : Int32), .int (0 : Int32), .int (0 : Int32), .int (0 : Int32), .int (0 : Int32), .int (0 : Int32), .int (0 : Int32), .int (0 : Int32), .ref (na 0), .ref (na 1), .ref (na 2), .ref (na 3), .ref (na 4), .ref (na 5), .ref (na 6), .ref (na 7), .ref (na 8), .ref (na 9)]) := (congrFun ef7 q).trans (va_up_self _ _ _)
  refine lv_aload_n hx hb dX3_clear_20 rfl (lv_at hl 0 rfl) ?_
  refine lv_iconst (v := (0 : Int32)) hx hb dX3_clear_21 (by decide) ?_
  refine g_put C hH mq h8 iX3 tyX3 tyX3_ok nmX3 rfl 4 (by decide) wd96 rfl rfl rfl rfl (Nat.le_of_ble_eq_true rfl) (fs' := [.int (0 : Int32), .int (0 : Int32), .int (0 : Int32), .int (0 : Int32), .int (0 : Int32), .int (0 : Int32), .int (0 : Int32), .int (0 : Int32), .int (0 : Int32), .int (0 : Int32), .ref (na 0), .ref (na 1), .ref (na 2), .ref (na 3), .ref (na 4), .ref (na 5), .ref (na 6), .ref (na 7), .ref (na 8), .ref (na 9)]) rfl dX3_clear_22 (fun H locs hH => ?_)
  obtain ⟨f9, ef9⟩ : ∃ z : gF, z = va_up f7 q (.inr (3, [.int (0 : Int32), .int (0 : Int32), .int (0 : Int32), .int (0 : Int32), .int (0 : Int32), .int (0 : Int32), .int (0 : Int32), .int (0 : Int32), .int (0 : Int32), .int (0 : Int32), .ref (na 0), .ref (na 1), .ref (na 2), .ref (na 3), .ref (na 4), .ref (na 5), .ref (na 6), .ref (na 7), .ref (na 8), .ref (na 9)])) := ⟨_, rfl⟩
  have hH : gH E A L f9 s.heap H locs := by rw [ef9]; exact hH
  have h10 : f9 q = .inr (3, [.int (0 : Int32), .int (0 : Int32), .int (0 : Int32), .int (0 : Int32), .int (0 : Int32), .int (0 : Int32), .int (0 : Int32), .int (0 : Int32), .int (0 : Int32), .int (0 : Int32), .ref (na 0), .ref (na 1), .ref (na 2), .ref (na 3), .ref (na 4), .ref (na 5), .ref (na 6), .ref (na 7), .ref (na 8), .ref (na 9)]) := (congrFun ef9 q).trans (va_up_self _ _ _)
  refine lv_aload_n hx hb dX3_clear_25 rfl (lv_at hl 0 rfl) ?_
  refine lv_iconst (v := (0 : Int32)) hx hb dX3_clear_26 (by decide) ?_
  refine g_put C hH mq h10 iX3 tyX3 tyX3_ok nmX3 rfl 5 (by decide) wd97 rfl rfl rfl rfl (Nat.le_of_ble_eq_true rfl) (fs' := [.int (0 : Int32), .int (0 : Int32), .int (0 : Int32), .int (0 : Int32), .int (0 : Int32), .int (0 : Int32), .int (0 : Int32), .int (0 : Int32), .int (0 : Int32), .int (0 : Int32), .ref (na 0), .ref (na 1), .ref (na 2), .ref (na 3), .ref (na 4), .ref (na 5), .ref (na 6), .ref (na 7), .ref (na 8), .ref (na 9)]) rfl dX3_clear_27 (fun H locs hH => ?_)
  obtain ⟨f11, ef11⟩ : ∃ z : gF, z = va_up f9 q (.inr (3, [.int (0 : Int32), .int (0 : Int32), .int (0 : Int32), .int (0 : Int32), .int (0 : Int32), .int (0 : Int32), .int (0 : Int32), .int (0 : Int32), .int (0 : Int32), .int (0 : Int32), .ref (na 0), .ref (na 1), .ref (na 2), .ref (na 3), .ref (na 4), .ref (na 5), .ref (na 6), .ref (na 7), .ref (na 8), .ref (na 9)])) := ⟨_, rfl⟩
  have hH : gH E A L f11 s.heap H locs := by rw [ef11]; exact hH
  have h12 : f11 q = .inr (3, [.int (0 : Int32), .int (0 : Int32), .int (0 : Int32), .int (0 : Int32), .int (0 : Int32), .int (0 : Int32), .int (0 : Int32), .int (0 : Int32), .int (0 : Int32), .int (0 : Int32), .ref (na 0), .ref (na 1), .ref (na 2), .ref (na 3), .ref (na 4), .ref (na 5), .ref (na 6), .ref (na 7), .ref (na 8), .ref (na 9)]) := (congrFun ef11 q).trans (va_up_self _ _ _)
  refine lv_aload_n hx hb dX3_clear_30 rfl (lv_at hl 0 rfl) ?_
  refine lv_iconst (v := (0 : Int32)) hx hb dX3_clear_31 (by decide) ?_
  refine g_put C hH mq h12 iX3 tyX3 tyX3_ok nmX3 rfl 6 (by decide) wd3 rfl rfl rfl rfl (Nat.le_of_ble_eq_true rfl) (fs' := [.int (0 : Int32), .int (0 : Int32), .int (0 : Int32), .int (0 : Int32), .int (0 : Int32), .int (0 : Int32), .int (0 : Int32), .int (0 : Int32), .int (0 : Int32), .int (0 : Int32), .ref (na 0), .ref (na 1), .ref (na 2), .ref (na 3), .ref (na 4), .ref (na 5), .ref (na 6), .ref (na 7), .ref (na 8), .ref (na 9)]) rfl dX3_clear_32 (fun H locs hH => ?_)
  obtain ⟨f13, ef13⟩ : ∃ z : gF, z = va_up f11 q (.inr (3, [.int (0 : Int32), .int (0 : Int32), .int (0 : Int32), .int (0 : Int32), .int (0 : Int32), .int (0 : Int32), .int (0 : Int32), .int (0 : Int32), .int (0 : Int32), .int (0 : Int32), .ref (na 0), .ref (na 1), .ref (na 2), .ref (na 3), .ref (na 4), .ref (na 5), .ref (na 6), .ref (na 7), .ref (na 8), .ref (na 9)])) := ⟨_, rfl⟩
  have hH : gH E A L f13 s.heap H locs := by rw [ef13]; exact hH
  have h14 : f13 q = .inr (3, [.int (0 : Int32), .int (0 : Int32), .int (0 : Int32), .int (0 : Int32), .int (0 : Int32), .int (0 : Int32), .int (0 : Int32), .int (0 : Int32), .int (0 : Int32), .int (0 : Int32), .ref (na 0), .ref (na 1), .ref (na 2), .ref (na 3), .ref (na 4), .ref (na 5), .ref (na 6), .ref (na 7), .ref (na 8), .ref (na 9)]) := (congrFun ef13 q).trans (va_up_self _ _ _)
  refine lv_aload_n hx hb dX3_clear_35 rfl (lv_at hl 0 rfl) ?_
  refine lv_iconst (v := (0 : Int32)) hx hb dX3_clear_36 (by decide) ?_
  refine g_put C hH mq h14 iX3 tyX3 tyX3_ok nmX3 rfl 7 (by decide) wd4 rfl rfl rfl rfl (Nat.le_of_ble_eq_true rfl) (fs' := [.int (0 : Int32), .int (0 : Int32), .int (0 : Int32), .int (0 : Int32), .int (0 : Int32), .int (0 : Int32), .int (0 : Int32), .int (0 : Int32), .int (0 : Int32), .int (0 : Int32), .ref (na 0), .ref (na 1), .ref (na 2), .ref (na 3), .ref (na 4), .ref (na 5), .ref (na 6), .ref (na 7), .ref (na 8), .ref (na 9)]) rfl dX3_clear_37 (fun H locs hH => ?_)
  obtain ⟨f15, ef15⟩ : ∃ z : gF, z = va_up f13 q (.inr (3, [.int (0 : Int32), .int (0 : Int32), .int (0 : Int32), .int (0 : Int32), .int (0 : Int32), .int (0 : Int32), .int (0 : Int32), .int (0 : Int32), .int (0 : Int32), .int (0 : Int32), .ref (na 0), .ref (na 1), .ref (na 2), .ref (na 3), .ref (na 4), .ref (na 5), .ref (na 6), .ref (na 7), .ref (na 8), .ref (na 9)])) := ⟨_, rfl⟩
  have hH : gH E A L f15 s.heap H locs := by rw [ef15]; exact hH
  have h16 : f15 q = .inr (3, [.int (0 : Int32), .int (0 : Int32), .int (0 : Int32), .int (0 : Int32), .int (0 : Int32), .int (0 : Int32), .int (0 : Int32), .int (0 : Int32), .int (0 : Int32), .int (0 : Int32), .ref (na 0), .ref (na 1), .ref (na 2), .ref (na 3), .ref (na 4), .ref (na 5), .ref (na 6), .ref (na 7), .ref (na 8), .ref (na 9)]) := (congrFun ef15 q).trans (va_up_self _ _ _)
  refine lv_aload_n hx hb dX3_clear_40 rfl (lv_at hl 0 rfl) ?_
  refine lv_iconst (v := (0 : Int32)) hx hb dX3_clear_41 (by decide) ?_
  refine g_put C hH mq h16 iX3 tyX3 tyX3_ok nmX3 rfl 8 (by decide) wd98 rfl rfl rfl rfl (Nat.le_of_ble_eq_true rfl) (fs' := [.int (0 : Int32), .int (0 : Int32), .int (0 : Int32), .int (0 : Int32), .int (0 : Int32), .int (0 : Int32), .int (0 : Int32), .int (0 : Int32), .int (0 : Int32), .int (0 : Int32), .ref (na 0), .ref (na 1), .ref (na 2), .ref (na 3), .ref (na 4), .ref (na 5), .ref (na 6), .ref (na 7), .ref (na 8), .ref (na 9)]) rfl dX3_clear_42 (fun H locs hH => ?_)
  obtain ⟨f17, ef17⟩ : ∃ z : gF, z = va_up f15 q (.inr (3, [.int (0 : Int32), .int (0 : Int32), .int (0 : Int32), .int (0 : Int32), .int (0 : Int32), .int (0 : Int32), .int (0 : Int32), .int (0 : Int32), .int (0 : Int32), .int (0 : Int32), .ref (na 0), .ref (na 1), .ref (na 2), .ref (na 3), .ref (na 4), .ref (na 5), .ref (na 6), .ref (na 7), .ref (na 8), .ref (na 9)])) := ⟨_, rfl⟩
  have hH : gH E A L f17 s.heap H locs := by rw [ef17]; exact hH
  have h18 : f17 q = .inr (3, [.int (0 : Int32), .int (0 : Int32), .int (0 : Int32), .int (0 : Int32), .int (0 : Int32), .int (0 : Int32), .int (0 : Int32), .int (0 : Int32), .int (0 : Int32), .int (0 : Int32), .ref (na 0), .ref (na 1), .ref (na 2), .ref (na 3), .ref (na 4), .ref (na 5), .ref (na 6), .ref (na 7), .ref (na 8), .ref (na 9)]) := (congrFun ef17 q).trans (va_up_self _ _ _)
  refine lv_aload_n hx hb dX3_clear_45 rfl (lv_at hl 0 rfl) ?_
  refine lv_iconst (v := (0 : Int32)) hx hb dX3_clear_46 (by decide) ?_
  refine g_put C hH mq h18 iX3 tyX3 tyX3_ok nmX3 rfl 9 (by decide) wd99 rfl rfl rfl rfl (Nat.le_of_ble_eq_true rfl) (fs' := [.int (0 : Int32), .int (0 : Int32), .int (0 : Int32), .int (0 : Int32), .int (0 : Int32), .int (0 : Int32), .int (0 : Int32), .int (0 : Int32), .int (0 : Int32), .int (0 : Int32), .ref (na 0), .ref (na 1), .ref (na 2), .ref (na 3), .ref (na 4), .ref (na 5), .ref (na 6), .ref (na 7), .ref (na 8), .ref (na 9)]) rfl dX3_clear_47 (fun H locs hH => ?_)
  obtain ⟨f19, ef19⟩ : ∃ z : gF, z = va_up f17 q (.inr (3, [.int (0 : Int32), .int (0 : Int32), .int (0 : Int32), .int (0 : Int32), .int (0 : Int32), .int (0 : Int32), .int (0 : Int32), .int (0 : Int32), .int (0 : Int32), .int (0 : Int32), .ref (na 0), .ref (na 1), .ref (na 2), .ref (na 3), .ref (na 4), .ref (na 5), .ref (na 6), .ref (na 7), .ref (na 8), .ref (na 9)])) := ⟨_, rfl⟩
  have hH : gH E A L f19 s.heap H locs := by rw [ef19]; exact hH
  have h20 : f19 q = .inr (3, [.int (0 : Int32), .int (0 : Int32), .int (0 : Int32), .int (0 : Int32), .int (0 : Int32), .int (0 : Int32), .int (0 : Int32), .int (0 : Int32), .int (0 : Int32), .int (0 : Int32), .ref (na 0), .ref (na 1), .ref (na 2), .ref (na 3), .ref (na 4), .ref (na 5), .ref (na 6), .ref (na 7), .ref (na 8), .ref (na 9)]) := (congrFun ef19 q).trans (va_up_self _ _ _)
  refine g_vret C hr hH (Nat.le_of_ble_eq_true rfl) (Nat.le_of_ble_eq_true rfl) dX3_clear_50 ?_
  exact ⟨rfl, h20, fun b h1 => by rw [ef19, va_up_ne _ _ h1, ef17, va_up_ne _ _ h1, ef15, va_up_ne _ _ h1, ef13, va_up_ne _ _ h1, ef11, va_up_ne _ _ h1, ef9, va_up_ne _ _ h1, ef7, va_up_ne _ _ h1, ef5, va_up_ne _ _ h1, ef3, va_up_ne _ _ h1, ef1, va_up_ne _ _ h1]⟩
set_option maxHeartbeats 4000000 in
set_option maxRecDepth 100000 in
theorem k_advance (l : Launch) (E : gE) (L : List Nat) (f : gF) {xr xt xd xb : Nat} (mr : xr ∈ L) (fr : f xr = .inr (5, [.ref xt, .ref xd, .int (0 : Int32), .int (0 : Int32), .int (0 : Int32), .int (0 : Int32), .int (-1 : Int32)])) (mt : xt ∈ L) (ft : f xt = .inr (8, [.ref xb, .int (0 : Int32)])) : gMv l E yX5_advance cX5_advance 1 (gRm 1 0 0) [.ref xr] L f (fun L1 f1 => L = L1 ∧ f1 xr = .inr (5, [.ref xt, .ref xd, .int (0 : Int32), .int (0 : Int32), .int (0 : Int32), .int (0 : Int32), .int (-1 : Int32)]) ∧ ∀ b, b ≠ xr → f1 b = f b) := by
  refine gMv.intro (by decide) (Nat.le_of_ble_eq_true rfl) ?_
  intro p e s m below meth c A ls C hr hnm hA hH hl
  have C : gC E cX5_advance 1 RX5 p s m _ meth c := C
  have hl : lv_has ls 1 [(0, .ref xr)] := hl
  have hx := C.1
  have hb := C.2.1
  refine lv_aload_n hx hb dX5_advance_0 rfl (lv_at hl 0 rfl) ?_
  refine lv_aload_n hx hb dX5_advance_1 rfl (lv_at hl 0 rfl) ?_
  refine g_get C hH mr fr iX5 rfl 4 (by decide) wd120 rfl rfl dX5_advance_2 ?_
  refine g_put C hH mr fr iX5 tyX5 tyX5_ok nmX5 rfl 3 (by decide) wd121 rfl rfl rfl rfl (Nat.le_of_ble_eq_true rfl) (fs' := [.ref xt, .ref xd, .int (0 : Int32), .int (0 : Int32), .int (0 : Int32), .int (0 : Int32), .int (-1 : Int32)]) rfl dX5_advance_5 (fun H locs hH => ?_)
  obtain ⟨f1, ef1⟩ : ∃ z : gF, z = va_up f xr (.inr (5, [.ref xt, .ref xd, .int (0 : Int32), .int (0 : Int32), .int (0 : Int32), .int (0 : Int32), .int (-1 : Int32)])) := ⟨_, rfl⟩
  have hH : gH E A L f1 s.heap H locs := by rw [ef1]; exact hH
  have h2 : f1 xr = .inr (5, [.ref xt, .ref xd, .int (0 : Int32), .int (0 : Int32), .int (0 : Int32), .int (0 : Int32), .int (-1 : Int32)]) := (congrFun ef1 xr).trans (va_up_self _ _ _)
  refine lv_aload_n hx hb dX5_advance_8 rfl (lv_at hl 0 rfl) ?_
  refine g_get C hH mr h2 iX5 rfl 3 (by decide) wd121 rfl rfl dX5_advance_9 ?_
  refine lv_aload_n hx hb dX5_advance_12 rfl (lv_at hl 0 rfl) ?_
  refine g_get C hH mr h2 iX5 rfl 0 (by decide) wd122 rfl rfl dX5_advance_13 ?_
  have h3 : f1 xt = .inr (8, [.ref xb, .int (0 : Int32)]) := ((congrFun ef1 xt).trans (va_up_ne _ _ (g_neO ft fr (by decide)))).trans ft
  refine g_get C hH mt h3 iX8 rfl 1 (by decide) wd123 rfl rfl dX5_advance_16 ?_
  refine lv_icmp_ge (tgt := 54) hx hb dX5_advance_19 (by decide) (fun _ => ?_) (fun h => absurd (by decide) h)
  refine lv_aload_n hx hb dX5_advance_54 rfl (lv_at hl 0 rfl) ?_
  refine lv_aload_n hx hb dX5_advance_55 rfl (lv_at hl 0 rfl) ?_
  refine g_get C hH mr h2 iX5 rfl 3 (by decide) wd121 rfl rfl dX5_advance_56 ?_
  refine g_put C hH mr h2 iX5 tyX5 tyX5_ok nmX5 rfl 4 (by decide) wd120 rfl rfl rfl rfl (Nat.le_of_ble_eq_true rfl) (fs' := [.ref xt, .ref xd, .int (0 : Int32), .int (0 : Int32), .int (0 : Int32), .int (0 : Int32), .int (-1 : Int32)]) rfl dX5_advance_59 (fun H locs hH => ?_)
  obtain ⟨f4, ef4⟩ : ∃ z : gF, z = va_up f1 xr (.inr (5, [.ref xt, .ref xd, .int (0 : Int32), .int (0 : Int32), .int (0 : Int32), .int (0 : Int32), .int (-1 : Int32)])) := ⟨_, rfl⟩
  have hH : gH E A L f4 s.heap H locs := by rw [ef4]; exact hH
  have h5 : f4 xr = .inr (5, [.ref xt, .ref xd, .int (0 : Int32), .int (0 : Int32), .int (0 : Int32), .int (0 : Int32), .int (-1 : Int32)]) := (congrFun ef4 xr).trans (va_up_self _ _ _)
  refine lv_aload_n hx hb dX5_advance_62 rfl (lv_at hl 0 rfl) ?_
  refine g_get C hH mr h5 iX5 rfl 3 (by decide) wd121 rfl rfl dX5_advance_63 ?_
  refine lv_aload_n hx hb dX5_advance_66 rfl (lv_at hl 0 rfl) ?_
  refine g_get C hH mr h5 iX5 rfl 0 (by decide) wd122 rfl rfl dX5_advance_67 ?_
  have h6 : f4 xt = .inr (8, [.ref xb, .int (0 : Int32)]) := ((congrFun ef4 xt).trans (va_up_ne _ _ (g_neO h3 h2 (by decide)))).trans h3
  refine g_get C hH mt h6 iX8 rfl 1 (by decide) wd123 rfl rfl dX5_advance_70 ?_
  refine lv_icmp_lt (tgt := 82) hx hb dX5_advance_73 (by decide) (fun h => absurd h (by decide)) (fun _ => ?_)
  refine lv_aload_n hx hb dX5_advance_76 rfl (lv_at hl 0 rfl) ?_
  refine lv_iconst (v := (0 : Int32)) hx hb dX5_advance_77 (by decide) ?_
  refine g_put C hH mr h5 iX5 tyX5 tyX5_ok nmX5 rfl 2 (by decide) wd124 rfl rfl rfl rfl (Nat.le_of_ble_eq_true rfl) (fs' := [.ref xt, .ref xd, .int (0 : Int32), .int (0 : Int32), .int (0 : Int32), .int (0 : Int32), .int (-1 : Int32)]) rfl dX5_advance_78 (fun H locs hH => ?_)
  obtain ⟨f7, ef7⟩ : ∃ z : gF, z = va_up f4 xr (.inr (5, [.ref xt, .ref xd, .int (0 : Int32), .int (0 : Int32), .int (0 : Int32), .int (0 : Int32), .int (-1 : Int32)])) := ⟨_, rfl⟩
  have hH : gH E A L f7 s.heap H locs := by rw [ef7]; exact hH
  have h8 : f7 xr = .inr (5, [.ref xt, .ref xd, .int (0 : Int32), .int (0 : Int32), .int (0 : Int32), .int (0 : Int32), .int (-1 : Int32)]) := (congrFun ef7 xr).trans (va_up_self _ _ _)
  refine g_vret C hr hH (Nat.le_of_ble_eq_true rfl) (Nat.le_of_ble_eq_true rfl) dX5_advance_81 ?_
  exact ⟨rfl, h8, fun b h1 => by rw [ef7, va_up_ne _ _ h1, ef4, va_up_ne _ _ h1, ef1, va_up_ne _ _ h1]⟩
set_option maxHeartbeats 4000000 in
set_option maxRecDepth 100000 in
theorem k_survey (l : Launch) (E : gE) (L : List Nat) (f : gF) {xn : Nat} {na : Nat → Nat} (mn : xn ∈ L) (fn : f xn = .inr (3, [.int (0 : Int32), .int (0 : Int32), .int (0 : Int32), .int (0 : Int32), .int (0 : Int32), .int (0 : Int32), .int (0 : Int32), .int (0 : Int32), .int (0 : Int32), .int (0 : Int32), .ref (na 0), .ref (na 1), .ref (na 2), .ref (na 3), .ref (na 4), .ref (na 5), .ref (na 6), .ref (na 7), .ref (na 8), .ref (na 9)])) : gMv l E yX3_survey cX3_survey 3 (gRm 2 0 0) [.ref xn] L f (fun L1 f1 => L = L1 ∧ f = f1) := by
  refine gMv.intro (by decide) (Nat.le_of_ble_eq_true rfl) ?_
  intro p e s m below meth c A ls C hr hnm hA hH hl
  have C : gC E cX3_survey 3 RX3 p s m _ meth c := C
  have hl : lv_has ls 3 [(0, .ref xn)] := hl
  have hx := C.1
  have hb := C.2.1
  refine lv_iconst (v := (0 : Int32)) hx hb dX3_survey_0 (by decide) ?_
  refine lv_istore_n (lv' := [(1, .int (0 : Int32)), (0, .ref xn)]) hx hb dX3_survey_1 rfl hl (by decide) rfl (fun ls hl => ?_)
  refine lv_iload_n hx hb dX3_survey_2 rfl (lv_at hl 0 rfl) ?_
  refine lv_aload_n hx hb dX3_survey_3 rfl (lv_at hl 1 rfl) ?_
  refine g_Vi C hl.1 hA hH (As := []) (rest := [.int (0 : Int32)]) (k_cells l E L f mn fn) my_X3_cells wd9 mn fn rfl rfl rfl (Nat.le_of_ble_eq_true rfl) ⟨Nat.le_of_ble_eq_true rfl, Nat.le_of_ble_eq_true rfl⟩ ⟨Nat.le_of_ble_eq_true rfl, Nat.le_of_ble_eq_true rfl⟩ dX3_survey_4 (fun r3 L2 f1 H locs hp hH => ?_)
  obtain ⟨er3, rfl, rfl⟩ := hp
  subst er3
  refine lv_icmp_ge (tgt := 93) hx hb dX3_survey_7 (by decide) (fun _ => ?_) (fun h => absurd (by decide) h)
  refine g_vret C hr hH (Nat.le_of_ble_eq_true rfl) (Nat.le_of_ble_eq_true rfl) dX3_survey_93 ?_
  exact ⟨rfl, rfl⟩
set_option maxHeartbeats 4000000 in
set_option maxRecDepth 100000 in
theorem k_readTape (l : Launch) (E : gE) (L : List Nat) (f : gF) {xr xt xd xb : Nat} (mr : xr ∈ L) (fr : f xr = .inr (5, [.ref xt, .ref xd, .int (0 : Int32), .int (0 : Int32), .int (0 : Int32), .int (0 : Int32), .int (-1 : Int32)])) (mt : xt ∈ L) (ft : f xt = .inr (8, [.ref xb, .int (0 : Int32)])) {da : Nat → Nat} (md : xd ∈ L) (fd : f xd = .inr (3, [.int (0 : Int32), .int (0 : Int32), .int (0 : Int32), .int (0 : Int32), .int (0 : Int32), .int (0 : Int32), .int (0 : Int32), .int (0 : Int32), .int (0 : Int32), .int (0 : Int32), .ref (da 0), .ref (da 1), .ref (da 2), .ref (da 3), .ref (da 4), .ref (da 5), .ref (da 6), .ref (da 7), .ref (da 8), .ref (da 9)])) : gMi l E yX5_readTape cX5_readTape 2 .boolean (gRm 4 0 0) [.ref xr] L f (fun r L1 f1 => r = 1 ∧ L = L1 ∧ f1 xd = .inr (3, [.int (0 : Int32), .int (0 : Int32), .int (0 : Int32), .int (0 : Int32), .int (0 : Int32), .int (0 : Int32), .int (0 : Int32), .int (0 : Int32), .int (0 : Int32), .int (0 : Int32), .ref (da 0), .ref (da 1), .ref (da 2), .ref (da 3), .ref (da 4), .ref (da 5), .ref (da 6), .ref (da 7), .ref (da 8), .ref (da 9)]) ∧ f1 xr = .inr (5, [.ref xt, .ref xd, .int (0 : Int32), .int (0 : Int32), .int (0 : Int32), .int (0 : Int32), .int (-1 : Int32)]) ∧ ∀ b, b ≠ xd → b ≠ xr → f1 b = f b) := by
  refine gMi.intro (by decide) (Nat.le_of_ble_eq_true rfl) ?_
  intro p e s m below meth c A ls C hr hA hH hl
  have C : gC E cX5_readTape 2 RX5 p s m _ meth c := C
  have hl : lv_has ls 2 [(0, .ref xr)] := hl
  have hx := C.1
  have hb := C.2.1
  refine lv_aload_n hx hb dX5_readTape_0 rfl (lv_at hl 0 rfl) ?_
  refine g_get C hH mr fr iX5 rfl 1 (by decide) wd125 rfl rfl dX5_readTape_1 ?_
  refine g_Vv C hl.1 hA hH (As := []) (rest := []) (k_clear l E L f md fd) my_X3_clear wd129 md fd rfl rfl rfl (Nat.le_of_ble_eq_true rfl) ⟨Nat.le_of_ble_eq_true rfl, Nat.le_of_ble_eq_true rfl⟩ ⟨Nat.le_of_ble_eq_true rfl, Nat.le_of_ble_eq_true rfl⟩ dX5_readTape_4 (fun L2 f1 H locs hp hH => ?_)
  obtain ⟨rfl, h3, k4⟩ := hp
  refine lv_aload_n hx hb dX5_readTape_7 rfl (lv_at hl 0 rfl) ?_
  refine lv_iconst (v := (0 : Int32)) hx hb dX5_readTape_8 (by decide) ?_
  have h5 : f1 xr = .inr (5, [.ref xt, .ref xd, .int (0 : Int32), .int (0 : Int32), .int (0 : Int32), .int (0 : Int32), .int (-1 : Int32)]) := (k4 xr (g_neO fr fd (by decide))).trans fr
  refine g_put C hH mr h5 iX5 tyX5 tyX5_ok nmX5 rfl 5 (by decide) wd130 rfl rfl rfl rfl (Nat.le_of_ble_eq_true rfl) (fs' := [.ref xt, .ref xd, .int (0 : Int32), .int (0 : Int32), .int (0 : Int32), .int (0 : Int32), .int (-1 : Int32)]) rfl dX5_readTape_9 (fun H locs hH => ?_)
  obtain ⟨f6, ef6⟩ : ∃ z : gF, z = va_up f1 xr (.inr (5, [.ref xt, .ref xd, .int (0 : Int32), .int (0 : Int32), .int (0 : Int32), .int (0 : Int32), .int (-1 : Int32)])) := ⟨_, rfl⟩
  have hH : gH E A L f6 s.heap H locs := by rw [ef6]; exact hH
  have h7 : f6 xr = .inr (5, [.ref xt, .ref xd, .int (0 : Int32), .int (0 : Int32), .int (0 : Int32), .int (0 : Int32), .int (-1 : Int32)]) := (congrFun ef6 xr).trans (va_up_self _ _ _)
  refine lv_aload_n hx hb dX5_readTape_12 rfl (lv_at hl 0 rfl) ?_
  refine lv_iconst (v := (-1 : Int32)) hx hb dX5_readTape_13 (by decide) ?_
  refine g_put C hH mr h7 iX5 tyX5 tyX5_ok nmX5 rfl 6 (by decide) wd131 rfl rfl rfl rfl (Nat.le_of_ble_eq_true rfl) (fs' := [.ref xt, .ref xd, .int (0 : Int32), .int (0 : Int32), .int (0 : Int32), .int (0 : Int32), .int (-1 : Int32)]) rfl dX5_readTape_14 (fun H locs hH => ?_)
  obtain ⟨f8, ef8⟩ : ∃ z : gF, z = va_up f6 xr (.inr (5, [.ref xt, .ref xd, .int (0 : Int32), .int (0 : Int32), .int (0 : Int32), .int (0 : Int32), .int (-1 : Int32)])) := ⟨_, rfl⟩
  have hH : gH E A L f8 s.heap H locs := by rw [ef8]; exact hH
  have h9 : f8 xr = .inr (5, [.ref xt, .ref xd, .int (0 : Int32), .int (0 : Int32), .int (0 : Int32), .int (0 : Int32), .int (-1 : Int32)]) := (congrFun ef8 xr).trans (va_up_self _ _ _)
  refine lv_aload_n hx hb dX5_readTape_17 rfl (lv_at hl 0 rfl) ?_
  refine lv_iconst (v := (0 : Int32)) hx hb dX5_readTape_18 (by decide) ?_
  refine g_put C hH mr h9 iX5 tyX5 tyX5_ok nmX5 rfl 4 (by decide) wd120 rfl rfl rfl rfl (Nat.le_of_ble_eq_true rfl) (fs' := [.ref xt, .ref xd, .int (0 : Int32), .int (0 : Int32), .int (0 : Int32), .int (0 : Int32), .int (-1 : Int32)]) rfl dX5_readTape_19 (fun H locs hH => ?_)
  obtain ⟨f10, ef10⟩ : ∃ z : gF, z = va_up f8 xr (.inr (5, [.ref xt, .ref xd, .int (0 : Int32), .int (0 : Int32), .int (0 : Int32), .int (0 : Int32), .int (-1 : Int32)])) := ⟨_, rfl⟩
  have hH : gH E A L f10 s.heap H locs := by rw [ef10]; exact hH
  have h11 : f10 xr = .inr (5, [.ref xt, .ref xd, .int (0 : Int32), .int (0 : Int32), .int (0 : Int32), .int (0 : Int32), .int (-1 : Int32)]) := (congrFun ef10 xr).trans (va_up_self _ _ _)
  refine lv_aload_n hx hb dX5_readTape_22 rfl (lv_at hl 0 rfl) ?_
  have h12 : f1 xt = .inr (8, [.ref xb, .int (0 : Int32)]) := (k4 xt (g_neO ft fd (by decide))).trans ft
  have h13 : f6 xt = .inr (8, [.ref xb, .int (0 : Int32)]) := ((congrFun ef6 xt).trans (va_up_ne _ _ (g_neO h12 h5 (by decide)))).trans h12
  have h14 : f8 xt = .inr (8, [.ref xb, .int (0 : Int32)]) := ((congrFun ef8 xt).trans (va_up_ne _ _ (g_neO h13 h7 (by decide)))).trans h13
  have h15 : f10 xt = .inr (8, [.ref xb, .int (0 : Int32)]) := ((congrFun ef10 xt).trans (va_up_ne _ _ (g_neO h14 h9 (by decide)))).trans h14
  refine g_Vv C hl.1 hA hH (As := []) (rest := []) (k_advance l E L f10 mr h11 mt h15) my_X5_advance wd136 mr h11 rfl rfl rfl (Nat.le_of_ble_eq_true rfl) ⟨Nat.le_of_ble_eq_true rfl, Nat.le_of_ble_eq_true rfl⟩ ⟨Nat.le_of_ble_eq_true rfl, Nat.le_of_ble_eq_true rfl⟩ dX5_readTape_23 (fun L17 f16 H locs hp hH => ?_)
  obtain ⟨rfl, h18, k19⟩ := hp
  refine lv_iconst (v := (0 : Int32)) hx hb dX5_readTape_26 (by decide) ?_
  refine lv_istore_n (lv' := [(1, .int (0 : Int32)), (0, .ref xr)]) hx hb dX5_readTape_27 rfl hl (by decide) rfl (fun ls hl => ?_)
  refine lv_iload_n hx hb dX5_readTape_28 rfl (lv_at hl 0 rfl) ?_
  refine lv_sipush (v := (800 : Int32)) hx hb dX5_readTape_29 (by decide) ?_
  refine lv_icmp_ge (tgt := 59) hx hb dX5_readTape_32 (by decide) (fun h => absurd h (by decide)) (fun _ => ?_)
  refine lv_aload_n hx hb dX5_readTape_35 rfl (lv_at hl 1 rfl) ?_
  refine g_get C hH mr h18 iX5 rfl 2 (by decide) wd124 rfl rfl dX5_readTape_36 ?_
  refine lv_if_eq (tgt := 59) hx hb dX5_readTape_39 (by decide) (fun _ => ?_) (fun h => absurd (by decide) h)
  refine lv_aload_n hx hb dX5_readTape_59 rfl (lv_at hl 1 rfl) ?_
  refine g_get C hH mr h18 iX5 rfl 1 (by decide) wd125 rfl rfl dX5_readTape_60 ?_
  have h20 : f6 xd = .inr (3, [.int (0 : Int32), .int (0 : Int32), .int (0 : Int32), .int (0 : Int32), .int (0 : Int32), .int (0 : Int32), .int (0 : Int32), .int (0 : Int32), .int (0 : Int32), .int (0 : Int32), .ref (da 0), .ref (da 1), .ref (da 2), .ref (da 3), .ref (da 4), .ref (da 5), .ref (da 6), .ref (da 7), .ref (da 8), .ref (da 9)]) := ((congrFun ef6 xd).trans (va_up_ne _ _ (g_neO h3 h5 (by decide)))).trans h3
  have h21 : f8 xd = .inr (3, [.int (0 : Int32), .int (0 : Int32), .int (0 : Int32), .int (0 : Int32), .int (0 : Int32), .int (0 : Int32), .int (0 : Int32), .int (0 : Int32), .int (0 : Int32), .int (0 : Int32), .ref (da 0), .ref (da 1), .ref (da 2), .ref (da 3), .ref (da 4), .ref (da 5), .ref (da 6), .ref (da 7), .ref (da 8), .ref (da 9)]) := ((congrFun ef8 xd).trans (va_up_ne _ _ (g_neO h20 h7 (by decide)))).trans h20
  have h22 : f10 xd = .inr (3, [.int (0 : Int32), .int (0 : Int32), .int (0 : Int32), .int (0 : Int32), .int (0 : Int32), .int (0 : Int32), .int (0 : Int32), .int (0 : Int32), .int (0 : Int32), .int (0 : Int32), .ref (da 0), .ref (da 1), .ref (da 2), .ref (da 3), .ref (da 4), .ref (da 5), .ref (da 6), .ref (da 7), .ref (da 8), .ref (da 9)]) := ((congrFun ef10 xd).trans (va_up_ne _ _ (g_neO h21 h9 (by decide)))).trans h21
  have h23 : f16 xd = .inr (3, [.int (0 : Int32), .int (0 : Int32), .int (0 : Int32), .int (0 : Int32), .int (0 : Int32), .int (0 : Int32), .int (0 : Int32), .int (0 : Int32), .int (0 : Int32), .int (0 : Int32), .ref (da 0), .ref (da 1), .ref (da 2), .ref (da 3), .ref (da 4), .ref (da 5), .ref (da 6), .ref (da 7), .ref (da 8), .ref (da 9)]) := (k19 xd (g_neO h22 h11 (by decide))).trans h22
  refine g_Vv C hl.1 hA hH (As := []) (rest := []) (k_survey l E L f16 md h23) my_X3_survey wd140 md h23 rfl rfl rfl (Nat.le_of_ble_eq_true rfl) ⟨Nat.le_of_ble_eq_true rfl, Nat.le_of_ble_eq_true rfl⟩ ⟨Nat.le_of_ble_eq_true rfl, Nat.le_of_ble_eq_true rfl⟩ dX5_readTape_63 (fun L25 f24 H locs hp hH => ?_)
  obtain ⟨rfl, rfl⟩ := hp
  refine lv_aload_n hx hb dX5_readTape_66 rfl (lv_at hl 1 rfl) ?_
  refine g_get C hH mr h18 iX5 rfl 5 (by decide) wd130 rfl rfl dX5_readTape_67 ?_
  refine lv_if_ne (tgt := 77) hx hb dX5_readTape_70 (by decide) (fun h => absurd (by decide) h) (fun _ => ?_)
  refine lv_iconst (v := (1 : Int32)) hx hb dX5_readTape_73 (by decide) ?_
  refine lv_goto (tgt := 78) hx hb dX5_readTape_74 (by decide) ?_
  refine g_zret C hr (by first | rfl | decide | (exact rfl)) hH (Nat.le_of_ble_eq_true rfl) (Nat.le_of_ble_eq_true rfl) dX5_readTape_78 ?_
  exact ⟨rfl, rfl, h23, h18, fun b h1 h2 => by rw [k19 b h2, ef10, va_up_ne _ _ h2, ef8, va_up_ne _ _ h2, ef6, va_up_ne _ _ h2, k4 b h1]⟩
set_option maxHeartbeats 4000000 in
set_option maxRecDepth 100000 in
theorem k_forget (l : Launch) (E : gE) (L : List Nat) (f : gF) {xn xs xl : Nat} {lf ll : Nat} (ml : xl ∈ L) (fl : f xl = .inr (4, [.ref xn, .ref xs, .ref lf, .ref ll, .int (0 : Int32)])) : gMv l E yX4_forget cX4_forget 1 (gRm 1 0 0) [.ref xl] L f (fun L1 f1 => L = L1 ∧ f1 xl = .inr (4, [.ref xn, .ref xs, .ref lf, .ref ll, .int (0 : Int32)]) ∧ ∀ b, b ≠ xl → f1 b = f b) := by
  refine gMv.intro (by decide) (Nat.le_of_ble_eq_true rfl) ?_
  intro p e s m below meth c A ls C hr hnm hA hH hl
  have C : gC E cX4_forget 1 RX4 p s m _ meth c := C
  have hl : lv_has ls 1 [(0, .ref xl)] := hl
  have hx := C.1
  have hb := C.2.1
  refine lv_aload_n hx hb dX4_forget_0 rfl (lv_at hl 0 rfl) ?_
  refine lv_iconst (v := (0 : Int32)) hx hb dX4_forget_1 (by decide) ?_
  refine g_put C hH ml fl iX4 tyX4 tyX4_ok nmX4 rfl 4 (by decide) wd141 rfl rfl rfl rfl (Nat.le_of_ble_eq_true rfl) (fs' := [.ref xn, .ref xs, .ref lf, .ref ll, .int (0 : Int32)]) rfl dX4_forget_2 (fun H locs hH => ?_)
  obtain ⟨f1, ef1⟩ : ∃ z : gF, z = va_up f xl (.inr (4, [.ref xn, .ref xs, .ref lf, .ref ll, .int (0 : Int32)])) := ⟨_, rfl⟩
  have hH : gH E A L f1 s.heap H locs := by rw [ef1]; exact hH
  have h2 : f1 xl = .inr (4, [.ref xn, .ref xs, .ref lf, .ref ll, .int (0 : Int32)]) := (congrFun ef1 xl).trans (va_up_self _ _ _)
  refine g_vret C hr hH (Nat.le_of_ble_eq_true rfl) (Nat.le_of_ble_eq_true rfl) dX4_forget_5 ?_
  exact ⟨rfl, h2, fun b h1 => by rw [ef1, va_up_ne _ _ h1]⟩
set_option maxHeartbeats 4000000 in
set_option maxRecDepth 100000 in
theorem k_land (l : Launch) (E : gE) (L : List Nat) (f : gF) {x xt xn xr xi xw xs xl xc xh xf xm : Nat} (mx : x ∈ L) (fx : f x = .inr (9, [.ref xt, .ref xn, .ref xr, .ref xi, .ref xw, .ref xs, .ref xl, .ref xc, .ref xh, .ref xf, .ref xm])) {xb : Nat} (mt : xt ∈ L) (ft : f xt = .inr (8, [.ref xb, .int (0 : Int32)])) {xd : Nat} (mr : xr ∈ L) (fr : f xr = .inr (5, [.ref xt, .ref xd, .int (0 : Int32), .int (0 : Int32), .int (0 : Int32), .int (0 : Int32), .int (-1 : Int32)])) {da : Nat → Nat} (md : xd ∈ L) (fd : f xd = .inr (3, [.int (0 : Int32), .int (0 : Int32), .int (0 : Int32), .int (0 : Int32), .int (0 : Int32), .int (0 : Int32), .int (0 : Int32), .int (0 : Int32), .int (0 : Int32), .int (0 : Int32), .ref (da 0), .ref (da 1), .ref (da 2), .ref (da 3), .ref (da 4), .ref (da 5), .ref (da 6), .ref (da 7), .ref (da 8), .ref (da 9)])) {na : Nat → Nat} (mn : xn ∈ L) (fn : f xn = .inr (3, [.int (0 : Int32), .int (0 : Int32), .int (0 : Int32), .int (0 : Int32), .int (0 : Int32), .int (0 : Int32), .int (0 : Int32), .int (0 : Int32), .int (0 : Int32), .int (0 : Int32), .ref (na 0), .ref (na 1), .ref (na 2), .ref (na 3), .ref (na 4), .ref (na 5), .ref (na 6), .ref (na 7), .ref (na 8), .ref (na 9)])) {lf ll : Nat} (ml : xl ∈ L) (fl : f xl = .inr (4, [.ref xn, .ref xs, .ref lf, .ref ll, .int (0 : Int32)])) (gn : gArrs E L f na) (gd : gArrs E L f da) (hnd : xn ≠ xd) : gMi l E yX9_land cX9_land 1 .int (gRm 5 0 0) [.ref x] L f (fun r _ _ => r = 0) := by
  refine gMi.intro (by decide) (Nat.le_of_ble_eq_true rfl) ?_
  intro p e s m below meth c A ls C hr hA hH hl
  have C : gC E cX9_land 1 RX9 p s m _ meth c := C
  have hl : lv_has ls 1 [(0, .ref x)] := hl
  have hx := C.1
  have hb := C.2.1
  refine lv_aload_n hx hb dX9_land_0 rfl (lv_at hl 0 rfl) ?_
  refine g_get C hH mx fx iX9 rfl 2 (by decide) wd61 rfl rfl dX9_land_1 ?_
  refine g_Vi C hl.1 hA hH (As := []) (rest := []) (k_readTape l E L f mr fr mt ft md fd) my_X5_readTape wd145 mr fr rfl rfl rfl (Nat.le_of_ble_eq_true rfl) ⟨Nat.le_of_ble_eq_true rfl, Nat.le_of_ble_eq_true rfl⟩ ⟨Nat.le_of_ble_eq_true rfl, Nat.le_of_ble_eq_true rfl⟩ dX9_land_4 (fun r3 L2 f1 H locs hp hH => ?_)
  obtain ⟨rfl, rfl, h4, h5, k6⟩ := hp
  refine lv_if_ne (tgt := 13) hx hb dX9_land_7 (by decide) (fun _ => ?_) (fun h => absurd h (by decide))
  refine lv_aload_n hx hb dX9_land_13 rfl (lv_at hl 0 rfl) ?_
  have h7 : f1 x = .inr (9, [.ref xt, .ref xn, .ref xr, .ref xi, .ref xw, .ref xs, .ref xl, .ref xc, .ref xh, .ref xf, .ref xm]) := (k6 x (g_neO fx fd (by decide)) (g_neO fx fr (by decide))).trans fx
  refine g_get C hH mx h7 iX9 rfl 0 (by decide) wd54 rfl rfl dX9_land_14 ?_
  refine lv_iconst (v := (0 : Int32)) hx hb dX9_land_17 (by decide) ?_
  have h8 : f1 xt = .inr (8, [.ref xb, .int (0 : Int32)]) := (k6 xt (g_neO ft fd (by decide)) (g_neO ft fr (by decide))).trans ft
  refine g_put C hH mt h8 iX8 tyX8 tyX8_ok nmX8 rfl 1 (by decide) wd55 rfl rfl rfl rfl (Nat.le_of_ble_eq_true rfl) (fs' := [.ref xb, .int (0 : Int32)]) rfl dX9_land_18 (fun H locs hH => ?_)
  obtain ⟨f9, ef9⟩ : ∃ z : gF, z = va_up f1 xt (.inr (8, [.ref xb, .int (0 : Int32)])) := ⟨_, rfl⟩
  have hH : gH E A L f9 s.heap H locs := by rw [ef9]; exact hH
  have h10 : f9 xt = .inr (8, [.ref xb, .int (0 : Int32)]) := (congrFun ef9 xt).trans (va_up_self _ _ _)
  refine lv_aload_n hx hb dX9_land_21 rfl (lv_at hl 0 rfl) ?_
  have h11 : f9 x = .inr (9, [.ref xt, .ref xn, .ref xr, .ref xi, .ref xw, .ref xs, .ref xl, .ref xc, .ref xh, .ref xf, .ref xm]) := ((congrFun ef9 x).trans (va_up_ne _ _ (g_neO h7 h8 (by decide)))).trans h7
  refine g_get C hH mx h11 iX9 rfl 1 (by decide) wd18 rfl rfl dX9_land_22 ?_
  refine lv_aload_n hx hb dX9_land_25 rfl (lv_at hl 0 rfl) ?_
  refine g_get C hH mx h11 iX9 rfl 2 (by decide) wd61 rfl rfl dX9_land_26 ?_
  have h12 : f9 xr = .inr (5, [.ref xt, .ref xd, .int (0 : Int32), .int (0 : Int32), .int (0 : Int32), .int (0 : Int32), .int (-1 : Int32)]) := ((congrFun ef9 xr).trans (va_up_ne _ _ (g_neO h5 h8 (by decide)))).trans h5
  refine g_get C hH mr h12 iX5 rfl 1 (by decide) wd146 rfl rfl dX9_land_29 ?_
  have h13 : f1 xn = .inr (3, [.int (0 : Int32), .int (0 : Int32), .int (0 : Int32), .int (0 : Int32), .int (0 : Int32), .int (0 : Int32), .int (0 : Int32), .int (0 : Int32), .int (0 : Int32), .int (0 : Int32), .ref (na 0), .ref (na 1), .ref (na 2), .ref (na 3), .ref (na 4), .ref (na 5), .ref (na 6), .ref (na 7), .ref (na 8), .ref (na 9)]) := (k6 xn hnd (g_neO fn fr (by decide))).trans fn
  have h14 : f9 xn = .inr (3, [.int (0 : Int32), .int (0 : Int32), .int (0 : Int32), .int (0 : Int32), .int (0 : Int32), .int (0 : Int32), .int (0 : Int32), .int (0 : Int32), .int (0 : Int32), .int (0 : Int32), .ref (na 0), .ref (na 1), .ref (na 2), .ref (na 3), .ref (na 4), .ref (na 5), .ref (na 6), .ref (na 7), .ref (na 8), .ref (na 9)]) := ((congrFun ef9 xn).trans (va_up_ne _ _ (g_neO h13 h8 (by decide)))).trans h13
  have h15 : f9 xd = .inr (3, [.int (0 : Int32), .int (0 : Int32), .int (0 : Int32), .int (0 : Int32), .int (0 : Int32), .int (0 : Int32), .int (0 : Int32), .int (0 : Int32), .int (0 : Int32), .int (0 : Int32), .ref (da 0), .ref (da 1), .ref (da 2), .ref (da 3), .ref (da 4), .ref (da 5), .ref (da 6), .ref (da 7), .ref (da 8), .ref (da 9)]) := ((congrFun ef9 xd).trans (va_up_ne _ _ (g_neO h4 h8 (by decide)))).trans h4
  have h16 := gArrs_keep2 k6 fd fr gn
  have h17 := gArrs_upO ef9 h8 h16
  have h18 := gArrs_keep2 k6 fd fr gd
  have h19 := gArrs_upO ef9 h8 h18
  refine g_Vv C hl.1 hA hH (As := [.ref xd]) (rest := []) (k_become l E L f9 mn h14 md h15 h17 h19 hnd) my_X3_become wd118 mn h14 rfl rfl rfl (Nat.le_of_ble_eq_true rfl) ⟨Nat.le_of_ble_eq_true rfl, Nat.le_of_ble_eq_true rfl⟩ ⟨Nat.le_of_ble_eq_true rfl, Nat.le_of_ble_eq_true rfl⟩ dX9_land_32 (fun L21 f20 H locs hp hH => ?_)
  obtain ⟨rfl, h22, h23, k24⟩ := hp
  refine lv_aload_n hx hb dX9_land_35 rfl (lv_at hl 0 rfl) ?_
  have h25 : f20 x = .inr (9, [.ref xt, .ref xn, .ref xr, .ref xi, .ref xw, .ref xs, .ref xl, .ref xc, .ref xh, .ref xf, .ref xm]) := (k24 x (g_neO h11 h14 (by decide)) (gArrs_neO h17 h11)).trans h11
  refine g_get C hH mx h25 iX9 rfl 6 (by decide) wd147 rfl rfl dX9_land_36 ?_
  have h26 : f1 xl = .inr (4, [.ref xn, .ref xs, .ref lf, .ref ll, .int (0 : Int32)]) := (k6 xl (g_neO fl fd (by decide)) (g_neO fl fr (by decide))).trans fl
  have h27 : f9 xl = .inr (4, [.ref xn, .ref xs, .ref lf, .ref ll, .int (0 : Int32)]) := ((congrFun ef9 xl).trans (va_up_ne _ _ (g_neO h26 h8 (by decide)))).trans h26
  have h28 : f20 xl = .inr (4, [.ref xn, .ref xs, .ref lf, .ref ll, .int (0 : Int32)]) := (k24 xl (g_neO h27 h14 (by decide)) (gArrs_neO h17 h27)).trans h27
  refine g_Vv C hl.1 hA hH (As := []) (rest := []) (k_forget l E L f20 ml h28) my_X4_forget wd152 ml h28 rfl rfl rfl (Nat.le_of_ble_eq_true rfl) ⟨Nat.le_of_ble_eq_true rfl, Nat.le_of_ble_eq_true rfl⟩ ⟨Nat.le_of_ble_eq_true rfl, Nat.le_of_ble_eq_true rfl⟩ dX9_land_39 (fun L30 f29 H locs hp hH => ?_)
  obtain ⟨rfl, h31, k32⟩ := hp
  refine lv_aload_n hx hb dX9_land_42 rfl (lv_at hl 0 rfl) ?_
  have h33 : f29 x = .inr (9, [.ref xt, .ref xn, .ref xr, .ref xi, .ref xw, .ref xs, .ref xl, .ref xc, .ref xh, .ref xf, .ref xm]) := (k32 x (g_neO h25 h28 (by decide))).trans h25
  refine g_get C hH mx h33 iX9 rfl 1 (by decide) wd18 rfl rfl dX9_land_43 ?_
  have h34 : f29 xn = .inr (3, [.int (0 : Int32), .int (0 : Int32), .int (0 : Int32), .int (0 : Int32), .int (0 : Int32), .int (0 : Int32), .int (0 : Int32), .int (0 : Int32), .int (0 : Int32), .int (0 : Int32), .ref (na 0), .ref (na 1), .ref (na 2), .ref (na 3), .ref (na 4), .ref (na 5), .ref (na 6), .ref (na 7), .ref (na 8), .ref (na 9)]) := (k32 xn (g_neO h22 h28 (by decide))).trans h22
  refine g_get C hH mn h34 iX3 rfl 0 (by decide) wd80 rfl rfl dX9_land_46 ?_
  refine g_iret C hr hH (Nat.le_of_ble_eq_true rfl) (Nat.le_of_ble_eq_true rfl) dX9_land_49 ?_
  exact rfl
end
section
theorem dX0_init_0 : decode cX0_init 0 = .ok (.aload_n 0, 1) := by decide +kernel
theorem dX0_init_1 : decode cX0_init 1 = .ok (.invokespecial 3, 3) := by decide +kernel
theorem dX0_init_4 : decode cX0_init 4 = .ok (.aload_n 0, 1) := by decide +kernel
theorem dX0_init_5 : decode cX0_init 5 = .ok (.bipush 80, 2) := by decide +kernel
theorem dX0_init_7 : decode cX0_init 7 = .ok (.newarray .int, 2) := by decide +kernel
theorem dX0_init_9 : decode cX0_init 9 = .ok (.putfield 11, 3) := by decide +kernel
theorem dX0_init_12 : decode cX0_init 12 = .ok (.aload_n 0, 1) := by decide +kernel
theorem dX0_init_13 : decode cX0_init 13 = .ok (.iconst 4, 1) := by decide +kernel
theorem dX0_init_14 : decode cX0_init 14 = .ok (.newarray .int, 2) := by decide +kernel
theorem dX0_init_16 : decode cX0_init 16 = .ok (.putfield 15, 3) := by decide +kernel
theorem dX0_init_19 : decode cX0_init 19 = .ok (.aload_n 0, 1) := by decide +kernel
theorem dX0_init_20 : decode cX0_init 20 = .ok (.aload_n 1, 1) := by decide +kernel
theorem dX0_init_21 : decode cX0_init 21 = .ok (.putfield 18, 3) := by decide +kernel
theorem dX0_init_24 : decode cX0_init 24 = .ok (.aload_n 0, 1) := by decide +kernel
theorem dX0_init_25 : decode cX0_init 25 = .ok (.aload_n 2, 1) := by decide +kernel
theorem dX0_init_26 : decode cX0_init 26 = .ok (.putfield 22, 3) := by decide +kernel
theorem dX0_init_29 : decode cX0_init 29 = .ok (.return_, 1) := by decide +kernel
theorem dX1_init_0 : decode cX1_init 0 = .ok (.aload_n 0, 1) := by decide +kernel
theorem dX1_init_1 : decode cX1_init 1 = .ok (.invokespecial 3, 3) := by decide +kernel
theorem dX1_init_4 : decode cX1_init 4 = .ok (.aload_n 0, 1) := by decide +kernel
theorem dX1_init_5 : decode cX1_init 5 = .ok (.aload_n 1, 1) := by decide +kernel
theorem dX1_init_6 : decode cX1_init 6 = .ok (.putfield 9, 3) := by decide +kernel
theorem dX1_init_9 : decode cX1_init 9 = .ok (.aload_n 0, 1) := by decide +kernel
theorem dX1_init_10 : decode cX1_init 10 = .ok (.aload_n 2, 1) := by decide +kernel
theorem dX1_init_11 : decode cX1_init 11 = .ok (.putfield 15, 3) := by decide +kernel
theorem dX1_init_14 : decode cX1_init 14 = .ok (.return_, 1) := by decide +kernel
theorem dX2_init_0 : decode cX2_init 0 = .ok (.aload_n 0, 1) := by decide +kernel
theorem dX2_init_1 : decode cX2_init 1 = .ok (.invokespecial 3, 3) := by decide +kernel
theorem dX2_init_4 : decode cX2_init 4 = .ok (.aload_n 0, 1) := by decide +kernel
theorem dX2_init_5 : decode cX2_init 5 = .ok (.bipush 6, 2) := by decide +kernel
theorem dX2_init_7 : decode cX2_init 7 = .ok (.newarray .int, 2) := by decide +kernel
theorem dX2_init_9 : decode cX2_init 9 = .ok (.putfield 9, 3) := by decide +kernel
theorem dX2_init_12 : decode cX2_init 12 = .ok (.aload_n 0, 1) := by decide +kernel
theorem dX2_init_13 : decode cX2_init 13 = .ok (.bipush 64, 2) := by decide +kernel
theorem dX2_init_15 : decode cX2_init 15 = .ok (.newarray .int, 2) := by decide +kernel
theorem dX2_init_17 : decode cX2_init 17 = .ok (.putfield 15, 3) := by decide +kernel
theorem dX2_init_20 : decode cX2_init 20 = .ok (.aload_n 0, 1) := by decide +kernel
theorem dX2_init_21 : decode cX2_init 21 = .ok (.aload_n 1, 1) := by decide +kernel
theorem dX2_init_22 : decode cX2_init 22 = .ok (.putfield 18, 3) := by decide +kernel
theorem dX2_init_25 : decode cX2_init 25 = .ok (.aload_n 0, 1) := by decide +kernel
theorem dX2_init_26 : decode cX2_init 26 = .ok (.aload_n 2, 1) := by decide +kernel
theorem dX2_init_27 : decode cX2_init 27 = .ok (.putfield 22, 3) := by decide +kernel
theorem dX2_init_30 : decode cX2_init 30 = .ok (.return_, 1) := by decide +kernel
theorem dX3_init_0 : decode cX3_init 0 = .ok (.aload_n 0, 1) := by decide +kernel
theorem dX3_init_1 : decode cX3_init 1 = .ok (.invokespecial 3, 3) := by decide +kernel
theorem dX3_init_4 : decode cX3_init 4 = .ok (.aload_n 0, 1) := by decide +kernel
theorem dX3_init_5 : decode cX3_init 5 = .ok (.iconst 4, 1) := by decide +kernel
theorem dX3_init_6 : decode cX3_init 6 = .ok (.newarray .int, 2) := by decide +kernel
theorem dX3_init_8 : decode cX3_init 8 = .ok (.putfield 9, 3) := by decide +kernel
theorem dX3_init_11 : decode cX3_init 11 = .ok (.aload_n 0, 1) := by decide +kernel
theorem dX3_init_12 : decode cX3_init 12 = .ok (.iconst 4, 1) := by decide +kernel
theorem dX3_init_13 : decode cX3_init 13 = .ok (.newarray .int, 2) := by decide +kernel
theorem dX3_init_15 : decode cX3_init 15 = .ok (.putfield 15, 3) := by decide +kernel
theorem dX3_init_18 : decode cX3_init 18 = .ok (.aload_n 0, 1) := by decide +kernel
theorem dX3_init_19 : decode cX3_init 19 = .ok (.iconst 4, 1) := by decide +kernel
theorem dX3_init_20 : decode cX3_init 20 = .ok (.newarray .int, 2) := by decide +kernel
theorem dX3_init_22 : decode cX3_init 22 = .ok (.putfield 18, 3) := by decide +kernel
theorem dX3_init_25 : decode cX3_init 25 = .ok (.aload_n 0, 1) := by decide +kernel
theorem dX3_init_26 : decode cX3_init 26 = .ok (.bipush 6, 2) := by decide +kernel
theorem dX3_init_28 : decode cX3_init 28 = .ok (.newarray .int, 2) := by decide +kernel
theorem dX3_init_30 : decode cX3_init 30 = .ok (.putfield 21, 3) := by decide +kernel
theorem dX3_init_33 : decode cX3_init 33 = .ok (.aload_n 0, 1) := by decide +kernel
theorem dX3_init_34 : decode cX3_init 34 = .ok (.bipush 6, 2) := by decide +kernel
theorem dX3_init_36 : decode cX3_init 36 = .ok (.newarray .int, 2) := by decide +kernel
theorem dX3_init_38 : decode cX3_init 38 = .ok (.putfield 24, 3) := by decide +kernel
theorem dX3_init_41 : decode cX3_init 41 = .ok (.aload_n 0, 1) := by decide +kernel
theorem dX3_init_42 : decode cX3_init 42 = .ok (.bipush 6, 2) := by decide +kernel
theorem dX3_init_44 : decode cX3_init 44 = .ok (.newarray .int, 2) := by decide +kernel
theorem dX3_init_46 : decode cX3_init 46 = .ok (.putfield 27, 3) := by decide +kernel
theorem dX3_init_49 : decode cX3_init 49 = .ok (.aload_n 0, 1) := by decide +kernel
theorem dX3_init_50 : decode cX3_init 50 = .ok (.bipush 40, 2) := by decide +kernel
theorem dX3_init_52 : decode cX3_init 52 = .ok (.newarray .int, 2) := by decide +kernel
theorem dX3_init_54 : decode cX3_init 54 = .ok (.putfield 30, 3) := by decide +kernel
theorem dX3_init_57 : decode cX3_init 57 = .ok (.aload_n 0, 1) := by decide +kernel
theorem dX3_init_58 : decode cX3_init 58 = .ok (.bipush 40, 2) := by decide +kernel
theorem dX3_init_60 : decode cX3_init 60 = .ok (.newarray .int, 2) := by decide +kernel
theorem dX3_init_62 : decode cX3_init 62 = .ok (.putfield 33, 3) := by decide +kernel
theorem dX3_init_65 : decode cX3_init 65 = .ok (.aload_n 0, 1) := by decide +kernel
theorem dX3_init_66 : decode cX3_init 66 = .ok (.bipush 20, 2) := by decide +kernel
theorem dX3_init_68 : decode cX3_init 68 = .ok (.newarray .int, 2) := by decide +kernel
theorem dX3_init_70 : decode cX3_init 70 = .ok (.putfield 36, 3) := by decide +kernel
theorem dX3_init_73 : decode cX3_init 73 = .ok (.aload_n 0, 1) := by decide +kernel
theorem dX3_init_74 : decode cX3_init 74 = .ok (.bipush 80, 2) := by decide +kernel
theorem dX3_init_76 : decode cX3_init 76 = .ok (.newarray .int, 2) := by decide +kernel
theorem dX3_init_78 : decode cX3_init 78 = .ok (.putfield 39, 3) := by decide +kernel
theorem dX3_init_81 : decode cX3_init 81 = .ok (.return_, 1) := by decide +kernel
theorem dX4_init_0 : decode cX4_init 0 = .ok (.aload_n 0, 1) := by decide +kernel
theorem dX4_init_1 : decode cX4_init 1 = .ok (.invokespecial 3, 3) := by decide +kernel
theorem dX4_init_4 : decode cX4_init 4 = .ok (.aload_n 0, 1) := by decide +kernel
theorem dX4_init_5 : decode cX4_init 5 = .ok (.bipush 64, 2) := by decide +kernel
theorem dX4_init_7 : decode cX4_init 7 = .ok (.newarray .int, 2) := by decide +kernel
theorem dX4_init_9 : decode cX4_init 9 = .ok (.putfield 11, 3) := by decide +kernel
theorem dX4_init_12 : decode cX4_init 12 = .ok (.aload_n 0, 1) := by decide +kernel
theorem dX4_init_13 : decode cX4_init 13 = .ok (.bipush 64, 2) := by decide +kernel
theorem dX4_init_15 : decode cX4_init 15 = .ok (.newarray .int, 2) := by decide +kernel
theorem dX4_init_17 : decode cX4_init 17 = .ok (.putfield 15, 3) := by decide +kernel
theorem dX4_init_20 : decode cX4_init 20 = .ok (.aload_n 0, 1) := by decide +kernel
theorem dX4_init_21 : decode cX4_init 21 = .ok (.aload_n 1, 1) := by decide +kernel
theorem dX4_init_22 : decode cX4_init 22 = .ok (.putfield 18, 3) := by decide +kernel
theorem dX4_init_25 : decode cX4_init 25 = .ok (.aload_n 0, 1) := by decide +kernel
theorem dX4_init_26 : decode cX4_init 26 = .ok (.aload_n 2, 1) := by decide +kernel
theorem dX4_init_27 : decode cX4_init 27 = .ok (.putfield 22, 3) := by decide +kernel
theorem dX4_init_30 : decode cX4_init 30 = .ok (.return_, 1) := by decide +kernel
theorem dX5_init_0 : decode cX5_init 0 = .ok (.aload_n 0, 1) := by decide +kernel
theorem dX5_init_1 : decode cX5_init 1 = .ok (.invokespecial 3, 3) := by decide +kernel
theorem dX5_init_4 : decode cX5_init 4 = .ok (.aload_n 0, 1) := by decide +kernel
theorem dX5_init_5 : decode cX5_init 5 = .ok (.iconst (-1), 1) := by decide +kernel
theorem dX5_init_6 : decode cX5_init 6 = .ok (.putfield 9, 3) := by decide +kernel
theorem dX5_init_9 : decode cX5_init 9 = .ok (.aload_n 0, 1) := by decide +kernel
theorem dX5_init_10 : decode cX5_init 10 = .ok (.aload_n 1, 1) := by decide +kernel
theorem dX5_init_11 : decode cX5_init 11 = .ok (.putfield 15, 3) := by decide +kernel
theorem dX5_init_14 : decode cX5_init 14 = .ok (.aload_n 0, 1) := by decide +kernel
theorem dX5_init_15 : decode cX5_init 15 = .ok (.aload_n 2, 1) := by decide +kernel
theorem dX5_init_16 : decode cX5_init 16 = .ok (.putfield 19, 3) := by decide +kernel
theorem dX5_init_19 : decode cX5_init 19 = .ok (.return_, 1) := by decide +kernel
theorem dX6_init_0 : decode cX6_init 0 = .ok (.aload_n 0, 1) := by decide +kernel
theorem dX6_init_1 : decode cX6_init 1 = .ok (.invokespecial 3, 3) := by decide +kernel
theorem dX6_init_4 : decode cX6_init 4 = .ok (.aload_n 0, 1) := by decide +kernel
theorem dX6_init_5 : decode cX6_init 5 = .ok (.bipush 60, 2) := by decide +kernel
theorem dX6_init_7 : decode cX6_init 7 = .ok (.newarray .long, 2) := by decide +kernel
theorem dX6_init_9 : decode cX6_init 9 = .ok (.putfield 9, 3) := by decide +kernel
theorem dX6_init_12 : decode cX6_init 12 = .ok (.aload_n 0, 1) := by decide +kernel
theorem dX6_init_13 : decode cX6_init 13 = .ok (.iconst (-1), 1) := by decide +kernel
theorem dX6_init_14 : decode cX6_init 14 = .ok (.putfield 15, 3) := by decide +kernel
theorem dX6_init_17 : decode cX6_init 17 = .ok (.return_, 1) := by decide +kernel
theorem dX7_init_0 : decode cX7_init 0 = .ok (.aload_n 0, 1) := by decide +kernel
theorem dX7_init_1 : decode cX7_init 1 = .ok (.invokespecial 3, 3) := by decide +kernel
theorem dX7_init_4 : decode cX7_init 4 = .ok (.aload_n 0, 1) := by decide +kernel
theorem dX7_init_5 : decode cX7_init 5 = .ok (.bipush 41, 2) := by decide +kernel
theorem dX7_init_7 : decode cX7_init 7 = .ok (.newarray .int, 2) := by decide +kernel
theorem dX7_init_9 : decode cX7_init 9 = .ok (.putfield 9, 3) := by decide +kernel
theorem dX7_init_12 : decode cX7_init 12 = .ok (.aload_n 0, 1) := by decide +kernel
theorem dX7_init_13 : decode cX7_init 13 = .ok (.bipush 41, 2) := by decide +kernel
theorem dX7_init_15 : decode cX7_init 15 = .ok (.newarray .int, 2) := by decide +kernel
theorem dX7_init_17 : decode cX7_init 17 = .ok (.putfield 15, 3) := by decide +kernel
theorem dX7_init_20 : decode cX7_init 20 = .ok (.aload_n 0, 1) := by decide +kernel
theorem dX7_init_21 : decode cX7_init 21 = .ok (.bipush 41, 2) := by decide +kernel
theorem dX7_init_23 : decode cX7_init 23 = .ok (.newarray .int, 2) := by decide +kernel
theorem dX7_init_25 : decode cX7_init 25 = .ok (.putfield 18, 3) := by decide +kernel
theorem dX7_init_28 : decode cX7_init 28 = .ok (.aload_n 0, 1) := by decide +kernel
theorem dX7_init_29 : decode cX7_init 29 = .ok (.bipush 20, 2) := by decide +kernel
theorem dX7_init_31 : decode cX7_init 31 = .ok (.newarray .int, 2) := by decide +kernel
theorem dX7_init_33 : decode cX7_init 33 = .ok (.putfield 21, 3) := by decide +kernel
theorem dX7_init_36 : decode cX7_init 36 = .ok (.aload_n 0, 1) := by decide +kernel
theorem dX7_init_37 : decode cX7_init 37 = .ok (.aload_n 1, 1) := by decide +kernel
theorem dX7_init_38 : decode cX7_init 38 = .ok (.putfield 24, 3) := by decide +kernel
theorem dX7_init_41 : decode cX7_init 41 = .ok (.return_, 1) := by decide +kernel
theorem dX8_init_0 : decode cX8_init 0 = .ok (.aload_n 0, 1) := by decide +kernel
theorem dX8_init_1 : decode cX8_init 1 = .ok (.invokespecial 3, 3) := by decide +kernel
theorem dX8_init_4 : decode cX8_init 4 = .ok (.aload_n 0, 1) := by decide +kernel
theorem dX8_init_5 : decode cX8_init 5 = .ok (.sipush 800, 3) := by decide +kernel
theorem dX8_init_8 : decode cX8_init 8 = .ok (.newarray .byte, 2) := by decide +kernel
theorem dX8_init_10 : decode cX8_init 10 = .ok (.putfield 9, 3) := by decide +kernel
theorem dX8_init_13 : decode cX8_init 13 = .ok (.return_, 1) := by decide +kernel
theorem dX9_init_0 : decode cX9_init 0 = .ok (.aload_n 0, 1) := by decide +kernel
theorem dX9_init_1 : decode cX9_init 1 = .ok (.invokespecial 1, 3) := by decide +kernel
theorem dX9_init_4 : decode cX9_init 4 = .ok (.aload_n 0, 1) := by decide +kernel
theorem dX9_init_5 : decode cX9_init 5 = .ok (.new 7, 3) := by decide +kernel
theorem dX9_init_8 : decode cX9_init 8 = .ok (.dup, 1) := by decide +kernel
theorem dX9_init_9 : decode cX9_init 9 = .ok (.invokespecial 9, 3) := by decide +kernel
theorem dX9_init_12 : decode cX9_init 12 = .ok (.putfield 10, 3) := by decide +kernel
theorem dX9_init_15 : decode cX9_init 15 = .ok (.aload_n 0, 1) := by decide +kernel
theorem dX9_init_16 : decode cX9_init 16 = .ok (.new 16, 3) := by decide +kernel
theorem dX9_init_19 : decode cX9_init 19 = .ok (.dup, 1) := by decide +kernel
theorem dX9_init_20 : decode cX9_init 20 = .ok (.invokespecial 18, 3) := by decide +kernel
theorem dX9_init_23 : decode cX9_init 23 = .ok (.putfield 19, 3) := by decide +kernel
theorem dX9_init_26 : decode cX9_init 26 = .ok (.aload_n 0, 1) := by decide +kernel
theorem dX9_init_27 : decode cX9_init 27 = .ok (.new 23, 3) := by decide +kernel
theorem dX9_init_30 : decode cX9_init 30 = .ok (.dup, 1) := by decide +kernel
theorem dX9_init_31 : decode cX9_init 31 = .ok (.aload_n 0, 1) := by decide +kernel
theorem dX9_init_32 : decode cX9_init 32 = .ok (.getfield 10, 3) := by decide +kernel
theorem dX9_init_35 : decode cX9_init 35 = .ok (.new 16, 3) := by decide +kernel
theorem dX9_init_38 : decode cX9_init 38 = .ok (.dup, 1) := by decide +kernel
theorem dX9_init_39 : decode cX9_init 39 = .ok (.invokespecial 18, 3) := by decide +kernel
theorem dX9_init_42 : decode cX9_init 42 = .ok (.invokespecial 25, 3) := by decide +kernel
theorem dX9_init_45 : decode cX9_init 45 = .ok (.putfield 28, 3) := by decide +kernel
theorem dX9_init_48 : decode cX9_init 48 = .ok (.aload_n 0, 1) := by decide +kernel
theorem dX9_init_49 : decode cX9_init 49 = .ok (.iconst 3, 1) := by decide +kernel
theorem dX9_init_50 : decode cX9_init 50 = .ok (.anewarray 16, 3) := by decide +kernel
theorem dX9_init_53 : decode cX9_init 53 = .ok (.putfield 32, 3) := by decide +kernel
theorem dX9_init_56 : decode cX9_init 56 = .ok (.aload_n 0, 1) := by decide +kernel
theorem dX9_init_57 : decode cX9_init 57 = .ok (.iconst 4, 1) := by decide +kernel
theorem dX9_init_58 : decode cX9_init 58 = .ok (.anewarray 36, 3) := by decide +kernel
theorem dX9_init_61 : decode cX9_init 61 = .ok (.putfield 38, 3) := by decide +kernel
theorem dX9_init_64 : decode cX9_init 64 = .ok (.aload_n 0, 1) := by decide +kernel
theorem dX9_init_65 : decode cX9_init 65 = .ok (.new 42, 3) := by decide +kernel
theorem dX9_init_68 : decode cX9_init 68 = .ok (.dup, 1) := by decide +kernel
theorem dX9_init_69 : decode cX9_init 69 = .ok (.aload_n 0, 1) := by decide +kernel
theorem dX9_init_70 : decode cX9_init 70 = .ok (.getfield 19, 3) := by decide +kernel
theorem dX9_init_73 : decode cX9_init 73 = .ok (.invokespecial 44, 3) := by decide +kernel
theorem dX9_init_76 : decode cX9_init 76 = .ok (.putfield 47, 3) := by decide +kernel
theorem dX9_init_79 : decode cX9_init 79 = .ok (.aload_n 0, 1) := by decide +kernel
theorem dX9_init_80 : decode cX9_init 80 = .ok (.new 51, 3) := by decide +kernel
theorem dX9_init_83 : decode cX9_init 83 = .ok (.dup, 1) := by decide +kernel
theorem dX9_init_84 : decode cX9_init 84 = .ok (.aload_n 0, 1) := by decide +kernel
theorem dX9_init_85 : decode cX9_init 85 = .ok (.getfield 19, 3) := by decide +kernel
theorem dX9_init_88 : decode cX9_init 88 = .ok (.aload_n 0, 1) := by decide +kernel
theorem dX9_init_89 : decode cX9_init 89 = .ok (.getfield 47, 3) := by decide +kernel
theorem dX9_init_92 : decode cX9_init 92 = .ok (.invokespecial 53, 3) := by decide +kernel
theorem dX9_init_95 : decode cX9_init 95 = .ok (.putfield 56, 3) := by decide +kernel
theorem dX9_init_98 : decode cX9_init 98 = .ok (.aload_n 0, 1) := by decide +kernel
theorem dX9_init_99 : decode cX9_init 99 = .ok (.new 60, 3) := by decide +kernel
theorem dX9_init_102 : decode cX9_init 102 = .ok (.dup, 1) := by decide +kernel
theorem dX9_init_103 : decode cX9_init 103 = .ok (.aload_n 0, 1) := by decide +kernel
theorem dX9_init_104 : decode cX9_init 104 = .ok (.getfield 19, 3) := by decide +kernel
theorem dX9_init_107 : decode cX9_init 107 = .ok (.aload_n 0, 1) := by decide +kernel
theorem dX9_init_108 : decode cX9_init 108 = .ok (.getfield 47, 3) := by decide +kernel
theorem dX9_init_111 : decode cX9_init 111 = .ok (.invokespecial 62, 3) := by decide +kernel
theorem dX9_init_114 : decode cX9_init 114 = .ok (.putfield 63, 3) := by decide +kernel
theorem dX9_init_117 : decode cX9_init 117 = .ok (.aload_n 0, 1) := by decide +kernel
theorem dX9_init_118 : decode cX9_init 118 = .ok (.new 67, 3) := by decide +kernel
theorem dX9_init_121 : decode cX9_init 121 = .ok (.dup, 1) := by decide +kernel
theorem dX9_init_122 : decode cX9_init 122 = .ok (.aload_n 0, 1) := by decide +kernel
theorem dX9_init_123 : decode cX9_init 123 = .ok (.getfield 19, 3) := by decide +kernel
theorem dX9_init_126 : decode cX9_init 126 = .ok (.aload_n 0, 1) := by decide +kernel
theorem dX9_init_127 : decode cX9_init 127 = .ok (.getfield 47, 3) := by decide +kernel
theorem dX9_init_130 : decode cX9_init 130 = .ok (.invokespecial 69, 3) := by decide +kernel
theorem dX9_init_133 : decode cX9_init 133 = .ok (.putfield 70, 3) := by decide +kernel
theorem dX9_init_136 : decode cX9_init 136 = .ok (.aload_n 0, 1) := by decide +kernel
theorem dX9_init_137 : decode cX9_init 137 = .ok (.new 74, 3) := by decide +kernel
theorem dX9_init_140 : decode cX9_init 140 = .ok (.dup, 1) := by decide +kernel
theorem dX9_init_141 : decode cX9_init 141 = .ok (.aload_n 0, 1) := by decide +kernel
theorem dX9_init_142 : decode cX9_init 142 = .ok (.getfield 19, 3) := by decide +kernel
theorem dX9_init_145 : decode cX9_init 145 = .ok (.aload_n 0, 1) := by decide +kernel
theorem dX9_init_146 : decode cX9_init 146 = .ok (.getfield 47, 3) := by decide +kernel
theorem dX9_init_149 : decode cX9_init 149 = .ok (.invokespecial 76, 3) := by decide +kernel
theorem dX9_init_152 : decode cX9_init 152 = .ok (.putfield 77, 3) := by decide +kernel
theorem dX9_init_155 : decode cX9_init 155 = .ok (.aload_n 0, 1) := by decide +kernel
theorem dX9_init_156 : decode cX9_init 156 = .ok (.iconst 3, 1) := by decide +kernel
theorem dX9_init_157 : decode cX9_init 157 = .ok (.newarray .boolean, 2) := by decide +kernel
theorem dX9_init_159 : decode cX9_init 159 = .ok (.putfield 81, 3) := by decide +kernel
theorem dX9_init_162 : decode cX9_init 162 = .ok (.iconst 0, 1) := by decide +kernel
theorem dX9_init_163 : decode cX9_init 163 = .ok (.istore_n 1, 1) := by decide +kernel
theorem dX9_init_164 : decode cX9_init 164 = .ok (.iload_n 1, 1) := by decide +kernel
theorem dX9_init_165 : decode cX9_init 165 = .ok (.iconst 3, 1) := by decide +kernel
theorem dX9_init_166 : decode cX9_init 166 = .ok (.if_icmp .ge 22, 3) := by decide +kernel
theorem dX9_init_169 : decode cX9_init 169 = .ok (.aload_n 0, 1) := by decide +kernel
theorem dX9_init_170 : decode cX9_init 170 = .ok (.getfield 32, 3) := by decide +kernel
theorem dX9_init_173 : decode cX9_init 173 = .ok (.iload_n 1, 1) := by decide +kernel
theorem dX9_init_174 : decode cX9_init 174 = .ok (.new 16, 3) := by decide +kernel
theorem dX9_init_177 : decode cX9_init 177 = .ok (.dup, 1) := by decide +kernel
theorem dX9_init_178 : decode cX9_init 178 = .ok (.invokespecial 18, 3) := by decide +kernel
theorem dX9_init_181 : decode cX9_init 181 = .ok (.aastore, 1) := by decide +kernel
theorem dX9_init_182 : decode cX9_init 182 = .ok (.iinc 1 1, 3) := by decide +kernel
theorem dX9_init_185 : decode cX9_init 185 = .ok (.goto (-21), 3) := by decide +kernel
theorem dX9_init_188 : decode cX9_init 188 = .ok (.iconst 0, 1) := by decide +kernel
theorem dX9_init_189 : decode cX9_init 189 = .ok (.istore_n 1, 1) := by decide +kernel
theorem dX9_init_190 : decode cX9_init 190 = .ok (.iload_n 1, 1) := by decide +kernel
theorem dX9_init_191 : decode cX9_init 191 = .ok (.iconst 4, 1) := by decide +kernel
theorem dX9_init_192 : decode cX9_init 192 = .ok (.if_icmp .ge 22, 3) := by decide +kernel
theorem dX9_init_195 : decode cX9_init 195 = .ok (.aload_n 0, 1) := by decide +kernel
theorem dX9_init_196 : decode cX9_init 196 = .ok (.getfield 38, 3) := by decide +kernel
theorem dX9_init_199 : decode cX9_init 199 = .ok (.iload_n 1, 1) := by decide +kernel
theorem dX9_init_200 : decode cX9_init 200 = .ok (.new 36, 3) := by decide +kernel
theorem dX9_init_203 : decode cX9_init 203 = .ok (.dup, 1) := by decide +kernel
theorem dX9_init_204 : decode cX9_init 204 = .ok (.invokespecial 85, 3) := by decide +kernel
theorem dX9_init_207 : decode cX9_init 207 = .ok (.aastore, 1) := by decide +kernel
theorem dX9_init_208 : decode cX9_init 208 = .ok (.iinc 1 1, 3) := by decide +kernel
theorem dX9_init_211 : decode cX9_init 211 = .ok (.goto (-21), 3) := by decide +kernel
theorem dX9_init_214 : decode cX9_init 214 = .ok (.return_, 1) := by decide +kernel
theorem wd153 : Cond.methodLink RX3 3 Lib.objectInit ∈ gW := gm (tm_1 50 (by decide +kernel)) rfl
theorem wd154 : Cond.instanceMethod Lib.objectInit ∈ gW := gm (tm_1 26 (by decide +kernel)) rfl
theorem wd155 : Cond.code Lib.objectInit ⟨#[0xb1]⟩ 1 none ∈ gW := gm (tm_1 27 (by decide +kernel)) rfl
theorem wd156 : Cond.arrayClass .int ∈ gW := gm (tm_1 167 (by decide +kernel)) rfl
theorem wd157 : Cond.methodLink RX8 3 Lib.objectInit ∈ gW := gm (tm_1 33 (by decide +kernel)) rfl
theorem wd158 : Cond.arrayClass .byte ∈ gW := gm (tm_1 44 (by decide +kernel)) rfl
theorem wd159 : Cond.methodLink RX6 3 Lib.objectInit ∈ gW := gm (tm_2 80 (by decide +kernel)) rfl
theorem wd160 : Cond.arrayClass .long ∈ gW := gm (tm_2 97 (by decide +kernel)) rfl
theorem wd161 : Cond.methodLink RX5 3 Lib.objectInit ∈ gW := gm (tm_1 173 (by decide +kernel)) rfl
theorem wd162 : Cond.methodLink RX7 3 Lib.objectInit ∈ gW := gm (tm_1 207 (by decide +kernel)) rfl
theorem wd163 : Cond.fieldLink RX7 9 "GooseShares$Sky" "track" "[I" ∈ gW := gm (tm_1 209 (by decide +kernel)) rfl
theorem wd164 : Cond.fieldLink RX7 15 "GooseShares$Sky" "facing" "[I" ∈ gW := gm (tm_1 210 (by decide +kernel)) rfl
theorem wd165 : Cond.fieldLink RX7 18 "GooseShares$Sky" "kept" "[I" ∈ gW := gm (tm_1 211 (by decide +kernel)) rfl
theorem wd166 : Cond.fieldLink RX7 21 "GooseShares$Sky" "geeseOver" "[I" ∈ gW := gm (tm_1 212 (by decide +kernel)) rfl
theorem wd167 : Cond.fieldLink RX7 24 "GooseShares$Sky" "land" "LGooseShares$Land;" ∈ gW := gm (tm_1 208 (by decide +kernel)) rfl
theorem wd168 : Cond.methodLink RX4 3 Lib.objectInit ∈ gW := gm (tm_2 5 (by decide +kernel)) rfl
theorem wd169 : Cond.fieldLink RX4 11 "GooseShares$Lanterns" "fewestFor" "[I" ∈ gW := gm (tm_2 8 (by decide +kernel)) rfl
theorem wd170 : Cond.fieldLink RX4 15 "GooseShares$Lanterns" "leastFor" "[I" ∈ gW := gm (tm_2 10 (by decide +kernel)) rfl
theorem wd171 : Cond.fieldLink RX4 18 "GooseShares$Lanterns" "land" "LGooseShares$Land;" ∈ gW := gm (tm_2 6 (by decide +kernel)) rfl
theorem wd172 : Cond.fieldLink RX4 22 "GooseShares$Lanterns" "sky" "LGooseShares$Sky;" ∈ gW := gm (tm_2 7 (by decide +kernel)) rfl
theorem wd173 : Cond.methodLink RX0 3 Lib.objectInit ∈ gW := gm (tm_2 29 (by decide +kernel)) rfl
theorem wd174 : Cond.fieldLink RX0 11 "GooseShares$Clues" "hearers" "[I" ∈ gW := gm (tm_2 32 (by decide +kernel)) rfl
theorem wd175 : Cond.fieldLink RX0 15 "GooseShares$Clues" "outs" "[I" ∈ gW := gm (tm_2 33 (by decide +kernel)) rfl
theorem wd176 : Cond.fieldLink RX0 18 "GooseShares$Clues" "land" "LGooseShares$Land;" ∈ gW := gm (tm_2 30 (by decide +kernel)) rfl
theorem wd177 : Cond.fieldLink RX0 22 "GooseShares$Clues" "sky" "LGooseShares$Sky;" ∈ gW := gm (tm_2 31 (by decide +kernel)) rfl
theorem wd178 : Cond.methodLink RX2 3 Lib.objectInit ∈ gW := gm (tm_2 48 (by decide +kernel)) rfl
theorem wd179 : Cond.fieldLink RX2 9 "GooseShares$Houses" "loudness" "[I" ∈ gW := gm (tm_2 51 (by decide +kernel)) rfl
theorem wd180 : Cond.fieldLink RX2 15 "GooseShares$Houses" "greatest" "[I" ∈ gW := gm (tm_2 52 (by decide +kernel)) rfl
theorem wd181 : Cond.fieldLink RX2 18 "GooseShares$Houses" "land" "LGooseShares$Land;" ∈ gW := gm (tm_2 49 (by decide +kernel)) rfl
theorem wd182 : Cond.fieldLink RX2 22 "GooseShares$Houses" "sky" "LGooseShares$Sky;" ∈ gW := gm (tm_2 50 (by decide +kernel)) rfl
theorem wd183 : Cond.methodLink RX1 3 Lib.objectInit ∈ gW := gm (tm_2 68 (by decide +kernel)) rfl
theorem wd184 : Cond.fieldLink RX1 9 "GooseShares$Fog" "land" "LGooseShares$Land;" ∈ gW := gm (tm_2 69 (by decide +kernel)) rfl
theorem wd185 : Cond.fieldLink RX1 15 "GooseShares$Fog" "sky" "LGooseShares$Sky;" ∈ gW := gm (tm_2 70 (by decide +kernel)) rfl
theorem wd186 : Cond.methodLink RX9 1 Lib.objectInit ∈ gW := gm (tm_1 25 (by decide +kernel)) rfl
theorem wd187 : Cond.classLink RX9 7 RX8 ∈ gW := gm (tm_1 28 (by decide +kernel)) rfl
theorem wd188 : Cond.instantiable RX8 2 ∈ gW := gm (tm_1 29 (by decide +kernel)) rfl
theorem wd189 : Cond.instanceMethod yX8_init ∈ gW := gm (tm_1 31 (by decide +kernel)) rfl
theorem wd190 : Cond.code yX8_init cX8_init 1 none ∈ gW := gm (tm_1 32 (by decide +kernel)) rfl
theorem wd191 : Cond.classLink RX9 16 RX3 ∈ gW := gm (tm_1 45 (by decide +kernel)) rfl
theorem wd192 : Cond.instantiable RX3 20 ∈ gW := gm (tm_1 46 (by decide +kernel)) rfl
theorem wd193 : Cond.instanceMethod yX3_init ∈ gW := gm (tm_1 48 (by decide +kernel)) rfl
theorem wd194 : Cond.code yX3_init cX3_init 1 none ∈ gW := gm (tm_1 49 (by decide +kernel)) rfl
theorem wd195 : Cond.classLink RX9 23 RX5 ∈ gW := gm (tm_1 168 (by decide +kernel)) rfl
theorem wd196 : Cond.instantiable RX5 7 ∈ gW := gm (tm_1 169 (by decide +kernel)) rfl
theorem wd197 : Cond.instanceMethod yX5_init ∈ gW := gm (tm_1 171 (by decide +kernel)) rfl
theorem wd198 : Cond.code yX5_init cX5_init 3 none ∈ gW := gm (tm_1 172 (by decide +kernel)) rfl
theorem wd199 : Cond.methodLink RX9 25 yX5_init ∈ gW := gm (tm_1 170 (by decide +kernel)) rfl
theorem wd200 : Cond.classLink RX9 36 RX6 ∈ gW := gm (tm_1 200 (by decide +kernel)) rfl
theorem wd201 : Cond.classLink RX9 42 RX7 ∈ gW := gm (tm_1 202 (by decide +kernel)) rfl
theorem wd202 : Cond.instantiable RX7 10 ∈ gW := gm (tm_1 203 (by decide +kernel)) rfl
theorem wd203 : Cond.initialized RX7 ∈ gW := gm (tm_1 5 (by decide +kernel)) rfl
theorem wd204 : Cond.instanceMethod yX7_init ∈ gW := gm (tm_1 205 (by decide +kernel)) rfl
theorem wd205 : Cond.code yX7_init cX7_init 2 none ∈ gW := gm (tm_1 206 (by decide +kernel)) rfl
theorem wd206 : Cond.methodLink RX9 44 yX7_init ∈ gW := gm (tm_1 204 (by decide +kernel)) rfl
theorem wd207 : Cond.fieldLink RX9 47 "GooseShares" "sky" "LGooseShares$Sky;" ∈ gW := gm (tm_2 103 (by decide +kernel)) rfl
theorem wd208 : Cond.classLink RX9 51 RX4 ∈ gW := gm (tm_2 0 (by decide +kernel)) rfl
theorem wd209 : Cond.instantiable RX4 5 ∈ gW := gm (tm_2 1 (by decide +kernel)) rfl
theorem wd210 : Cond.instanceMethod yX4_init ∈ gW := gm (tm_2 3 (by decide +kernel)) rfl
theorem wd211 : Cond.code yX4_init cX4_init 3 none ∈ gW := gm (tm_2 4 (by decide +kernel)) rfl
theorem wd212 : Cond.methodLink RX9 53 yX4_init ∈ gW := gm (tm_2 2 (by decide +kernel)) rfl
theorem wd213 : Cond.classLink RX9 60 RX0 ∈ gW := gm (tm_2 24 (by decide +kernel)) rfl
theorem wd214 : Cond.instantiable RX0 4 ∈ gW := gm (tm_2 25 (by decide +kernel)) rfl
theorem wd215 : Cond.initialized RX0 ∈ gW := gm (tm_1 7 (by decide +kernel)) rfl
theorem wd216 : Cond.instanceMethod yX0_init ∈ gW := gm (tm_2 27 (by decide +kernel)) rfl
theorem wd217 : Cond.code yX0_init cX0_init 3 none ∈ gW := gm (tm_2 28 (by decide +kernel)) rfl
theorem wd218 : Cond.methodLink RX9 62 yX0_init ∈ gW := gm (tm_2 26 (by decide +kernel)) rfl
theorem wd219 : Cond.fieldLink RX9 63 "GooseShares" "clues" "LGooseShares$Clues;" ∈ gW := gm (tm_2 105 (by decide +kernel)) rfl
theorem wd220 : Cond.classLink RX9 67 RX2 ∈ gW := gm (tm_2 43 (by decide +kernel)) rfl
theorem wd221 : Cond.instantiable RX2 4 ∈ gW := gm (tm_2 44 (by decide +kernel)) rfl
theorem wd222 : Cond.initialized RX2 ∈ gW := gm (tm_1 8 (by decide +kernel)) rfl
theorem wd223 : Cond.instanceMethod yX2_init ∈ gW := gm (tm_2 46 (by decide +kernel)) rfl
theorem wd224 : Cond.code yX2_init cX2_init 3 none ∈ gW := gm (tm_2 47 (by decide +kernel)) rfl
theorem wd225 : Cond.methodLink RX9 69 yX2_init ∈ gW := gm (tm_2 45 (by decide +kernel)) rfl
theorem wd226 : Cond.fieldLink RX9 70 "GooseShares" "houses" "LGooseShares$Houses;" ∈ gW := gm (tm_2 106 (by decide +kernel)) rfl
theorem wd227 : Cond.classLink RX9 74 RX1 ∈ gW := gm (tm_2 63 (by decide +kernel)) rfl
theorem wd228 : Cond.instantiable RX1 2 ∈ gW := gm (tm_2 64 (by decide +kernel)) rfl
theorem wd229 : Cond.initialized RX1 ∈ gW := gm (tm_1 9 (by decide +kernel)) rfl
theorem wd230 : Cond.instanceMethod yX1_init ∈ gW := gm (tm_2 66 (by decide +kernel)) rfl
theorem wd231 : Cond.code yX1_init cX1_init 3 none ∈ gW := gm (tm_2 67 (by decide +kernel)) rfl
theorem wd232 : Cond.methodLink RX9 76 yX1_init ∈ gW := gm (tm_2 65 (by decide +kernel)) rfl
theorem wd233 : Cond.fieldLink RX9 77 "GooseShares" "fog" "LGooseShares$Fog;" ∈ gW := gm (tm_2 107 (by decide +kernel)) rfl
theorem wd234 : Cond.arrayClass .boolean ∈ gW := gm (tm_2 96 (by decide +kernel)) rfl
theorem wd235 : Cond.instantiable RX6 3 ∈ gW := gm (tm_2 76 (by decide +kernel)) rfl
theorem wd236 : Cond.instanceMethod yX6_init ∈ gW := gm (tm_2 78 (by decide +kernel)) rfl
theorem wd237 : Cond.code yX6_init cX6_init 1 none ∈ gW := gm (tm_2 79 (by decide +kernel)) rfl
theorem my_X8_init : gWI RX8 yX8_init cX8_init 1 0 := ⟨⟨wd189, wd58, wd190⟩, ⟨rfl, by decide +kernel, by decide +kernel, by decide +kernel⟩, rfl⟩
theorem my_X3_init : gWI RX3 yX3_init cX3_init 1 0 := ⟨⟨wd193, wd7, wd194⟩, ⟨rfl, by decide +kernel, by decide +kernel, by decide +kernel⟩, rfl⟩
theorem my_X5_init : gWI RX5 yX5_init cX5_init 3 2 := ⟨⟨wd197, wd134, wd198⟩, ⟨rfl, by decide +kernel, by decide +kernel, by decide +kernel⟩, rfl⟩
theorem my_X7_init : gWI RX7 yX7_init cX7_init 2 1 := ⟨⟨wd204, wd203, wd205⟩, ⟨rfl, by decide +kernel, by decide +kernel, by decide +kernel⟩, rfl⟩
theorem my_X4_init : gWI RX4 yX4_init cX4_init 3 2 := ⟨⟨wd210, wd150, wd211⟩, ⟨rfl, by decide +kernel, by decide +kernel, by decide +kernel⟩, rfl⟩
theorem my_X0_init : gWI RX0 yX0_init cX0_init 3 2 := ⟨⟨wd216, wd215, wd217⟩, ⟨rfl, by decide +kernel, by decide +kernel, by decide +kernel⟩, rfl⟩
theorem my_X2_init : gWI RX2 yX2_init cX2_init 3 2 := ⟨⟨wd223, wd222, wd224⟩, ⟨rfl, by decide +kernel, by decide +kernel, by decide +kernel⟩, rfl⟩
theorem my_X1_init : gWI RX1 yX1_init cX1_init 3 2 := ⟨⟨wd230, wd229, wd231⟩, ⟨rfl, by decide +kernel, by decide +kernel, by decide +kernel⟩, rfl⟩
theorem my_X6_init : gWI RX6 yX6_init cX6_init 1 0 := ⟨⟨wd236, wd68, wd237⟩, ⟨rfl, by decide +kernel, by decide +kernel, by decide +kernel⟩, rfl⟩
end
section
theorem g_re {E : gE} {A : Nat → Prop} {L L2 : List Nat} {f f2 : gF} {H0 H : Heap} {locs : List Loc} (e : f2 = f) (eL : L2 = L) (h : gH E A L f H0 H locs) : gH E A L2 f2 H0 H locs := by
  subst e
  subst eL
  exact h
theorem g_neP {f : gF} {a b n m : Nat} {cA cB : ClassId} {x : Nat → Int32} {y : (Nat → Int64) ⊕ ((Nat → UInt32) ⊕ ((Nat → UInt64) ⊕ (Nat → Option Nat)))} (h1 : f a = .inl (cA, n, .inl x)) (h2 : f b = .inl (cB, m, .inr y)) : a ≠ b := g_ne h1 h2 (fun e => nomatch (congrArg (fun q : ClassId × vp_A => q.2.2) (Sum.inl.inj e)))
theorem g_nePr {f : gF} {a b n m : Nat} {cA cB : ClassId} {x : Nat → Int32} {y : (Nat → Int64) ⊕ ((Nat → UInt32) ⊕ ((Nat → UInt64) ⊕ (Nat → Option Nat)))} (h1 : f a = .inl (cA, n, .inr y)) (h2 : f b = .inl (cB, m, .inl x)) : a ≠ b := (g_neP h2 h1).symm
theorem gArrs_grow {E : gE} {L L2 : List Nat} {f f2 : gF} {na : Nat → Nat} {q : Nat} {y : va_E} (e : f2 = va_up f q y) (eL : L2 = L ++ [q]) (hq : q ∉ L) (h : gArrs E L f na) : gArrs E L2 f2 na := fun i hi => by
  obtain ⟨h1, v, h2⟩ := h i hi
  exact ⟨by rw [eL]; exact List.mem_append_left _ h1, v, ((congrFun e _).trans (va_up_ne _ _ (g_neL h1 hq))).trans h2⟩
theorem gArrs_sub {E : gE} {L L1 : List Nat} {f f1 : gF} {na : Nat → Nat} {q ci : Nat} {x : List Value} (hs : ∀ b ∈ L, b ∈ L1) (hk : ∀ b ∈ L, b ≠ q → f1 b = f b) (hq : f q = .inr (ci, x)) (h : gArrs E L f na) : gArrs E L1 f1 na := fun i hi => by
  obtain ⟨h1, v, h2⟩ := h i hi
  exact ⟨hs _ h1, v, (hk _ h1 (g_neAO h2 hq)).trans h2⟩
theorem gArrs_upQ {E : gE} {L : List Nat} {f f2 : gF} {na : Nat → Nat} {q n : Nat} {cA : ClassId} {y : (Nat → Int64) ⊕ ((Nat → UInt32) ⊕ ((Nat → UInt64) ⊕ (Nat → Option Nat)))} {z : va_E} (e : f2 = va_up f q z) (hq : f q = .inl (cA, n, .inr y)) (h : gArrs E L f na) : gArrs E L f2 na := fun i hi => by
  obtain ⟨h1, v, h2⟩ := h i hi
  exact ⟨h1, v, ((congrFun e _).trans (va_up_ne _ _ (g_neP h2 hq))).trans h2⟩
def gFresh (E : gE) (L : List Nat) (f : gF) (x : Nat) : Prop := ∃ (xt xn xr xi xw xs xl xc xh xf xm xb xd lf ll : Nat) (na da : Nat → Nat) (wv iv : Nat → Option Nat), x ∈ L ∧ f x = .inr (9, [.ref xt, .ref xn, .ref xr, .ref xi, .ref xw, .ref xs, .ref xl, .ref xc, .ref xh, .ref xf, .ref xm]) ∧ xt ∈ L ∧ f xt = .inr (8, [.ref xb, .int (0 : Int32)]) ∧ xb ∈ L ∧ f xb = .inl (E.2.2 0, 800, .inl (fun _ => 0)) ∧ xn ∈ L ∧ f xn = .inr (3, [.int (0 : Int32), .int (0 : Int32), .int (0 : Int32), .int (0 : Int32), .int (0 : Int32), .int (0 : Int32), .int (0 : Int32), .int (0 : Int32), .int (0 : Int32), .int (0 : Int32), .ref (na 0), .ref (na 1), .ref (na 2), .ref (na 3), .ref (na 4), .ref (na 5), .ref (na 6), .ref (na 7), .ref (na 8), .ref (na 9)]) ∧ xr ∈ L ∧ f xr = .inr (5, [.ref xt, .ref xd, .int (0 : Int32), .int (0 : Int32), .int (0 : Int32), .int (0 : Int32), .int (-1 : Int32)]) ∧ xd ∈ L ∧ f xd = .inr (3, [.int (0 : Int32), .int (0 : Int32), .int (0 : Int32), .int (0 : Int32), .int (0 : Int32), .int (0 : Int32), .int (0 : Int32), .int (0 : Int32), .int (0 : Int32), .int (0 : Int32), .ref (da 0), .ref (da 1), .ref (da 2), .ref (da 3), .ref (da 4), .ref (da 5), .ref (da 6), .ref (da 7), .ref (da 8), .ref (da 9)]) ∧ xl ∈ L ∧ f xl = .inr (4, [.ref xn, .ref xs, .ref lf, .ref ll, .int (0 : Int32)]) ∧ xw ∈ L ∧ f xw = .inl (E.2.2 5, 4, .inr (.inr (.inr (.inr wv)))) ∧ xi ∈ L ∧ f xi = .inl (E.2.2 4, 3, .inr (.inr (.inr (.inr iv)))) ∧ xm ∈ L ∧ f xm = .inl (E.2.2 3, 3, .inl (fun _ => 0)) ∧ gArrs E L f na ∧ gArrs E L f da ∧ xn ≠ xd ∧ gRows E L f wv ∧ gImgs E L f iv xn
set_option maxHeartbeats 4000000 in
set_option maxRecDepth 100000 in
theorem k_Land (l : Launch) (E : gE) (L : List Nat) (f : gF) {q : Nat} (mq : q ∈ L) (fq : f q = .inr (3, [.int (0 : Int32), .int (0 : Int32), .int (0 : Int32), .int (0 : Int32), .int (0 : Int32), .int (0 : Int32), .int (0 : Int32), .int (0 : Int32), .int (0 : Int32), .int (0 : Int32), .null, .null, .null, .null, .null, .null, .null, .null, .null, .null])) : gMv l E yX3_init cX3_init 1 (gRm 1 10 210) [.ref q] L f (fun L1 f1 => ∃ na : Nat → Nat, f1 q = .inr (3, [.int (0 : Int32), .int (0 : Int32), .int (0 : Int32), .int (0 : Int32), .int (0 : Int32), .int (0 : Int32), .int (0 : Int32), .int (0 : Int32), .int (0 : Int32), .int (0 : Int32), .ref (na 0), .ref (na 1), .ref (na 2), .ref (na 3), .ref (na 4), .ref (na 5), .ref (na 6), .ref (na 7), .ref (na 8), .ref (na 9)]) ∧ gArrs E L1 f1 na ∧ (∀ b ∈ L, b ∈ L1) ∧ (∀ b ∈ L, b ≠ q → f1 b = f b)) := by
  refine gMv.intro (by decide) (Nat.le_of_ble_eq_true rfl) ?_
  intro p e s m below meth c A ls C hr hnm hA hH hl
  have C : gC E cX3_init 1 RX3 p s m _ meth c := C
  have hl : lv_has ls 1 [(0, .ref q)] := hl
  have hx := C.1
  have hb := C.2.1
  refine lv_aload_n hx hb dX3_init_0 rfl (lv_at hl 0 rfl) ?_
  refine g_obj C hl.1 wd153 wd154 wd155 dX3_init_1 (Nat.le_of_ble_eq_true rfl) (Nat.le_of_ble_eq_true rfl) ?_
  refine lv_aload_n hx hb dX3_init_4 rfl (lv_at hl 0 rfl) ?_
  refine lv_iconst (v := (4 : Int32)) hx hb dX3_init_5 (by decide) ?_
  refine g_newa C hH hA 1 rfl (fun _ _ h => h) wd156 rfl (N' := 4) (a0 := (4, (.inl (fun _ => 0)))) (avI 4) (by decide) (by decide) (Nat.le_of_ble_eq_true rfl) (Nat.le_of_ble_eq_true rfl) (Nat.le_of_ble_eq_true rfl) dX3_init_6 (fun q1 H n2 hH => ?_)
  obtain ⟨f3, ef3⟩ : ∃ z : gF, z = va_up f q1 (.inl (E.2.2 1, 4, .inl (fun _ => 0))) := ⟨_, rfl⟩
  obtain ⟨L4, eL4⟩ : ∃ z : List Nat, z = L ++ [q1] := ⟨_, rfl⟩
  have hH := g_re ef3 eL4 hH
  have sb5 : ∀ b ∈ L, b ∈ L4 := fun b h => by rw [eL4]; exact List.mem_append_left _ h
  have h6 : q1 ∈ L4 := by rw [eL4]; exact List.mem_append_right _ List.mem_cons_self
  have h7 : f3 q1 = .inl (E.2.2 1, 4, .inl (fun _ => 0)) := (congrFun ef3 q1).trans (va_up_self _ _ _)
  have h8 : f3 q = .inr (3, [.int (0 : Int32), .int (0 : Int32), .int (0 : Int32), .int (0 : Int32), .int (0 : Int32), .int (0 : Int32), .int (0 : Int32), .int (0 : Int32), .int (0 : Int32), .int (0 : Int32), .null, .null, .null, .null, .null, .null, .null, .null, .null, .null]) := ((congrFun ef3 q).trans (va_up_ne _ _ (g_neL mq n2))).trans fq
  have h9 : q ∈ L4 := sb5 _ mq
  refine g_putF C hH h9 h8 iX3 tyX3 tyX3_ok nmX3 rfl 10 (by decide) wd100 rfl rfl hnm rfl rfl rfl (Nat.le_of_ble_eq_true rfl) (fs' := [.int (0 : Int32), .int (0 : Int32), .int (0 : Int32), .int (0 : Int32), .int (0 : Int32), .int (0 : Int32), .int (0 : Int32), .int (0 : Int32), .int (0 : Int32), .int (0 : Int32), .ref q1, .null, .null, .null, .null, .null, .null, .null, .null, .null]) rfl dX3_init_8 (fun H locs hH => ?_)
  obtain ⟨f10, ef10⟩ : ∃ z : gF, z = va_up f3 q (.inr (3, [.int (0 : Int32), .int (0 : Int32), .int (0 : Int32), .int (0 : Int32), .int (0 : Int32), .int (0 : Int32), .int (0 : Int32), .int (0 : Int32), .int (0 : Int32), .int (0 : Int32), .ref q1, .null, .null, .null, .null, .null, .null, .null, .null, .null])) := ⟨_, rfl⟩
  have hH : gH E A L4 f10 s.heap H locs := by rw [ef10]; exact hH
  have h11 : f10 q = .inr (3, [.int (0 : Int32), .int (0 : Int32), .int (0 : Int32), .int (0 : Int32), .int (0 : Int32), .int (0 : Int32), .int (0 : Int32), .int (0 : Int32), .int (0 : Int32), .int (0 : Int32), .ref q1, .null, .null, .null, .null, .null, .null, .null, .null, .null]) := (congrFun ef10 q).trans (va_up_self _ _ _)
  refine lv_aload_n hx hb dX3_init_11 rfl (lv_at hl 0 rfl) ?_
  refine lv_iconst (v := (4 : Int32)) hx hb dX3_init_12 (by decide) ?_
  refine g_newa C hH hA 1 rfl (fun _ _ h => h) wd156 rfl (N' := 4) (a0 := (4, (.inl (fun _ => 0)))) (avI 4) (by decide) (by decide) (Nat.le_of_ble_eq_true rfl) (Nat.le_of_ble_eq_true rfl) (Nat.le_of_ble_eq_true rfl) dX3_init_13 (fun q12 H n13 hH => ?_)
  obtain ⟨f14, ef14⟩ : ∃ z : gF, z = va_up f10 q12 (.inl (E.2.2 1, 4, .inl (fun _ => 0))) := ⟨_, rfl⟩
  obtain ⟨L15, eL15⟩ : ∃ z : List Nat, z = L4 ++ [q12] := ⟨_, rfl⟩
  have hH := g_re ef14 eL15 hH
  have sb16 : ∀ b ∈ L4, b ∈ L15 := fun b h => by rw [eL15]; exact List.mem_append_left _ h
  have h17 : q12 ∈ L15 := by rw [eL15]; exact List.mem_append_right _ List.mem_cons_self
  have h18 : f14 q12 = .inl (E.2.2 1, 4, .inl (fun _ => 0)) := (congrFun ef14 q12).trans (va_up_self _ _ _)
  have h19 : f14 q = .inr (3, [.int (0 : Int32), .int (0 : Int32), .int (0 : Int32), .int (0 : Int32), .int (0 : Int32), .int (0 : Int32), .int (0 : Int32), .int (0 : Int32), .int (0 : Int32), .int (0 : Int32), .ref q1, .null, .null, .null, .null, .null, .null, .null, .null, .null]) := ((congrFun ef14 q).trans (va_up_ne _ _ (g_neL h9 n13))).trans h11
  have h20 : q ∈ L15 := sb16 _ h9
  refine g_putF C hH h20 h19 iX3 tyX3 tyX3_ok nmX3 rfl 11 (by decide) wd105 rfl rfl hnm rfl rfl rfl (Nat.le_of_ble_eq_true rfl) (fs' := [.int (0 : Int32), .int (0 : Int32), .int (0 : Int32), .int (0 : Int32), .int (0 : Int32), .int (0 : Int32), .int (0 : Int32), .int (0 : Int32), .int (0 : Int32), .int (0 : Int32), .ref q1, .ref q12, .null, .null, .null, .null, .null, .null, .null, .null]) rfl dX3_init_15 (fun H locs hH => ?_)
  obtain ⟨f21, ef21⟩ : ∃ z : gF, z = va_up f14 q (.inr (3, [.int (0 : Int32), .int (0 : Int32), .int (0 : Int32), .int (0 : Int32), .int (0 : Int32), .int (0 : Int32), .int (0 : Int32), .int (0 : Int32), .int (0 : Int32), .int (0 : Int32), .ref q1, .ref q12, .null, .null, .null, .null, .null, .null, .null, .null])) := ⟨_, rfl⟩
  have hH : gH E A L15 f21 s.heap H locs := by rw [ef21]; exact hH
  have h22 : f21 q = .inr (3, [.int (0 : Int32), .int (0 : Int32), .int (0 : Int32), .int (0 : Int32), .int (0 : Int32), .int (0 : Int32), .int (0 : Int32), .int (0 : Int32), .int (0 : Int32), .int (0 : Int32), .ref q1, .ref q12, .null, .null, .null, .null, .null, .null, .null, .null]) := (congrFun ef21 q).trans (va_up_self _ _ _)
  refine lv_aload_n hx hb dX3_init_18 rfl (lv_at hl 0 rfl) ?_
  refine lv_iconst (v := (4 : Int32)) hx hb dX3_init_19 (by decide) ?_
  refine g_newa C hH hA 1 rfl (fun _ _ h => h) wd156 rfl (N' := 4) (a0 := (4, (.inl (fun _ => 0)))) (avI 4) (by decide) (by decide) (Nat.le_of_ble_eq_true rfl) (Nat.le_of_ble_eq_true rfl) (Nat.le_of_ble_eq_true rfl) dX3_init_20 (fun q23 H n24 hH => ?_)
  obtain ⟨f25, ef25⟩ : ∃ z : gF, z = va_up f21 q23 (.inl (E.2.2 1, 4, .inl (fun _ => 0))) := ⟨_, rfl⟩
  obtain ⟨L26, eL26⟩ : ∃ z : List Nat, z = L15 ++ [q23] := ⟨_, rfl⟩
  have hH := g_re ef25 eL26 hH
  have sb27 : ∀ b ∈ L15, b ∈ L26 := fun b h => by rw [eL26]; exact List.mem_append_left _ h
  have h28 : q23 ∈ L26 := by rw [eL26]; exact List.mem_append_right _ List.mem_cons_self
  have h29 : f25 q23 = .inl (E.2.2 1, 4, .inl (fun _ => 0)) := (congrFun ef25 q23).trans (va_up_self _ _ _)
  have h30 : f25 q = .inr (3, [.int (0 : Int32), .int (0 : Int32), .int (0 : Int32), .int (0 : Int32), .int (0 : Int32), .int (0 : Int32), .int (0 : Int32), .int (0 : Int32), .int (0 : Int32), .int (0 : Int32), .ref q1, .ref q12, .null, .null, .null, .null, .null, .null, .null, .null]) := ((congrFun ef25 q).trans (va_up_ne _ _ (g_neL h20 n24))).trans h22
  have h31 : q ∈ L26 := sb27 _ h20
  refine g_putF C hH h31 h30 iX3 tyX3 tyX3_ok nmX3 rfl 12 (by decide) wd106 rfl rfl hnm rfl rfl rfl (Nat.le_of_ble_eq_true rfl) (fs' := [.int (0 : Int32), .int (0 : Int32), .int (0 : Int32), .int (0 : Int32), .int (0 : Int32), .int (0 : Int32), .int (0 : Int32), .int (0 : Int32), .int (0 : Int32), .int (0 : Int32), .ref q1, .ref q12, .ref q23, .null, .null, .null, .null, .null, .null, .null]) rfl dX3_init_22 (fun H locs hH => ?_)
  obtain ⟨f32, ef32⟩ : ∃ z : gF, z = va_up f25 q (.inr (3, [.int (0 : Int32), .int (0 : Int32), .int (0 : Int32), .int (0 : Int32), .int (0 : Int32), .int (0 : Int32), .int (0 : Int32), .int (0 : Int32), .int (0 : Int32), .int (0 : Int32), .ref q1, .ref q12, .ref q23, .null, .null, .null, .null, .null, .null, .null])) := ⟨_, rfl⟩
  have hH : gH E A L26 f32 s.heap H locs := by rw [ef32]; exact hH
  have h33 : f32 q = .inr (3, [.int (0 : Int32), .int (0 : Int32), .int (0 : Int32), .int (0 : Int32), .int (0 : Int32), .int (0 : Int32), .int (0 : Int32), .int (0 : Int32), .int (0 : Int32), .int (0 : Int32), .ref q1, .ref q12, .ref q23, .null, .null, .null, .null, .null, .null, .null]) := (congrFun ef32 q).trans (va_up_self _ _ _)
  refine lv_aload_n hx hb dX3_init_25 rfl (lv_at hl 0 rfl) ?_
  refine lv_bipush (v := (6 : Int32)) hx hb dX3_init_26 (by decide) ?_
  refine g_newa C hH hA 1 rfl (fun _ _ h => h) wd156 rfl (N' := 6) (a0 := (6, (.inl (fun _ => 0)))) (avI 6) (by decide) (by decide) (Nat.le_of_ble_eq_true rfl) (Nat.le_of_ble_eq_true rfl) (Nat.le_of_ble_eq_true rfl) dX3_init_28 (fun q34 H n35 hH => ?_)
  obtain ⟨f36, ef36⟩ : ∃ z : gF, z = va_up f32 q34 (.inl (E.2.2 1, 6, .inl (fun _ => 0))) := ⟨_, rfl⟩
  obtain ⟨L37, eL37⟩ : ∃ z : List Nat, z = L26 ++ [q34] := ⟨_, rfl⟩
  have hH := g_re ef36 eL37 hH
  have sb38 : ∀ b ∈ L26, b ∈ L37 := fun b h => by rw [eL37]; exact List.mem_append_left _ h
  have h39 : q34 ∈ L37 := by rw [eL37]; exact List.mem_append_right _ List.mem_cons_self
  have h40 : f36 q34 = .inl (E.2.2 1, 6, .inl (fun _ => 0)) := (congrFun ef36 q34).trans (va_up_self _ _ _)
  have h41 : f36 q = .inr (3, [.int (0 : Int32), .int (0 : Int32), .int (0 : Int32), .int (0 : Int32), .int (0 : Int32), .int (0 : Int32), .int (0 : Int32), .int (0 : Int32), .int (0 : Int32), .int (0 : Int32), .ref q1, .ref q12, .ref q23, .null, .null, .null, .null, .null, .null, .null]) := ((congrFun ef36 q).trans (va_up_ne _ _ (g_neL h31 n35))).trans h33
  have h42 : q ∈ L37 := sb38 _ h31
  refine g_putF C hH h42 h41 iX3 tyX3 tyX3_ok nmX3 rfl 13 (by decide) wd107 rfl rfl hnm rfl rfl rfl (Nat.le_of_ble_eq_true rfl) (fs' := [.int (0 : Int32), .int (0 : Int32), .int (0 : Int32), .int (0 : Int32), .int (0 : Int32), .int (0 : Int32), .int (0 : Int32), .int (0 : Int32), .int (0 : Int32), .int (0 : Int32), .ref q1, .ref q12, .ref q23, .ref q34, .null, .null, .null, .null, .null, .null]) rfl dX3_init_30 (fun H locs hH => ?_)
  obtain ⟨f43, ef43⟩ : ∃ z : gF, z = va_up f36 q (.inr (3, [.int (0 : Int32), .int (0 : Int32), .int (0 : Int32), .int (0 : Int32), .int (0 : Int32), .int (0 : Int32), .int (0 : Int32), .int (0 : Int32), .int (0 : Int32), .int (0 : Int32), .ref q1, .ref q12, .ref q23, .ref q34, .null, .null, .null, .null, .null, .null])) := ⟨_, rfl⟩
  have hH : gH E A L37 f43 s.heap H locs := by rw [ef43]; exact hH
  have h44 : f43 q = .inr (3, [.int (0 : Int32), .int (0 : Int32), .int (0 : Int32), .int (0 : Int32), .int (0 : Int32), .int (0 : Int32), .int (0 : Int32), .int (0 : Int32), .int (0 : Int32), .int (0 : Int32), .ref q1, .ref q12, .ref q23, .ref q34, .null, .null, .null, .null, .null, .null]) := (congrFun ef43 q).trans (va_up_self _ _ _)
  refine lv_aload_n hx hb dX3_init_33 rfl (lv_at hl 0 rfl) ?_
  refine lv_bipush (v := (6 : Int32)) hx hb dX3_init_34 (by decide) ?_
  refine g_newa C hH hA 1 rfl (fun _ _ h => h) wd156 rfl (N' := 6) (a0 := (6, (.inl (fun _ => 0)))) (avI 6) (by decide) (by decide) (Nat.le_of_ble_eq_true rfl) (Nat.le_of_ble_eq_true rfl) (Nat.le_of_ble_eq_true rfl) dX3_init_36 (fun q45 H n46 hH => ?_)
  obtain ⟨f47, ef47⟩ : ∃ z : gF, z = va_up f43 q45 (.inl (E.2.2 1, 6, .inl (fun _ => 0))) := ⟨_, rfl⟩
  obtain ⟨L48, eL48⟩ : ∃ z : List Nat, z = L37 ++ [q45] := ⟨_, rfl⟩
  have hH := g_re ef47 eL48 hH
  have sb49 : ∀ b ∈ L37, b ∈ L48 := fun b h => by rw [eL48]; exact List.mem_append_left _ h
  have h50 : q45 ∈ L48 := by rw [eL48]; exact List.mem_append_right _ List.mem_cons_self
  have h51 : f47 q45 = .inl (E.2.2 1, 6, .inl (fun _ => 0)) := (congrFun ef47 q45).trans (va_up_self _ _ _)
  have h52 : f47 q = .inr (3, [.int (0 : Int32), .int (0 : Int32), .int (0 : Int32), .int (0 : Int32), .int (0 : Int32), .int (0 : Int32), .int (0 : Int32), .int (0 : Int32), .int (0 : Int32), .int (0 : Int32), .ref q1, .ref q12, .ref q23, .ref q34, .null, .null, .null, .null, .null, .null]) := ((congrFun ef47 q).trans (va_up_ne _ _ (g_neL h42 n46))).trans h44
  have h53 : q ∈ L48 := sb49 _ h42
  refine g_putF C hH h53 h52 iX3 tyX3 tyX3_ok nmX3 rfl 14 (by decide) wd108 rfl rfl hnm rfl rfl rfl (Nat.le_of_ble_eq_true rfl) (fs' := [.int (0 : Int32), .int (0 : Int32), .int (0 : Int32), .int (0 : Int32), .int (0 : Int32), .int (0 : Int32), .int (0 : Int32), .int (0 : Int32), .int (0 : Int32), .int (0 : Int32), .ref q1, .ref q12, .ref q23, .ref q34, .ref q45, .null, .null, .null, .null, .null]) rfl dX3_init_38 (fun H locs hH => ?_)
  obtain ⟨f54, ef54⟩ : ∃ z : gF, z = va_up f47 q (.inr (3, [.int (0 : Int32), .int (0 : Int32), .int (0 : Int32), .int (0 : Int32), .int (0 : Int32), .int (0 : Int32), .int (0 : Int32), .int (0 : Int32), .int (0 : Int32), .int (0 : Int32), .ref q1, .ref q12, .ref q23, .ref q34, .ref q45, .null, .null, .null, .null, .null])) := ⟨_, rfl⟩
  have hH : gH E A L48 f54 s.heap H locs := by rw [ef54]; exact hH
  have h55 : f54 q = .inr (3, [.int (0 : Int32), .int (0 : Int32), .int (0 : Int32), .int (0 : Int32), .int (0 : Int32), .int (0 : Int32), .int (0 : Int32), .int (0 : Int32), .int (0 : Int32), .int (0 : Int32), .ref q1, .ref q12, .ref q23, .ref q34, .ref q45, .null, .null, .null, .null, .null]) := (congrFun ef54 q).trans (va_up_self _ _ _)
  refine lv_aload_n hx hb dX3_init_41 rfl (lv_at hl 0 rfl) ?_
  refine lv_bipush (v := (6 : Int32)) hx hb dX3_init_42 (by decide) ?_
  refine g_newa C hH hA 1 rfl (fun _ _ h => h) wd156 rfl (N' := 6) (a0 := (6, (.inl (fun _ => 0)))) (avI 6) (by decide) (by decide) (Nat.le_of_ble_eq_true rfl) (Nat.le_of_ble_eq_true rfl) (Nat.le_of_ble_eq_true rfl) dX3_init_44 (fun q56 H n57 hH => ?_)
  obtain ⟨f58, ef58⟩ : ∃ z : gF, z = va_up f54 q56 (.inl (E.2.2 1, 6, .inl (fun _ => 0))) := ⟨_, rfl⟩
  obtain ⟨L59, eL59⟩ : ∃ z : List Nat, z = L48 ++ [q56] := ⟨_, rfl⟩
  have hH := g_re ef58 eL59 hH
  have sb60 : ∀ b ∈ L48, b ∈ L59 := fun b h => by rw [eL59]; exact List.mem_append_left _ h
  have h61 : q56 ∈ L59 := by rw [eL59]; exact List.mem_append_right _ List.mem_cons_self
  have h62 : f58 q56 = .inl (E.2.2 1, 6, .inl (fun _ => 0)) := (congrFun ef58 q56).trans (va_up_self _ _ _)
  have h63 : f58 q = .inr (3, [.int (0 : Int32), .int (0 : Int32), .int (0 : Int32), .int (0 : Int32), .int (0 : Int32), .int (0 : Int32), .int (0 : Int32), .int (0 : Int32), .int (0 : Int32), .int (0 : Int32), .ref q1, .ref q12, .ref q23, .ref q34, .ref q45, .null, .null, .null, .null, .null]) := ((congrFun ef58 q).trans (va_up_ne _ _ (g_neL h53 n57))).trans h55
  have h64 : q ∈ L59 := sb60 _ h53
  refine g_putF C hH h64 h63 iX3 tyX3 tyX3_ok nmX3 rfl 15 (by decide) wd109 rfl rfl hnm rfl rfl rfl (Nat.le_of_ble_eq_true rfl) (fs' := [.int (0 : Int32), .int (0 : Int32), .int (0 : Int32), .int (0 : Int32), .int (0 : Int32), .int (0 : Int32), .int (0 : Int32), .int (0 : Int32), .int (0 : Int32), .int (0 : Int32), .ref q1, .ref q12, .ref q23, .ref q34, .ref q45, .ref q56, .null, .null, .null, .null]) rfl dX3_init_46 (fun H locs hH => ?_)
  obtain ⟨f65, ef65⟩ : ∃ z : gF, z = va_up f58 q (.inr (3, [.int (0 : Int32), .int (0 : Int32), .int (0 : Int32), .int (0 : Int32), .int (0 : Int32), .int (0 : Int32), .int (0 : Int32), .int (0 : Int32), .int (0 : Int32), .int (0 : Int32), .ref q1, .ref q12, .ref q23, .ref q34, .ref q45, .ref q56, .null, .null, .null, .null])) := ⟨_, rfl⟩
  have hH : gH E A L59 f65 s.heap H locs := by rw [ef65]; exact hH
  have h66 : f65 q = .inr (3, [.int (0 : Int32), .int (0 : Int32), .int (0 : Int32), .int (0 : Int32), .int (0 : Int32), .int (0 : Int32), .int (0 : Int32), .int (0 : Int32), .int (0 : Int32), .int (0 : Int32), .ref q1, .ref q12, .ref q23, .ref q34, .ref q45, .ref q56, .null, .null, .null, .null]) := (congrFun ef65 q).trans (va_up_self _ _ _)
  refine lv_aload_n hx hb dX3_init_49 rfl (lv_at hl 0 rfl) ?_
  refine lv_bipush (v := (40 : Int32)) hx hb dX3_init_50 (by decide) ?_
  refine g_newa C hH hA 1 rfl (fun _ _ h => h) wd156 rfl (N' := 40) (a0 := (40, (.inl (fun _ => 0)))) (avI 40) (by decide) (by decide) (Nat.le_of_ble_eq_true rfl) (Nat.le_of_ble_eq_true rfl) (Nat.le_of_ble_eq_true rfl) dX3_init_52 (fun q67 H n68 hH => ?_)
  obtain ⟨f69, ef69⟩ : ∃ z : gF, z = va_up f65 q67 (.inl (E.2.2 1, 40, .inl (fun _ => 0))) := ⟨_, rfl⟩
  obtain ⟨L70, eL70⟩ : ∃ z : List Nat, z = L59 ++ [q67] := ⟨_, rfl⟩
  have hH := g_re ef69 eL70 hH
  have sb71 : ∀ b ∈ L59, b ∈ L70 := fun b h => by rw [eL70]; exact List.mem_append_left _ h
  have h72 : q67 ∈ L70 := by rw [eL70]; exact List.mem_append_right _ List.mem_cons_self
  have h73 : f69 q67 = .inl (E.2.2 1, 40, .inl (fun _ => 0)) := (congrFun ef69 q67).trans (va_up_self _ _ _)
  have h74 : f69 q = .inr (3, [.int (0 : Int32), .int (0 : Int32), .int (0 : Int32), .int (0 : Int32), .int (0 : Int32), .int (0 : Int32), .int (0 : Int32), .int (0 : Int32), .int (0 : Int32), .int (0 : Int32), .ref q1, .ref q12, .ref q23, .ref q34, .ref q45, .ref q56, .null, .null, .null, .null]) := ((congrFun ef69 q).trans (va_up_ne _ _ (g_neL h64 n68))).trans h66
  have h75 : q ∈ L70 := sb71 _ h64
  refine g_putF C hH h75 h74 iX3 tyX3 tyX3_ok nmX3 rfl 16 (by decide) wd110 rfl rfl hnm rfl rfl rfl (Nat.le_of_ble_eq_true rfl) (fs' := [.int (0 : Int32), .int (0 : Int32), .int (0 : Int32), .int (0 : Int32), .int (0 : Int32), .int (0 : Int32), .int (0 : Int32), .int (0 : Int32), .int (0 : Int32), .int (0 : Int32), .ref q1, .ref q12, .ref q23, .ref q34, .ref q45, .ref q56, .ref q67, .null, .null, .null]) rfl dX3_init_54 (fun H locs hH => ?_)
  obtain ⟨f76, ef76⟩ : ∃ z : gF, z = va_up f69 q (.inr (3, [.int (0 : Int32), .int (0 : Int32), .int (0 : Int32), .int (0 : Int32), .int (0 : Int32), .int (0 : Int32), .int (0 : Int32), .int (0 : Int32), .int (0 : Int32), .int (0 : Int32), .ref q1, .ref q12, .ref q23, .ref q34, .ref q45, .ref q56, .ref q67, .null, .null, .null])) := ⟨_, rfl⟩
  have hH : gH E A L70 f76 s.heap H locs := by rw [ef76]; exact hH
  have h77 : f76 q = .inr (3, [.int (0 : Int32), .int (0 : Int32), .int (0 : Int32), .int (0 : Int32), .int (0 : Int32), .int (0 : Int32), .int (0 : Int32), .int (0 : Int32), .int (0 : Int32), .int (0 : Int32), .ref q1, .ref q12, .ref q23, .ref q34, .ref q45, .ref q56, .ref q67, .null, .null, .null]) := (congrFun ef76 q).trans (va_up_self _ _ _)
  refine lv_aload_n hx hb dX3_init_57 rfl (lv_at hl 0 rfl) ?_
  refine lv_bipush (v := (40 : Int32)) hx hb dX3_init_58 (by decide) ?_
  refine g_newa C hH hA 1 rfl (fun _ _ h => h) wd156 rfl (N' := 40) (a0 := (40, (.inl (fun _ => 0)))) (avI 40) (by decide) (by decide) (Nat.le_of_ble_eq_true rfl) (Nat.le_of_ble_eq_true rfl) (Nat.le_of_ble_eq_true rfl) dX3_init_60 (fun q78 H n79 hH => ?_)
  obtain ⟨f80, ef80⟩ : ∃ z : gF, z = va_up f76 q78 (.inl (E.2.2 1, 40, .inl (fun _ => 0))) := ⟨_, rfl⟩
  obtain ⟨L81, eL81⟩ : ∃ z : List Nat, z = L70 ++ [q78] := ⟨_, rfl⟩
  have hH := g_re ef80 eL81 hH
  have sb82 : ∀ b ∈ L70, b ∈ L81 := fun b h => by rw [eL81]; exact List.mem_append_left _ h
  have h83 : q78 ∈ L81 := by rw [eL81]; exact List.mem_append_right _ List.mem_cons_self
  have h84 : f80 q78 = .inl (E.2.2 1, 40, .inl (fun _ => 0)) := (congrFun ef80 q78).trans (va_up_self _ _ _)
  have h85 : f80 q = .inr (3, [.int (0 : Int32), .int (0 : Int32), .int (0 : Int32), .int (0 : Int32), .int (0 : Int32), .int (0 : Int32), .int (0 : Int32), .int (0 : Int32), .int (0 : Int32), .int (0 : Int32), .ref q1, .ref q12, .ref q23, .ref q34, .ref q45, .ref q56, .ref q67, .null, .null, .null]) := ((congrFun ef80 q).trans (va_up_ne _ _ (g_neL h75 n79))).trans h77
  have h86 : q ∈ L81 := sb82 _ h75
  refine g_putF C hH h86 h85 iX3 tyX3 tyX3_ok nmX3 rfl 17 (by decide) wd111 rfl rfl hnm rfl rfl rfl (Nat.le_of_ble_eq_true rfl) (fs' := [.int (0 : Int32), .int (0 : Int32), .int (0 : Int32), .int (0 : Int32), .int (0 : Int32), .int (0 : Int32), .int (0 : Int32), .int (0 : Int32), .int (0 : Int32), .int (0 : Int32), .ref q1, .ref q12, .ref q23, .ref q34, .ref q45, .ref q56, .ref q67, .ref q78, .null, .null]) rfl dX3_init_62 (fun H locs hH => ?_)
  obtain ⟨f87, ef87⟩ : ∃ z : gF, z = va_up f80 q (.inr (3, [.int (0 : Int32), .int (0 : Int32), .int (0 : Int32), .int (0 : Int32), .int (0 : Int32), .int (0 : Int32), .int (0 : Int32), .int (0 : Int32), .int (0 : Int32), .int (0 : Int32), .ref q1, .ref q12, .ref q23, .ref q34, .ref q45, .ref q56, .ref q67, .ref q78, .null, .null])) := ⟨_, rfl⟩
  have hH : gH E A L81 f87 s.heap H locs := by rw [ef87]; exact hH
  have h88 : f87 q = .inr (3, [.int (0 : Int32), .int (0 : Int32), .int (0 : Int32), .int (0 : Int32), .int (0 : Int32), .int (0 : Int32), .int (0 : Int32), .int (0 : Int32), .int (0 : Int32), .int (0 : Int32), .ref q1, .ref q12, .ref q23, .ref q34, .ref q45, .ref q56, .ref q67, .ref q78, .null, .null]) := (congrFun ef87 q).trans (va_up_self _ _ _)
  refine lv_aload_n hx hb dX3_init_65 rfl (lv_at hl 0 rfl) ?_
  refine lv_bipush (v := (20 : Int32)) hx hb dX3_init_66 (by decide) ?_
  refine g_newa C hH hA 1 rfl (fun _ _ h => h) wd156 rfl (N' := 20) (a0 := (20, (.inl (fun _ => 0)))) (avI 20) (by decide) (by decide) (Nat.le_of_ble_eq_true rfl) (Nat.le_of_ble_eq_true rfl) (Nat.le_of_ble_eq_true rfl) dX3_init_68 (fun q89 H n90 hH => ?_)
  obtain ⟨f91, ef91⟩ : ∃ z : gF, z = va_up f87 q89 (.inl (E.2.2 1, 20, .inl (fun _ => 0))) := ⟨_, rfl⟩
  obtain ⟨L92, eL92⟩ : ∃ z : List Nat, z = L81 ++ [q89] := ⟨_, rfl⟩
  have hH := g_re ef91 eL92 hH
  have sb93 : ∀ b ∈ L81, b ∈ L92 := fun b h => by rw [eL92]; exact List.mem_append_left _ h
  have h94 : q89 ∈ L92 := by rw [eL92]; exact List.mem_append_right _ List.mem_cons_self
  have h95 : f91 q89 = .inl (E.2.2 1, 20, .inl (fun _ => 0)) := (congrFun ef91 q89).trans (va_up_self _ _ _)
  have h96 : f91 q = .inr (3, [.int (0 : Int32), .int (0 : Int32), .int (0 : Int32), .int (0 : Int32), .int (0 : Int32), .int (0 : Int32), .int (0 : Int32), .int (0 : Int32), .int (0 : Int32), .int (0 : Int32), .ref q1, .ref q12, .ref q23, .ref q34, .ref q45, .ref q56, .ref q67, .ref q78, .null, .null]) := ((congrFun ef91 q).trans (va_up_ne _ _ (g_neL h86 n90))).trans h88
  have h97 : q ∈ L92 := sb93 _ h86
  refine g_putF C hH h97 h96 iX3 tyX3 tyX3_ok nmX3 rfl 18 (by decide) wd112 rfl rfl hnm rfl rfl rfl (Nat.le_of_ble_eq_true rfl) (fs' := [.int (0 : Int32), .int (0 : Int32), .int (0 : Int32), .int (0 : Int32), .int (0 : Int32), .int (0 : Int32), .int (0 : Int32), .int (0 : Int32), .int (0 : Int32), .int (0 : Int32), .ref q1, .ref q12, .ref q23, .ref q34, .ref q45, .ref q56, .ref q67, .ref q78, .ref q89, .null]) rfl dX3_init_70 (fun H locs hH => ?_)
  obtain ⟨f98, ef98⟩ : ∃ z : gF, z = va_up f91 q (.inr (3, [.int (0 : Int32), .int (0 : Int32), .int (0 : Int32), .int (0 : Int32), .int (0 : Int32), .int (0 : Int32), .int (0 : Int32), .int (0 : Int32), .int (0 : Int32), .int (0 : Int32), .ref q1, .ref q12, .ref q23, .ref q34, .ref q45, .ref q56, .ref q67, .ref q78, .ref q89, .null])) := ⟨_, rfl⟩
  have hH : gH E A L92 f98 s.heap H locs := by rw [ef98]; exact hH
  have h99 : f98 q = .inr (3, [.int (0 : Int32), .int (0 : Int32), .int (0 : Int32), .int (0 : Int32), .int (0 : Int32), .int (0 : Int32), .int (0 : Int32), .int (0 : Int32), .int (0 : Int32), .int (0 : Int32), .ref q1, .ref q12, .ref q23, .ref q34, .ref q45, .ref q56, .ref q67, .ref q78, .ref q89, .null]) := (congrFun ef98 q).trans (va_up_self _ _ _)
  refine lv_aload_n hx hb dX3_init_73 rfl (lv_at hl 0 rfl) ?_
  refine lv_bipush (v := (80 : Int32)) hx hb dX3_init_74 (by decide) ?_
  refine g_newa C hH hA 1 rfl (fun _ _ h => h) wd156 rfl (N' := 80) (a0 := (80, (.inl (fun _ => 0)))) (avI 80) (by decide) (by decide) (Nat.le_of_ble_eq_true rfl) (Nat.le_of_ble_eq_true rfl) (Nat.le_of_ble_eq_true rfl) dX3_init_76 (fun q100 H n101 hH => ?_)
  obtain ⟨f102, ef102⟩ : ∃ z : gF, z = va_up f98 q100 (.inl (E.2.2 1, 80, .inl (fun _ => 0))) := ⟨_, rfl⟩
  obtain ⟨L103, eL103⟩ : ∃ z : List Nat, z = L92 ++ [q100] := ⟨_, rfl⟩
  have hH := g_re ef102 eL103 hH
  have sb104 : ∀ b ∈ L92, b ∈ L103 := fun b h => by rw [eL103]; exact List.mem_append_left _ h
  have h105 : q100 ∈ L103 := by rw [eL103]; exact List.mem_append_right _ List.mem_cons_self
  have h106 : f102 q100 = .inl (E.2.2 1, 80, .inl (fun _ => 0)) := (congrFun ef102 q100).trans (va_up_self _ _ _)
  have h107 : f102 q = .inr (3, [.int (0 : Int32), .int (0 : Int32), .int (0 : Int32), .int (0 : Int32), .int (0 : Int32), .int (0 : Int32), .int (0 : Int32), .int (0 : Int32), .int (0 : Int32), .int (0 : Int32), .ref q1, .ref q12, .ref q23, .ref q34, .ref q45, .ref q56, .ref q67, .ref q78, .ref q89, .null]) := ((congrFun ef102 q).trans (va_up_ne _ _ (g_neL h97 n101))).trans h99
  have h108 : q ∈ L103 := sb104 _ h97
  refine g_putF C hH h108 h107 iX3 tyX3 tyX3_ok nmX3 rfl 19 (by decide) wd113 rfl rfl hnm rfl rfl rfl (Nat.le_of_ble_eq_true rfl) (fs' := [.int (0 : Int32), .int (0 : Int32), .int (0 : Int32), .int (0 : Int32), .int (0 : Int32), .int (0 : Int32), .int (0 : Int32), .int (0 : Int32), .int (0 : Int32), .int (0 : Int32), .ref q1, .ref q12, .ref q23, .ref q34, .ref q45, .ref q56, .ref q67, .ref q78, .ref q89, .ref q100]) rfl dX3_init_78 (fun H locs hH => ?_)
  obtain ⟨f109, ef109⟩ : ∃ z : gF, z = va_up f102 q (.inr (3, [.int (0 : Int32), .int (0 : Int32), .int (0 : Int32), .int (0 : Int32), .int (0 : Int32), .int (0 : Int32), .int (0 : Int32), .int (0 : Int32), .int (0 : Int32), .int (0 : Int32), .ref q1, .ref q12, .ref q23, .ref q34, .ref q45, .ref q56, .ref q67, .ref q78, .ref q89, .ref q100])) := ⟨_, rfl⟩
  have hH : gH E A L103 f109 s.heap H locs := by rw [ef109]; exact hH
  have h110 : f109 q = .inr (3, [.int (0 : Int32), .int (0 : Int32), .int (0 : Int32), .int (0 : Int32), .int (0 : Int32), .int (0 : Int32), .int (0 : Int32), .int (0 : Int32), .int (0 : Int32), .int (0 : Int32), .ref q1, .ref q12, .ref q23, .ref q34, .ref q45, .ref q56, .ref q67, .ref q78, .ref q89, .ref q100]) := (congrFun ef109 q).trans (va_up_self _ _ _)
  refine g_vret C hr hH (Nat.le_of_ble_eq_true rfl) (Nat.le_of_ble_eq_true rfl) dX3_init_81 ?_
  have h111 : f10 q1 = .inl (E.2.2 1, 4, .inl (fun _ => 0)) := ((congrFun ef10 q1).trans (va_up_ne _ _ (g_neAO h7 h8))).trans h7
  have h112 : f14 q1 = .inl (E.2.2 1, 4, .inl (fun _ => 0)) := ((congrFun ef14 q1).trans (va_up_ne _ _ (g_neL h6 n13))).trans h111
  have h113 : q1 ∈ L15 := sb16 _ h6
  have h114 : f21 q1 = .inl (E.2.2 1, 4, .inl (fun _ => 0)) := ((congrFun ef21 q1).trans (va_up_ne _ _ (g_neAO h112 h19))).trans h112
  have h115 : f25 q1 = .inl (E.2.2 1, 4, .inl (fun _ => 0)) := ((congrFun ef25 q1).trans (va_up_ne _ _ (g_neL h113 n24))).trans h114
  have h116 : q1 ∈ L26 := sb27 _ h113
  have h117 : f32 q1 = .inl (E.2.2 1, 4, .inl (fun _ => 0)) := ((congrFun ef32 q1).trans (va_up_ne _ _ (g_neAO h115 h30))).trans h115
  have h118 : f36 q1 = .inl (E.2.2 1, 4, .inl (fun _ => 0)) := ((congrFun ef36 q1).trans (va_up_ne _ _ (g_neL h116 n35))).trans h117
  have h119 : q1 ∈ L37 := sb38 _ h116
  have h120 : f43 q1 = .inl (E.2.2 1, 4, .inl (fun _ => 0)) := ((congrFun ef43 q1).trans (va_up_ne _ _ (g_neAO h118 h41))).trans h118
  have h121 : f47 q1 = .inl (E.2.2 1, 4, .inl (fun _ => 0)) := ((congrFun ef47 q1).trans (va_up_ne _ _ (g_neL h119 n46))).trans h120
  have h122 : q1 ∈ L48 := sb49 _ h119
  have h123 : f54 q1 = .inl (E.2.2 1, 4, .inl (fun _ => 0)) := ((congrFun ef54 q1).trans (va_up_ne _ _ (g_neAO h121 h52))).trans h121
  have h124 : f58 q1 = .inl (E.2.2 1, 4, .inl (fun _ => 0)) := ((congrFun ef58 q1).trans (va_up_ne _ _ (g_neL h122 n57))).trans h123
  have h125 : q1 ∈ L59 := sb60 _ h122
  have h126 : f65 q1 = .inl (E.2.2 1, 4, .inl (fun _ => 0)) := ((congrFun ef65 q1).trans (va_up_ne _ _ (g_neAO h124 h63))).trans h124
  have h127 : f69 q1 = .inl (E.2.2 1, 4, .inl (fun _ => 0)) := ((congrFun ef69 q1).trans (va_up_ne _ _ (g_neL h125 n68))).trans h126
  have h128 : q1 ∈ L70 := sb71 _ h125
  have h129 : f76 q1 = .inl (E.2.2 1, 4, .inl (fun _ => 0)) := ((congrFun ef76 q1).trans (va_up_ne _ _ (g_neAO h127 h74))).trans h127
  have h130 : f80 q1 = .inl (E.2.2 1, 4, .inl (fun _ => 0)) := ((congrFun ef80 q1).trans (va_up_ne _ _ (g_neL h128 n79))).trans h129
  have h131 : q1 ∈ L81 := sb82 _ h128
  have h132 : f87 q1 = .inl (E.2.2 1, 4, .inl (fun _ => 0)) := ((congrFun ef87 q1).trans (va_up_ne _ _ (g_neAO h130 h85))).trans h130
  have h133 : f91 q1 = .inl (E.2.2 1, 4, .inl (fun _ => 0)) := ((congrFun ef91 q1).trans (va_up_ne _ _ (g_neL h131 n90))).trans h132
  have h134 : q1 ∈ L92 := sb93 _ h131
  have h135 : f98 q1 = .inl (E.2.2 1, 4, .inl (fun _ => 0)) := ((congrFun ef98 q1).trans (va_up_ne _ _ (g_neAO h133 h96))).trans h133
  have h136 : f102 q1 = .inl (E.2.2 1, 4, .inl (fun _ => 0)) := ((congrFun ef102 q1).trans (va_up_ne _ _ (g_neL h134 n101))).trans h135
  have h137 : q1 ∈ L103 := sb104 _ h134
  have h138 : f109 q1 = .inl (E.2.2 1, 4, .inl (fun _ => 0)) := ((congrFun ef109 q1).trans (va_up_ne _ _ (g_neAO h136 h107))).trans h136
  have h139 : f21 q12 = .inl (E.2.2 1, 4, .inl (fun _ => 0)) := ((congrFun ef21 q12).trans (va_up_ne _ _ (g_neAO h18 h19))).trans h18
  have h140 : f25 q12 = .inl (E.2.2 1, 4, .inl (fun _ => 0)) := ((congrFun ef25 q12).trans (va_up_ne _ _ (g_neL h17 n24))).trans h139
  have h141 : q12 ∈ L26 := sb27 _ h17
  have h142 : f32 q12 = .inl (E.2.2 1, 4, .inl (fun _ => 0)) := ((congrFun ef32 q12).trans (va_up_ne _ _ (g_neAO h140 h30))).trans h140
  have h143 : f36 q12 = .inl (E.2.2 1, 4, .inl (fun _ => 0)) := ((congrFun ef36 q12).trans (va_up_ne _ _ (g_neL h141 n35))).trans h142
  have h144 : q12 ∈ L37 := sb38 _ h141
  have h145 : f43 q12 = .inl (E.2.2 1, 4, .inl (fun _ => 0)) := ((congrFun ef43 q12).trans (va_up_ne _ _ (g_neAO h143 h41))).trans h143
  have h146 : f47 q12 = .inl (E.2.2 1, 4, .inl (fun _ => 0)) := ((congrFun ef47 q12).trans (va_up_ne _ _ (g_neL h144 n46))).trans h145
  have h147 : q12 ∈ L48 := sb49 _ h144
  have h148 : f54 q12 = .inl (E.2.2 1, 4, .inl (fun _ => 0)) := ((congrFun ef54 q12).trans (va_up_ne _ _ (g_neAO h146 h52))).trans h146
  have h149 : f58 q12 = .inl (E.2.2 1, 4, .inl (fun _ => 0)) := ((congrFun ef58 q12).trans (va_up_ne _ _ (g_neL h147 n57))).trans h148
  have h150 : q12 ∈ L59 := sb60 _ h147
  have h151 : f65 q12 = .inl (E.2.2 1, 4, .inl (fun _ => 0)) := ((congrFun ef65 q12).trans (va_up_ne _ _ (g_neAO h149 h63))).trans h149
  have h152 : f69 q12 = .inl (E.2.2 1, 4, .inl (fun _ => 0)) := ((congrFun ef69 q12).trans (va_up_ne _ _ (g_neL h150 n68))).trans h151
  have h153 : q12 ∈ L70 := sb71 _ h150
  have h154 : f76 q12 = .inl (E.2.2 1, 4, .inl (fun _ => 0)) := ((congrFun ef76 q12).trans (va_up_ne _ _ (g_neAO h152 h74))).trans h152
  have h155 : f80 q12 = .inl (E.2.2 1, 4, .inl (fun _ => 0)) := ((congrFun ef80 q12).trans (va_up_ne _ _ (g_neL h153 n79))).trans h154
  have h156 : q12 ∈ L81 := sb82 _ h153
  have h157 : f87 q12 = .inl (E.2.2 1, 4, .inl (fun _ => 0)) := ((congrFun ef87 q12).trans (va_up_ne _ _ (g_neAO h155 h85))).trans h155
  have h158 : f91 q12 = .inl (E.2.2 1, 4, .inl (fun _ => 0)) := ((congrFun ef91 q12).trans (va_up_ne _ _ (g_neL h156 n90))).trans h157
  have h159 : q12 ∈ L92 := sb93 _ h156
  have h160 : f98 q12 = .inl (E.2.2 1, 4, .inl (fun _ => 0)) := ((congrFun ef98 q12).trans (va_up_ne _ _ (g_neAO h158 h96))).trans h158
  have h161 : f102 q12 = .inl (E.2.2 1, 4, .inl (fun _ => 0)) := ((congrFun ef102 q12).trans (va_up_ne _ _ (g_neL h159 n101))).trans h160
  have h162 : q12 ∈ L103 := sb104 _ h159
  have h163 : f109 q12 = .inl (E.2.2 1, 4, .inl (fun _ => 0)) := ((congrFun ef109 q12).trans (va_up_ne _ _ (g_neAO h161 h107))).trans h161
  have h164 : f32 q23 = .inl (E.2.2 1, 4, .inl (fun _ => 0)) := ((congrFun ef32 q23).trans (va_up_ne _ _ (g_neAO h29 h30))).trans h29
  have h165 : f36 q23 = .inl (E.2.2 1, 4, .inl (fun _ => 0)) := ((congrFun ef36 q23).trans (va_up_ne _ _ (g_neL h28 n35))).trans h164
  have h166 : q23 ∈ L37 := sb38 _ h28
  have h167 : f43 q23 = .inl (E.2.2 1, 4, .inl (fun _ => 0)) := ((congrFun ef43 q23).trans (va_up_ne _ _ (g_neAO h165 h41))).trans h165
  have h168 : f47 q23 = .inl (E.2.2 1, 4, .inl (fun _ => 0)) := ((congrFun ef47 q23).trans (va_up_ne _ _ (g_neL h166 n46))).trans h167
  have h169 : q23 ∈ L48 := sb49 _ h166
  have h170 : f54 q23 = .inl (E.2.2 1, 4, .inl (fun _ => 0)) := ((congrFun ef54 q23).trans (va_up_ne _ _ (g_neAO h168 h52))).trans h168
  have h171 : f58 q23 = .inl (E.2.2 1, 4, .inl (fun _ => 0)) := ((congrFun ef58 q23).trans (va_up_ne _ _ (g_neL h169 n57))).trans h170
  have h172 : q23 ∈ L59 := sb60 _ h169
  have h173 : f65 q23 = .inl (E.2.2 1, 4, .inl (fun _ => 0)) := ((congrFun ef65 q23).trans (va_up_ne _ _ (g_neAO h171 h63))).trans h171
  have h174 : f69 q23 = .inl (E.2.2 1, 4, .inl (fun _ => 0)) := ((congrFun ef69 q23).trans (va_up_ne _ _ (g_neL h172 n68))).trans h173
  have h175 : q23 ∈ L70 := sb71 _ h172
  have h176 : f76 q23 = .inl (E.2.2 1, 4, .inl (fun _ => 0)) := ((congrFun ef76 q23).trans (va_up_ne _ _ (g_neAO h174 h74))).trans h174
  have h177 : f80 q23 = .inl (E.2.2 1, 4, .inl (fun _ => 0)) := ((congrFun ef80 q23).trans (va_up_ne _ _ (g_neL h175 n79))).trans h176
  have h178 : q23 ∈ L81 := sb82 _ h175
  have h179 : f87 q23 = .inl (E.2.2 1, 4, .inl (fun _ => 0)) := ((congrFun ef87 q23).trans (va_up_ne _ _ (g_neAO h177 h85))).trans h177
  have h180 : f91 q23 = .inl (E.2.2 1, 4, .inl (fun _ => 0)) := ((congrFun ef91 q23).trans (va_up_ne _ _ (g_neL h178 n90))).trans h179
  have h181 : q23 ∈ L92 := sb93 _ h178
  have h182 : f98 q23 = .inl (E.2.2 1, 4, .inl (fun _ => 0)) := ((congrFun ef98 q23).trans (va_up_ne _ _ (g_neAO h180 h96))).trans h180
  have h183 : f102 q23 = .inl (E.2.2 1, 4, .inl (fun _ => 0)) := ((congrFun ef102 q23).trans (va_up_ne _ _ (g_neL h181 n101))).trans h182
  have h184 : q23 ∈ L103 := sb104 _ h181
  have h185 : f109 q23 = .inl (E.2.2 1, 4, .inl (fun _ => 0)) := ((congrFun ef109 q23).trans (va_up_ne _ _ (g_neAO h183 h107))).trans h183
  have h186 : f43 q34 = .inl (E.2.2 1, 6, .inl (fun _ => 0)) := ((congrFun ef43 q34).trans (va_up_ne _ _ (g_neAO h40 h41))).trans h40
  have h187 : f47 q34 = .inl (E.2.2 1, 6, .inl (fun _ => 0)) := ((congrFun ef47 q34).trans (va_up_ne _ _ (g_neL h39 n46))).trans h186
  have h188 : q34 ∈ L48 := sb49 _ h39
  have h189 : f54 q34 = .inl (E.2.2 1, 6, .inl (fun _ => 0)) := ((congrFun ef54 q34).trans (va_up_ne _ _ (g_neAO h187 h52))).trans h187
  have h190 : f58 q34 = .inl (E.2.2 1, 6, .inl (fun _ => 0)) := ((congrFun ef58 q34).trans (va_up_ne _ _ (g_neL h188 n57))).trans h189
  have h191 : q34 ∈ L59 := sb60 _ h188
  have h192 : f65 q34 = .inl (E.2.2 1, 6, .inl (fun _ => 0)) := ((congrFun ef65 q34).trans (va_up_ne _ _ (g_neAO h190 h63))).trans h190
  have h193 : f69 q34 = .inl (E.2.2 1, 6, .inl (fun _ => 0)) := ((congrFun ef69 q34).trans (va_up_ne _ _ (g_neL h191 n68))).trans h192
  have h194 : q34 ∈ L70 := sb71 _ h191
  have h195 : f76 q34 = .inl (E.2.2 1, 6, .inl (fun _ => 0)) := ((congrFun ef76 q34).trans (va_up_ne _ _ (g_neAO h193 h74))).trans h193
  have h196 : f80 q34 = .inl (E.2.2 1, 6, .inl (fun _ => 0)) := ((congrFun ef80 q34).trans (va_up_ne _ _ (g_neL h194 n79))).trans h195
  have h197 : q34 ∈ L81 := sb82 _ h194
  have h198 : f87 q34 = .inl (E.2.2 1, 6, .inl (fun _ => 0)) := ((congrFun ef87 q34).trans (va_up_ne _ _ (g_neAO h196 h85))).trans h196
  have h199 : f91 q34 = .inl (E.2.2 1, 6, .inl (fun _ => 0)) := ((congrFun ef91 q34).trans (va_up_ne _ _ (g_neL h197 n90))).trans h198
  have h200 : q34 ∈ L92 := sb93 _ h197
  have h201 : f98 q34 = .inl (E.2.2 1, 6, .inl (fun _ => 0)) := ((congrFun ef98 q34).trans (va_up_ne _ _ (g_neAO h199 h96))).trans h199
  have h202 : f102 q34 = .inl (E.2.2 1, 6, .inl (fun _ => 0)) := ((congrFun ef102 q34).trans (va_up_ne _ _ (g_neL h200 n101))).trans h201
  have h203 : q34 ∈ L103 := sb104 _ h200
  have h204 : f109 q34 = .inl (E.2.2 1, 6, .inl (fun _ => 0)) := ((congrFun ef109 q34).trans (va_up_ne _ _ (g_neAO h202 h107))).trans h202
  have h205 : f54 q45 = .inl (E.2.2 1, 6, .inl (fun _ => 0)) := ((congrFun ef54 q45).trans (va_up_ne _ _ (g_neAO h51 h52))).trans h51
  have h206 : f58 q45 = .inl (E.2.2 1, 6, .inl (fun _ => 0)) := ((congrFun ef58 q45).trans (va_up_ne _ _ (g_neL h50 n57))).trans h205
  have h207 : q45 ∈ L59 := sb60 _ h50
  have h208 : f65 q45 = .inl (E.2.2 1, 6, .inl (fun _ => 0)) := ((congrFun ef65 q45).trans (va_up_ne _ _ (g_neAO h206 h63))).trans h206
  have h209 : f69 q45 = .inl (E.2.2 1, 6, .inl (fun _ => 0)) := ((congrFun ef69 q45).trans (va_up_ne _ _ (g_neL h207 n68))).trans h208
  have h210 : q45 ∈ L70 := sb71 _ h207
  have h211 : f76 q45 = .inl (E.2.2 1, 6, .inl (fun _ => 0)) := ((congrFun ef76 q45).trans (va_up_ne _ _ (g_neAO h209 h74))).trans h209
  have h212 : f80 q45 = .inl (E.2.2 1, 6, .inl (fun _ => 0)) := ((congrFun ef80 q45).trans (va_up_ne _ _ (g_neL h210 n79))).trans h211
  have h213 : q45 ∈ L81 := sb82 _ h210
  have h214 : f87 q45 = .inl (E.2.2 1, 6, .inl (fun _ => 0)) := ((congrFun ef87 q45).trans (va_up_ne _ _ (g_neAO h212 h85))).trans h212
  have h215 : f91 q45 = .inl (E.2.2 1, 6, .inl (fun _ => 0)) := ((congrFun ef91 q45).trans (va_up_ne _ _ (g_neL h213 n90))).trans h214
  have h216 : q45 ∈ L92 := sb93 _ h213
  have h217 : f98 q45 = .inl (E.2.2 1, 6, .inl (fun _ => 0)) := ((congrFun ef98 q45).trans (va_up_ne _ _ (g_neAO h215 h96))).trans h215
  have h218 : f102 q45 = .inl (E.2.2 1, 6, .inl (fun _ => 0)) := ((congrFun ef102 q45).trans (va_up_ne _ _ (g_neL h216 n101))).trans h217
  have h219 : q45 ∈ L103 := sb104 _ h216
  have h220 : f109 q45 = .inl (E.2.2 1, 6, .inl (fun _ => 0)) := ((congrFun ef109 q45).trans (va_up_ne _ _ (g_neAO h218 h107))).trans h218
  have h221 : f65 q56 = .inl (E.2.2 1, 6, .inl (fun _ => 0)) := ((congrFun ef65 q56).trans (va_up_ne _ _ (g_neAO h62 h63))).trans h62
  have h222 : f69 q56 = .inl (E.2.2 1, 6, .inl (fun _ => 0)) := ((congrFun ef69 q56).trans (va_up_ne _ _ (g_neL h61 n68))).trans h221
  have h223 : q56 ∈ L70 := sb71 _ h61
  have h224 : f76 q56 = .inl (E.2.2 1, 6, .inl (fun _ => 0)) := ((congrFun ef76 q56).trans (va_up_ne _ _ (g_neAO h222 h74))).trans h222
  have h225 : f80 q56 = .inl (E.2.2 1, 6, .inl (fun _ => 0)) := ((congrFun ef80 q56).trans (va_up_ne _ _ (g_neL h223 n79))).trans h224
  have h226 : q56 ∈ L81 := sb82 _ h223
  have h227 : f87 q56 = .inl (E.2.2 1, 6, .inl (fun _ => 0)) := ((congrFun ef87 q56).trans (va_up_ne _ _ (g_neAO h225 h85))).trans h225
  have h228 : f91 q56 = .inl (E.2.2 1, 6, .inl (fun _ => 0)) := ((congrFun ef91 q56).trans (va_up_ne _ _ (g_neL h226 n90))).trans h227
  have h229 : q56 ∈ L92 := sb93 _ h226
  have h230 : f98 q56 = .inl (E.2.2 1, 6, .inl (fun _ => 0)) := ((congrFun ef98 q56).trans (va_up_ne _ _ (g_neAO h228 h96))).trans h228
  have h231 : f102 q56 = .inl (E.2.2 1, 6, .inl (fun _ => 0)) := ((congrFun ef102 q56).trans (va_up_ne _ _ (g_neL h229 n101))).trans h230
  have h232 : q56 ∈ L103 := sb104 _ h229
  have h233 : f109 q56 = .inl (E.2.2 1, 6, .inl (fun _ => 0)) := ((congrFun ef109 q56).trans (va_up_ne _ _ (g_neAO h231 h107))).trans h231
  have h234 : f76 q67 = .inl (E.2.2 1, 40, .inl (fun _ => 0)) := ((congrFun ef76 q67).trans (va_up_ne _ _ (g_neAO h73 h74))).trans h73
  have h235 : f80 q67 = .inl (E.2.2 1, 40, .inl (fun _ => 0)) := ((congrFun ef80 q67).trans (va_up_ne _ _ (g_neL h72 n79))).trans h234
  have h236 : q67 ∈ L81 := sb82 _ h72
  have h237 : f87 q67 = .inl (E.2.2 1, 40, .inl (fun _ => 0)) := ((congrFun ef87 q67).trans (va_up_ne _ _ (g_neAO h235 h85))).trans h235
  have h238 : f91 q67 = .inl (E.2.2 1, 40, .inl (fun _ => 0)) := ((congrFun ef91 q67).trans (va_up_ne _ _ (g_neL h236 n90))).trans h237
  have h239 : q67 ∈ L92 := sb93 _ h236
  have h240 : f98 q67 = .inl (E.2.2 1, 40, .inl (fun _ => 0)) := ((congrFun ef98 q67).trans (va_up_ne _ _ (g_neAO h238 h96))).trans h238
  have h241 : f102 q67 = .inl (E.2.2 1, 40, .inl (fun _ => 0)) := ((congrFun ef102 q67).trans (va_up_ne _ _ (g_neL h239 n101))).trans h240
  have h242 : q67 ∈ L103 := sb104 _ h239
  have h243 : f109 q67 = .inl (E.2.2 1, 40, .inl (fun _ => 0)) := ((congrFun ef109 q67).trans (va_up_ne _ _ (g_neAO h241 h107))).trans h241
  have h244 : f87 q78 = .inl (E.2.2 1, 40, .inl (fun _ => 0)) := ((congrFun ef87 q78).trans (va_up_ne _ _ (g_neAO h84 h85))).trans h84
  have h245 : f91 q78 = .inl (E.2.2 1, 40, .inl (fun _ => 0)) := ((congrFun ef91 q78).trans (va_up_ne _ _ (g_neL h83 n90))).trans h244
  have h246 : q78 ∈ L92 := sb93 _ h83
  have h247 : f98 q78 = .inl (E.2.2 1, 40, .inl (fun _ => 0)) := ((congrFun ef98 q78).trans (va_up_ne _ _ (g_neAO h245 h96))).trans h245
  have h248 : f102 q78 = .inl (E.2.2 1, 40, .inl (fun _ => 0)) := ((congrFun ef102 q78).trans (va_up_ne _ _ (g_neL h246 n101))).trans h247
  have h249 : q78 ∈ L103 := sb104 _ h246
  have h250 : f109 q78 = .inl (E.2.2 1, 40, .inl (fun _ => 0)) := ((congrFun ef109 q78).trans (va_up_ne _ _ (g_neAO h248 h107))).trans h248
  have h251 : f98 q89 = .inl (E.2.2 1, 20, .inl (fun _ => 0)) := ((congrFun ef98 q89).trans (va_up_ne _ _ (g_neAO h95 h96))).trans h95
  have h252 : f102 q89 = .inl (E.2.2 1, 20, .inl (fun _ => 0)) := ((congrFun ef102 q89).trans (va_up_ne _ _ (g_neL h94 n101))).trans h251
  have h253 : q89 ∈ L103 := sb104 _ h94
  have h254 : f109 q89 = .inl (E.2.2 1, 20, .inl (fun _ => 0)) := ((congrFun ef109 q89).trans (va_up_ne _ _ (g_neAO h252 h107))).trans h252
  have h255 : f109 q100 = .inl (E.2.2 1, 80, .inl (fun _ => 0)) := ((congrFun ef109 q100).trans (va_up_ne _ _ (g_neAO h106 h107))).trans h106
  refine ⟨fun i => [q1, q12, q23, q34, q45, q56, q67, q78, q89, q100].getD i 0, h110, fun i hi => ?_, ?_, ?_⟩
  · rcases (show i = 0 ∨ i = 1 ∨ i = 2 ∨ i = 3 ∨ i = 4 ∨ i = 5 ∨ i = 6 ∨ i = 7 ∨ i = 8 ∨ i = 9 by omega) with rfl | rfl | rfl | rfl | rfl | rfl | rfl | rfl | rfl | rfl
    · exact ⟨h137, _, h138⟩
    · exact ⟨h162, _, h163⟩
    · exact ⟨h184, _, h185⟩
    · exact ⟨h203, _, h204⟩
    · exact ⟨h219, _, h220⟩
    · exact ⟨h232, _, h233⟩
    · exact ⟨h242, _, h243⟩
    · exact ⟨h249, _, h250⟩
    · exact ⟨h253, _, h254⟩
    · exact ⟨h105, _, h255⟩
  · exact fun b hb => (sb104 _ (sb93 _ (sb82 _ (sb71 _ (sb60 _ (sb49 _ (sb38 _ (sb27 _ (sb16 _ (sb5 _ hb))))))))))
  · intro b hb hbq
    have h256 : b ≠ q1 := g_neL hb n2
    have h257 : f3 b = f b := ((congrFun ef3 b).trans (va_up_ne _ _ (g_neL hb n2))).trans rfl
    have h258 : b ∈ L4 := sb5 _ hb
    have h259 : f10 b = f b := ((congrFun ef10 b).trans (va_up_ne _ _ hbq)).trans h257
    have h260 : b ≠ q12 := g_neL h258 n13
    have h261 : f14 b = f b := ((congrFun ef14 b).trans (va_up_ne _ _ (g_neL h258 n13))).trans h259
    have h262 : b ∈ L15 := sb16 _ h258
    have h263 : f21 b = f b := ((congrFun ef21 b).trans (va_up_ne _ _ hbq)).trans h261
    have h264 : b ≠ q23 := g_neL h262 n24
    have h265 : f25 b = f b := ((congrFun ef25 b).trans (va_up_ne _ _ (g_neL h262 n24))).trans h263
    have h266 : b ∈ L26 := sb27 _ h262
    have h267 : f32 b = f b := ((congrFun ef32 b).trans (va_up_ne _ _ hbq)).trans h265
    have h268 : b ≠ q34 := g_neL h266 n35
    have h269 : f36 b = f b := ((congrFun ef36 b).trans (va_up_ne _ _ (g_neL h266 n35))).trans h267
    have h270 : b ∈ L37 := sb38 _ h266
    have h271 : f43 b = f b := ((congrFun ef43 b).trans (va_up_ne _ _ hbq)).trans h269
    have h272 : b ≠ q45 := g_neL h270 n46
    have h273 : f47 b = f b := ((congrFun ef47 b).trans (va_up_ne _ _ (g_neL h270 n46))).trans h271
    have h274 : b ∈ L48 := sb49 _ h270
    have h275 : f54 b = f b := ((congrFun ef54 b).trans (va_up_ne _ _ hbq)).trans h273
    have h276 : b ≠ q56 := g_neL h274 n57
    have h277 : f58 b = f b := ((congrFun ef58 b).trans (va_up_ne _ _ (g_neL h274 n57))).trans h275
    have h278 : b ∈ L59 := sb60 _ h274
    have h279 : f65 b = f b := ((congrFun ef65 b).trans (va_up_ne _ _ hbq)).trans h277
    have h280 : b ≠ q67 := g_neL h278 n68
    have h281 : f69 b = f b := ((congrFun ef69 b).trans (va_up_ne _ _ (g_neL h278 n68))).trans h279
    have h282 : b ∈ L70 := sb71 _ h278
    have h283 : f76 b = f b := ((congrFun ef76 b).trans (va_up_ne _ _ hbq)).trans h281
    have h284 : b ≠ q78 := g_neL h282 n79
    have h285 : f80 b = f b := ((congrFun ef80 b).trans (va_up_ne _ _ (g_neL h282 n79))).trans h283
    have h286 : b ∈ L81 := sb82 _ h282
    have h287 : f87 b = f b := ((congrFun ef87 b).trans (va_up_ne _ _ hbq)).trans h285
    have h288 : b ≠ q89 := g_neL h286 n90
    have h289 : f91 b = f b := ((congrFun ef91 b).trans (va_up_ne _ _ (g_neL h286 n90))).trans h287
    have h290 : b ∈ L92 := sb93 _ h286
    have h291 : f98 b = f b := ((congrFun ef98 b).trans (va_up_ne _ _ hbq)).trans h289
    have h292 : b ≠ q100 := g_neL h290 n101
    have h293 : f102 b = f b := ((congrFun ef102 b).trans (va_up_ne _ _ (g_neL h290 n101))).trans h291
    have h294 : b ∈ L103 := sb104 _ h290
    have h295 : f109 b = f b := ((congrFun ef109 b).trans (va_up_ne _ _ hbq)).trans h293
    exact h295
set_option maxHeartbeats 4000000 in
set_option maxRecDepth 100000 in
theorem k_Tape (l : Launch) (E : gE) (L : List Nat) (f : gF) {q : Nat} (mq : q ∈ L) (fq : f q = .inr (8, [.null, .int (0 : Int32)])) : gMv l E yX8_init cX8_init 1 (gRm 1 1 800) [.ref q] L f (fun L1 f1 => ∃ xb : Nat, f1 q = .inr (8, [.ref xb, .int 0]) ∧ xb ∈ L1 ∧ f1 xb = .inl (E.2.2 0, 800, .inl (fun _ => 0)) ∧ (∀ b ∈ L, b ∈ L1) ∧ (∀ b ∈ L, b ≠ q → f1 b = f b)) := by
  refine gMv.intro (by decide) (Nat.le_of_ble_eq_true rfl) ?_
  intro p e s m below meth c A ls C hr hnm hA hH hl
  have C : gC E cX8_init 1 RX8 p s m _ meth c := C
  have hl : lv_has ls 1 [(0, .ref q)] := hl
  have hx := C.1
  have hb := C.2.1
  refine lv_aload_n hx hb dX8_init_0 rfl (lv_at hl 0 rfl) ?_
  refine g_obj C hl.1 wd157 wd154 wd155 dX8_init_1 (Nat.le_of_ble_eq_true rfl) (Nat.le_of_ble_eq_true rfl) ?_
  refine lv_aload_n hx hb dX8_init_4 rfl (lv_at hl 0 rfl) ?_
  refine lv_sipush (v := (800 : Int32)) hx hb dX8_init_5 (by decide) ?_
  refine g_newa C hH hA 0 rfl (fun _ _ h => h) wd158 rfl (N' := 800) (a0 := (800, (.inl (fun _ => 0)))) (avB 800) (by decide) (by decide) (Nat.le_of_ble_eq_true rfl) (Nat.le_of_ble_eq_true rfl) (Nat.le_of_ble_eq_true rfl) dX8_init_8 (fun q1 H n2 hH => ?_)
  obtain ⟨f3, ef3⟩ : ∃ z : gF, z = va_up f q1 (.inl (E.2.2 0, 800, .inl (fun _ => 0))) := ⟨_, rfl⟩
  obtain ⟨L4, eL4⟩ : ∃ z : List Nat, z = L ++ [q1] := ⟨_, rfl⟩
  have hH := g_re ef3 eL4 hH
  have sb5 : ∀ b ∈ L, b ∈ L4 := fun b h => by rw [eL4]; exact List.mem_append_left _ h
  have h6 : q1 ∈ L4 := by rw [eL4]; exact List.mem_append_right _ List.mem_cons_self
  have h7 : f3 q1 = .inl (E.2.2 0, 800, .inl (fun _ => 0)) := (congrFun ef3 q1).trans (va_up_self _ _ _)
  have h8 : f3 q = .inr (8, [.null, .int (0 : Int32)]) := ((congrFun ef3 q).trans (va_up_ne _ _ (g_neL mq n2))).trans fq
  have h9 : q ∈ L4 := sb5 _ mq
  refine g_putF C hH h9 h8 iX8 tyX8 tyX8_ok nmX8 rfl 0 (by decide) wd53 rfl rfl hnm rfl rfl rfl (Nat.le_of_ble_eq_true rfl) (fs' := [.ref q1, .int (0 : Int32)]) rfl dX8_init_10 (fun H locs hH => ?_)
  obtain ⟨f10, ef10⟩ : ∃ z : gF, z = va_up f3 q (.inr (8, [.ref q1, .int (0 : Int32)])) := ⟨_, rfl⟩
  have hH : gH E A L4 f10 s.heap H locs := by rw [ef10]; exact hH
  have h11 : f10 q = .inr (8, [.ref q1, .int (0 : Int32)]) := (congrFun ef10 q).trans (va_up_self _ _ _)
  refine g_vret C hr hH (Nat.le_of_ble_eq_true rfl) (Nat.le_of_ble_eq_true rfl) dX8_init_13 ?_
  have h12 : f10 q1 = .inl (E.2.2 0, 800, .inl (fun _ => 0)) := ((congrFun ef10 q1).trans (va_up_ne _ _ (g_neAO h7 h8))).trans h7
  refine ⟨q1, h11, h6, h12, ?_, ?_⟩
  · exact fun b hb => (sb5 _ hb)
  · intro b hb hbq
    have h13 : b ≠ q1 := g_neL hb n2
    have h14 : f3 b = f b := ((congrFun ef3 b).trans (va_up_ne _ _ (g_neL hb n2))).trans rfl
    have h15 : b ∈ L4 := sb5 _ hb
    have h16 : f10 b = f b := ((congrFun ef10 b).trans (va_up_ne _ _ hbq)).trans h14
    exact h16
set_option maxHeartbeats 4000000 in
set_option maxRecDepth 100000 in
theorem k_Row (l : Launch) (E : gE) (L : List Nat) (f : gF) {q : Nat} (mq : q ∈ L) (fq : f q = .inr (6, [.null, .int (0 : Int32), .int (0 : Int32)])) : gMv l E yX6_init cX6_init 1 (gRm 1 1 60) [.ref q] L f (fun L1 f1 => ∃ nu : Nat, f1 q = .inr (6, [.ref nu, .int (-1), .int 0]) ∧ nu ∈ L1 ∧ f1 nu = .inl (E.2.2 2, 60, .inr (.inl (fun _ => 0))) ∧ (∀ b ∈ L, b ∈ L1) ∧ (∀ b ∈ L, b ≠ q → f1 b = f b)) := by
  refine gMv.intro (by decide) (Nat.le_of_ble_eq_true rfl) ?_
  intro p e s m below meth c A ls C hr hnm hA hH hl
  have C : gC E cX6_init 1 RX6 p s m _ meth c := C
  have hl : lv_has ls 1 [(0, .ref q)] := hl
  have hx := C.1
  have hb := C.2.1
  refine lv_aload_n hx hb dX6_init_0 rfl (lv_at hl 0 rfl) ?_
  refine g_obj C hl.1 wd159 wd154 wd155 dX6_init_1 (Nat.le_of_ble_eq_true rfl) (Nat.le_of_ble_eq_true rfl) ?_
  refine lv_aload_n hx hb dX6_init_4 rfl (lv_at hl 0 rfl) ?_
  refine lv_bipush (v := (60 : Int32)) hx hb dX6_init_5 (by decide) ?_
  refine g_newa C hH hA 2 rfl (fun _ _ h => h) wd160 rfl (N' := 60) (a0 := (60, (.inr (.inl (fun _ => 0))))) (avJ 60) (by decide) (by decide) (Nat.le_of_ble_eq_true rfl) (Nat.le_of_ble_eq_true rfl) (Nat.le_of_ble_eq_true rfl) dX6_init_7 (fun q1 H n2 hH => ?_)
  obtain ⟨f3, ef3⟩ : ∃ z : gF, z = va_up f q1 (.inl (E.2.2 2, 60, .inr (.inl (fun _ => 0)))) := ⟨_, rfl⟩
  obtain ⟨L4, eL4⟩ : ∃ z : List Nat, z = L ++ [q1] := ⟨_, rfl⟩
  have hH := g_re ef3 eL4 hH
  have sb5 : ∀ b ∈ L, b ∈ L4 := fun b h => by rw [eL4]; exact List.mem_append_left _ h
  have h6 : q1 ∈ L4 := by rw [eL4]; exact List.mem_append_right _ List.mem_cons_self
  have h7 : f3 q1 = .inl (E.2.2 2, 60, .inr (.inl (fun _ => 0))) := (congrFun ef3 q1).trans (va_up_self _ _ _)
  have h8 : f3 q = .inr (6, [.null, .int (0 : Int32), .int (0 : Int32)]) := ((congrFun ef3 q).trans (va_up_ne _ _ (g_neL mq n2))).trans fq
  have h9 : q ∈ L4 := sb5 _ mq
  refine g_putF C hH h9 h8 iX6 tyX6 tyX6_ok nmX6 rfl 0 (by decide) wd86 rfl rfl hnm rfl rfl rfl (Nat.le_of_ble_eq_true rfl) (fs' := [.ref q1, .int (0 : Int32), .int (0 : Int32)]) rfl dX6_init_9 (fun H locs hH => ?_)
  obtain ⟨f10, ef10⟩ : ∃ z : gF, z = va_up f3 q (.inr (6, [.ref q1, .int (0 : Int32), .int (0 : Int32)])) := ⟨_, rfl⟩
  have hH : gH E A L4 f10 s.heap H locs := by rw [ef10]; exact hH
  have h11 : f10 q = .inr (6, [.ref q1, .int (0 : Int32), .int (0 : Int32)]) := (congrFun ef10 q).trans (va_up_self _ _ _)
  refine lv_aload_n hx hb dX6_init_12 rfl (lv_at hl 0 rfl) ?_
  refine lv_iconst (v := (-1 : Int32)) hx hb dX6_init_13 (by decide) ?_
  refine g_put C hH h9 h11 iX6 tyX6 tyX6_ok nmX6 rfl 1 (by decide) wd64 rfl rfl rfl rfl (Nat.le_of_ble_eq_true rfl) (fs' := [.ref q1, .int (-1 : Int32), .int (0 : Int32)]) rfl dX6_init_14 (fun H locs hH => ?_)
  obtain ⟨f12, ef12⟩ : ∃ z : gF, z = va_up f10 q (.inr (6, [.ref q1, .int (-1 : Int32), .int (0 : Int32)])) := ⟨_, rfl⟩
  have hH : gH E A L4 f12 s.heap H locs := by rw [ef12]; exact hH
  have h13 : f12 q = .inr (6, [.ref q1, .int (-1 : Int32), .int (0 : Int32)]) := (congrFun ef12 q).trans (va_up_self _ _ _)
  refine g_vret C hr hH (Nat.le_of_ble_eq_true rfl) (Nat.le_of_ble_eq_true rfl) dX6_init_17 ?_
  have h14 : f10 q1 = .inl (E.2.2 2, 60, .inr (.inl (fun _ => 0))) := ((congrFun ef10 q1).trans (va_up_ne _ _ (g_neAO h7 h8))).trans h7
  have h15 : f12 q1 = .inl (E.2.2 2, 60, .inr (.inl (fun _ => 0))) := ((congrFun ef12 q1).trans (va_up_ne _ _ (g_neAO h14 h11))).trans h14
  refine ⟨q1, h13, h6, h15, ?_, ?_⟩
  · exact fun b hb => (sb5 _ hb)
  · intro b hb hbq
    have h16 : b ≠ q1 := g_neL hb n2
    have h17 : f3 b = f b := ((congrFun ef3 b).trans (va_up_ne _ _ (g_neL hb n2))).trans rfl
    have h18 : b ∈ L4 := sb5 _ hb
    have h19 : f10 b = f b := ((congrFun ef10 b).trans (va_up_ne _ _ hbq)).trans h17
    have h20 : f12 b = f b := ((congrFun ef12 b).trans (va_up_ne _ _ hbq)).trans h19
    exact h20
set_option maxHeartbeats 4000000 in
set_option maxRecDepth 100000 in
theorem k_Reader (l : Launch) (E : gE) (L : List Nat) (f : gF) {q r0 r1 : Nat} (mq : q ∈ L) (fq : f q = .inr (5, [.null, .null, .int (0 : Int32), .int (0 : Int32), .int (0 : Int32), .int (0 : Int32), .int (0 : Int32)])) : gMv l E yX5_init cX5_init 3 (gRm 1 0 0) [.ref q, .ref r0, .ref r1] L f (fun L1 f1 => f1 q = .inr (5, [.ref r0, .ref r1, .int 0, .int 0, .int 0, .int 0, .int (-1)]) ∧ (∀ b ∈ L, b ∈ L1) ∧ (∀ b ∈ L, b ≠ q → f1 b = f b)) := by
  refine gMv.intro (by decide) (Nat.le_of_ble_eq_true rfl) ?_
  intro p e s m below meth c A ls C hr hnm hA hH hl
  have C : gC E cX5_init 3 RX5 p s m _ meth c := C
  have hl : lv_has ls 3 [(0, .ref q), (1, .ref r0), (2, .ref r1)] := hl
  have hx := C.1
  have hb := C.2.1
  refine lv_aload_n hx hb dX5_init_0 rfl (lv_at hl 0 rfl) ?_
  refine g_obj C hl.1 wd161 wd154 wd155 dX5_init_1 (Nat.le_of_ble_eq_true rfl) (Nat.le_of_ble_eq_true rfl) ?_
  refine lv_aload_n hx hb dX5_init_4 rfl (lv_at hl 0 rfl) ?_
  refine lv_iconst (v := (-1 : Int32)) hx hb dX5_init_5 (by decide) ?_
  refine g_put C hH mq fq iX5 tyX5 tyX5_ok nmX5 rfl 6 (by decide) wd131 rfl rfl rfl rfl (Nat.le_of_ble_eq_true rfl) (fs' := [.null, .null, .int (0 : Int32), .int (0 : Int32), .int (0 : Int32), .int (0 : Int32), .int (-1 : Int32)]) rfl dX5_init_6 (fun H locs hH => ?_)
  obtain ⟨f1, ef1⟩ : ∃ z : gF, z = va_up f q (.inr (5, [.null, .null, .int (0 : Int32), .int (0 : Int32), .int (0 : Int32), .int (0 : Int32), .int (-1 : Int32)])) := ⟨_, rfl⟩
  have hH : gH E A L f1 s.heap H locs := by rw [ef1]; exact hH
  have h2 : f1 q = .inr (5, [.null, .null, .int (0 : Int32), .int (0 : Int32), .int (0 : Int32), .int (0 : Int32), .int (-1 : Int32)]) := (congrFun ef1 q).trans (va_up_self _ _ _)
  refine lv_aload_n hx hb dX5_init_9 rfl (lv_at hl 0 rfl) ?_
  refine lv_aload_n hx hb dX5_init_10 rfl (lv_at hl 1 rfl) ?_
  refine g_putF C hH mq h2 iX5 tyX5 tyX5_ok nmX5 rfl 0 (by decide) wd122 rfl rfl hnm rfl rfl rfl (Nat.le_of_ble_eq_true rfl) (fs' := [.ref r0, .null, .int (0 : Int32), .int (0 : Int32), .int (0 : Int32), .int (0 : Int32), .int (-1 : Int32)]) rfl dX5_init_11 (fun H locs hH => ?_)
  obtain ⟨f3, ef3⟩ : ∃ z : gF, z = va_up f1 q (.inr (5, [.ref r0, .null, .int (0 : Int32), .int (0 : Int32), .int (0 : Int32), .int (0 : Int32), .int (-1 : Int32)])) := ⟨_, rfl⟩
  have hH : gH E A L f3 s.heap H locs := by rw [ef3]; exact hH
  have h4 : f3 q = .inr (5, [.ref r0, .null, .int (0 : Int32), .int (0 : Int32), .int (0 : Int32), .int (0 : Int32), .int (-1 : Int32)]) := (congrFun ef3 q).trans (va_up_self _ _ _)
  refine lv_aload_n hx hb dX5_init_14 rfl (lv_at hl 0 rfl) ?_
  refine lv_aload_n hx hb dX5_init_15 rfl (lv_at hl 2 rfl) ?_
  refine g_putF C hH mq h4 iX5 tyX5 tyX5_ok nmX5 rfl 1 (by decide) wd125 rfl rfl hnm rfl rfl rfl (Nat.le_of_ble_eq_true rfl) (fs' := [.ref r0, .ref r1, .int (0 : Int32), .int (0 : Int32), .int (0 : Int32), .int (0 : Int32), .int (-1 : Int32)]) rfl dX5_init_16 (fun H locs hH => ?_)
  obtain ⟨f5, ef5⟩ : ∃ z : gF, z = va_up f3 q (.inr (5, [.ref r0, .ref r1, .int (0 : Int32), .int (0 : Int32), .int (0 : Int32), .int (0 : Int32), .int (-1 : Int32)])) := ⟨_, rfl⟩
  have hH : gH E A L f5 s.heap H locs := by rw [ef5]; exact hH
  have h6 : f5 q = .inr (5, [.ref r0, .ref r1, .int (0 : Int32), .int (0 : Int32), .int (0 : Int32), .int (0 : Int32), .int (-1 : Int32)]) := (congrFun ef5 q).trans (va_up_self _ _ _)
  refine g_vret C hr hH (Nat.le_of_ble_eq_true rfl) (Nat.le_of_ble_eq_true rfl) dX5_init_19 ?_
  refine ⟨h6, ?_, ?_⟩
  · exact fun b hb => hb
  · intro b hb hbq
    have h7 : f1 b = f b := ((congrFun ef1 b).trans (va_up_ne _ _ hbq)).trans rfl
    have h8 : f3 b = f b := ((congrFun ef3 b).trans (va_up_ne _ _ hbq)).trans h7
    have h9 : f5 b = f b := ((congrFun ef5 b).trans (va_up_ne _ _ hbq)).trans h8
    exact h9
set_option maxHeartbeats 4000000 in
set_option maxRecDepth 100000 in
theorem k_Sky (l : Launch) (E : gE) (L : List Nat) (f : gF) {q r0 : Nat} (mq : q ∈ L) (fq : f q = .inr (7, [.null, .null, .null, .null, .null, .int (0 : Int32), .int (0 : Int32), .int (0 : Int32), .int (0 : Int32), .int (0 : Int32)])) : gMv l E yX7_init cX7_init 2 (gRm 1 4 143) [.ref q, .ref r0] L f (fun L1 f1 => (∀ b ∈ L, b ∈ L1) ∧ (∀ b ∈ L, b ≠ q → f1 b = f b)) := by
  refine gMv.intro (by decide) (Nat.le_of_ble_eq_true rfl) ?_
  intro p e s m below meth c A ls C hr hnm hA hH hl
  have C : gC E cX7_init 2 RX7 p s m _ meth c := C
  have hl : lv_has ls 2 [(0, .ref q), (1, .ref r0)] := hl
  have hx := C.1
  have hb := C.2.1
  refine lv_aload_n hx hb dX7_init_0 rfl (lv_at hl 0 rfl) ?_
  refine g_obj C hl.1 wd162 wd154 wd155 dX7_init_1 (Nat.le_of_ble_eq_true rfl) (Nat.le_of_ble_eq_true rfl) ?_
  refine lv_aload_n hx hb dX7_init_4 rfl (lv_at hl 0 rfl) ?_
  refine lv_bipush (v := (41 : Int32)) hx hb dX7_init_5 (by decide) ?_
  refine g_newa C hH hA 1 rfl (fun _ _ h => h) wd156 rfl (N' := 41) (a0 := (41, (.inl (fun _ => 0)))) (avI 41) (by decide) (by decide) (Nat.le_of_ble_eq_true rfl) (Nat.le_of_ble_eq_true rfl) (Nat.le_of_ble_eq_true rfl) dX7_init_7 (fun q1 H n2 hH => ?_)
  obtain ⟨f3, ef3⟩ : ∃ z : gF, z = va_up f q1 (.inl (E.2.2 1, 41, .inl (fun _ => 0))) := ⟨_, rfl⟩
  obtain ⟨L4, eL4⟩ : ∃ z : List Nat, z = L ++ [q1] := ⟨_, rfl⟩
  have hH := g_re ef3 eL4 hH
  have sb5 : ∀ b ∈ L, b ∈ L4 := fun b h => by rw [eL4]; exact List.mem_append_left _ h
  have h6 : q1 ∈ L4 := by rw [eL4]; exact List.mem_append_right _ List.mem_cons_self
  have h7 : f3 q1 = .inl (E.2.2 1, 41, .inl (fun _ => 0)) := (congrFun ef3 q1).trans (va_up_self _ _ _)
  have h8 : f3 q = .inr (7, [.null, .null, .null, .null, .null, .int (0 : Int32), .int (0 : Int32), .int (0 : Int32), .int (0 : Int32), .int (0 : Int32)]) := ((congrFun ef3 q).trans (va_up_ne _ _ (g_neL mq n2))).trans fq
  have h9 : q ∈ L4 := sb5 _ mq
  refine g_putF C hH h9 h8 iX7 tyX7 tyX7_ok nmX7 rfl 1 (by decide) wd163 rfl rfl hnm rfl rfl rfl (Nat.le_of_ble_eq_true rfl) (fs' := [.null, .ref q1, .null, .null, .null, .int (0 : Int32), .int (0 : Int32), .int (0 : Int32), .int (0 : Int32), .int (0 : Int32)]) rfl dX7_init_9 (fun H locs hH => ?_)
  obtain ⟨f10, ef10⟩ : ∃ z : gF, z = va_up f3 q (.inr (7, [.null, .ref q1, .null, .null, .null, .int (0 : Int32), .int (0 : Int32), .int (0 : Int32), .int (0 : Int32), .int (0 : Int32)])) := ⟨_, rfl⟩
  have hH : gH E A L4 f10 s.heap H locs := by rw [ef10]; exact hH
  have h11 : f10 q = .inr (7, [.null, .ref q1, .null, .null, .null, .int (0 : Int32), .int (0 : Int32), .int (0 : Int32), .int (0 : Int32), .int (0 : Int32)]) := (congrFun ef10 q).trans (va_up_self _ _ _)
  refine lv_aload_n hx hb dX7_init_12 rfl (lv_at hl 0 rfl) ?_
  refine lv_bipush (v := (41 : Int32)) hx hb dX7_init_13 (by decide) ?_
  refine g_newa C hH hA 1 rfl (fun _ _ h => h) wd156 rfl (N' := 41) (a0 := (41, (.inl (fun _ => 0)))) (avI 41) (by decide) (by decide) (Nat.le_of_ble_eq_true rfl) (Nat.le_of_ble_eq_true rfl) (Nat.le_of_ble_eq_true rfl) dX7_init_15 (fun q12 H n13 hH => ?_)
  obtain ⟨f14, ef14⟩ : ∃ z : gF, z = va_up f10 q12 (.inl (E.2.2 1, 41, .inl (fun _ => 0))) := ⟨_, rfl⟩
  obtain ⟨L15, eL15⟩ : ∃ z : List Nat, z = L4 ++ [q12] := ⟨_, rfl⟩
  have hH := g_re ef14 eL15 hH
  have sb16 : ∀ b ∈ L4, b ∈ L15 := fun b h => by rw [eL15]; exact List.mem_append_left _ h
  have h17 : q12 ∈ L15 := by rw [eL15]; exact List.mem_append_right _ List.mem_cons_self
  have h18 : f14 q12 = .inl (E.2.2 1, 41, .inl (fun _ => 0)) := (congrFun ef14 q12).trans (va_up_self _ _ _)
  have h19 : f14 q = .inr (7, [.null, .ref q1, .null, .null, .null, .int (0 : Int32), .int (0 : Int32), .int (0 : Int32), .int (0 : Int32), .int (0 : Int32)]) := ((congrFun ef14 q).trans (va_up_ne _ _ (g_neL h9 n13))).trans h11
  have h20 : q ∈ L15 := sb16 _ h9
  refine g_putF C hH h20 h19 iX7 tyX7 tyX7_ok nmX7 rfl 2 (by decide) wd164 rfl rfl hnm rfl rfl rfl (Nat.le_of_ble_eq_true rfl) (fs' := [.null, .ref q1, .ref q12, .null, .null, .int (0 : Int32), .int (0 : Int32), .int (0 : Int32), .int (0 : Int32), .int (0 : Int32)]) rfl dX7_init_17 (fun H locs hH => ?_)
  obtain ⟨f21, ef21⟩ : ∃ z : gF, z = va_up f14 q (.inr (7, [.null, .ref q1, .ref q12, .null, .null, .int (0 : Int32), .int (0 : Int32), .int (0 : Int32), .int (0 : Int32), .int (0 : Int32)])) := ⟨_, rfl⟩
  have hH : gH E A L15 f21 s.heap H locs := by rw [ef21]; exact hH
  have h22 : f21 q = .inr (7, [.null, .ref q1, .ref q12, .null, .null, .int (0 : Int32), .int (0 : Int32), .int (0 : Int32), .int (0 : Int32), .int (0 : Int32)]) := (congrFun ef21 q).trans (va_up_self _ _ _)
  refine lv_aload_n hx hb dX7_init_20 rfl (lv_at hl 0 rfl) ?_
  refine lv_bipush (v := (41 : Int32)) hx hb dX7_init_21 (by decide) ?_
  refine g_newa C hH hA 1 rfl (fun _ _ h => h) wd156 rfl (N' := 41) (a0 := (41, (.inl (fun _ => 0)))) (avI 41) (by decide) (by decide) (Nat.le_of_ble_eq_true rfl) (Nat.le_of_ble_eq_true rfl) (Nat.le_of_ble_eq_true rfl) dX7_init_23 (fun q23 H n24 hH => ?_)
  obtain ⟨f25, ef25⟩ : ∃ z : gF, z = va_up f21 q23 (.inl (E.2.2 1, 41, .inl (fun _ => 0))) := ⟨_, rfl⟩
  obtain ⟨L26, eL26⟩ : ∃ z : List Nat, z = L15 ++ [q23] := ⟨_, rfl⟩
  have hH := g_re ef25 eL26 hH
  have sb27 : ∀ b ∈ L15, b ∈ L26 := fun b h => by rw [eL26]; exact List.mem_append_left _ h
  have h28 : q23 ∈ L26 := by rw [eL26]; exact List.mem_append_right _ List.mem_cons_self
  have h29 : f25 q23 = .inl (E.2.2 1, 41, .inl (fun _ => 0)) := (congrFun ef25 q23).trans (va_up_self _ _ _)
  have h30 : f25 q = .inr (7, [.null, .ref q1, .ref q12, .null, .null, .int (0 : Int32), .int (0 : Int32), .int (0 : Int32), .int (0 : Int32), .int (0 : Int32)]) := ((congrFun ef25 q).trans (va_up_ne _ _ (g_neL h20 n24))).trans h22
  have h31 : q ∈ L26 := sb27 _ h20
  refine g_putF C hH h31 h30 iX7 tyX7 tyX7_ok nmX7 rfl 3 (by decide) wd165 rfl rfl hnm rfl rfl rfl (Nat.le_of_ble_eq_true rfl) (fs' := [.null, .ref q1, .ref q12, .ref q23, .null, .int (0 : Int32), .int (0 : Int32), .int (0 : Int32), .int (0 : Int32), .int (0 : Int32)]) rfl dX7_init_25 (fun H locs hH => ?_)
  obtain ⟨f32, ef32⟩ : ∃ z : gF, z = va_up f25 q (.inr (7, [.null, .ref q1, .ref q12, .ref q23, .null, .int (0 : Int32), .int (0 : Int32), .int (0 : Int32), .int (0 : Int32), .int (0 : Int32)])) := ⟨_, rfl⟩
  have hH : gH E A L26 f32 s.heap H locs := by rw [ef32]; exact hH
  have h33 : f32 q = .inr (7, [.null, .ref q1, .ref q12, .ref q23, .null, .int (0 : Int32), .int (0 : Int32), .int (0 : Int32), .int (0 : Int32), .int (0 : Int32)]) := (congrFun ef32 q).trans (va_up_self _ _ _)
  refine lv_aload_n hx hb dX7_init_28 rfl (lv_at hl 0 rfl) ?_
  refine lv_bipush (v := (20 : Int32)) hx hb dX7_init_29 (by decide) ?_
  refine g_newa C hH hA 1 rfl (fun _ _ h => h) wd156 rfl (N' := 20) (a0 := (20, (.inl (fun _ => 0)))) (avI 20) (by decide) (by decide) (Nat.le_of_ble_eq_true rfl) (Nat.le_of_ble_eq_true rfl) (Nat.le_of_ble_eq_true rfl) dX7_init_31 (fun q34 H n35 hH => ?_)
  obtain ⟨f36, ef36⟩ : ∃ z : gF, z = va_up f32 q34 (.inl (E.2.2 1, 20, .inl (fun _ => 0))) := ⟨_, rfl⟩
  obtain ⟨L37, eL37⟩ : ∃ z : List Nat, z = L26 ++ [q34] := ⟨_, rfl⟩
  have hH := g_re ef36 eL37 hH
  have sb38 : ∀ b ∈ L26, b ∈ L37 := fun b h => by rw [eL37]; exact List.mem_append_left _ h
  have h39 : q34 ∈ L37 := by rw [eL37]; exact List.mem_append_right _ List.mem_cons_self
  have h40 : f36 q34 = .inl (E.2.2 1, 20, .inl (fun _ => 0)) := (congrFun ef36 q34).trans (va_up_self _ _ _)
  have h41 : f36 q = .inr (7, [.null, .ref q1, .ref q12, .ref q23, .null, .int (0 : Int32), .int (0 : Int32), .int (0 : Int32), .int (0 : Int32), .int (0 : Int32)]) := ((congrFun ef36 q).trans (va_up_ne _ _ (g_neL h31 n35))).trans h33
  have h42 : q ∈ L37 := sb38 _ h31
  refine g_putF C hH h42 h41 iX7 tyX7 tyX7_ok nmX7 rfl 4 (by decide) wd166 rfl rfl hnm rfl rfl rfl (Nat.le_of_ble_eq_true rfl) (fs' := [.null, .ref q1, .ref q12, .ref q23, .ref q34, .int (0 : Int32), .int (0 : Int32), .int (0 : Int32), .int (0 : Int32), .int (0 : Int32)]) rfl dX7_init_33 (fun H locs hH => ?_)
  obtain ⟨f43, ef43⟩ : ∃ z : gF, z = va_up f36 q (.inr (7, [.null, .ref q1, .ref q12, .ref q23, .ref q34, .int (0 : Int32), .int (0 : Int32), .int (0 : Int32), .int (0 : Int32), .int (0 : Int32)])) := ⟨_, rfl⟩
  have hH : gH E A L37 f43 s.heap H locs := by rw [ef43]; exact hH
  have h44 : f43 q = .inr (7, [.null, .ref q1, .ref q12, .ref q23, .ref q34, .int (0 : Int32), .int (0 : Int32), .int (0 : Int32), .int (0 : Int32), .int (0 : Int32)]) := (congrFun ef43 q).trans (va_up_self _ _ _)
  refine lv_aload_n hx hb dX7_init_36 rfl (lv_at hl 0 rfl) ?_
  refine lv_aload_n hx hb dX7_init_37 rfl (lv_at hl 1 rfl) ?_
  refine g_putF C hH h42 h44 iX7 tyX7 tyX7_ok nmX7 rfl 0 (by decide) wd167 rfl rfl hnm rfl rfl rfl (Nat.le_of_ble_eq_true rfl) (fs' := [.ref r0, .ref q1, .ref q12, .ref q23, .ref q34, .int (0 : Int32), .int (0 : Int32), .int (0 : Int32), .int (0 : Int32), .int (0 : Int32)]) rfl dX7_init_38 (fun H locs hH => ?_)
  obtain ⟨f45, ef45⟩ : ∃ z : gF, z = va_up f43 q (.inr (7, [.ref r0, .ref q1, .ref q12, .ref q23, .ref q34, .int (0 : Int32), .int (0 : Int32), .int (0 : Int32), .int (0 : Int32), .int (0 : Int32)])) := ⟨_, rfl⟩
  have hH : gH E A L37 f45 s.heap H locs := by rw [ef45]; exact hH
  have h46 : f45 q = .inr (7, [.ref r0, .ref q1, .ref q12, .ref q23, .ref q34, .int (0 : Int32), .int (0 : Int32), .int (0 : Int32), .int (0 : Int32), .int (0 : Int32)]) := (congrFun ef45 q).trans (va_up_self _ _ _)
  refine g_vret C hr hH (Nat.le_of_ble_eq_true rfl) (Nat.le_of_ble_eq_true rfl) dX7_init_41 ?_
  refine ⟨?_, ?_⟩
  · exact fun b hb => (sb38 _ (sb27 _ (sb16 _ (sb5 _ hb))))
  · intro b hb hbq
    have h47 : b ≠ q1 := g_neL hb n2
    have h48 : f3 b = f b := ((congrFun ef3 b).trans (va_up_ne _ _ (g_neL hb n2))).trans rfl
    have h49 : b ∈ L4 := sb5 _ hb
    have h50 : f10 b = f b := ((congrFun ef10 b).trans (va_up_ne _ _ hbq)).trans h48
    have h51 : b ≠ q12 := g_neL h49 n13
    have h52 : f14 b = f b := ((congrFun ef14 b).trans (va_up_ne _ _ (g_neL h49 n13))).trans h50
    have h53 : b ∈ L15 := sb16 _ h49
    have h54 : f21 b = f b := ((congrFun ef21 b).trans (va_up_ne _ _ hbq)).trans h52
    have h55 : b ≠ q23 := g_neL h53 n24
    have h56 : f25 b = f b := ((congrFun ef25 b).trans (va_up_ne _ _ (g_neL h53 n24))).trans h54
    have h57 : b ∈ L26 := sb27 _ h53
    have h58 : f32 b = f b := ((congrFun ef32 b).trans (va_up_ne _ _ hbq)).trans h56
    have h59 : b ≠ q34 := g_neL h57 n35
    have h60 : f36 b = f b := ((congrFun ef36 b).trans (va_up_ne _ _ (g_neL h57 n35))).trans h58
    have h61 : b ∈ L37 := sb38 _ h57
    have h62 : f43 b = f b := ((congrFun ef43 b).trans (va_up_ne _ _ hbq)).trans h60
    have h63 : f45 b = f b := ((congrFun ef45 b).trans (va_up_ne _ _ hbq)).trans h62
    exact h63
set_option maxHeartbeats 4000000 in
set_option maxRecDepth 100000 in
theorem k_Lanterns (l : Launch) (E : gE) (L : List Nat) (f : gF) {q r0 r1 : Nat} (mq : q ∈ L) (fq : f q = .inr (4, [.null, .null, .null, .null, .int (0 : Int32)])) : gMv l E yX4_init cX4_init 3 (gRm 1 2 128) [.ref q, .ref r0, .ref r1] L f (fun L1 f1 => ∃ lf ll : Nat, f1 q = .inr (4, [.ref r0, .ref r1, .ref lf, .ref ll, .int 0]) ∧ (∀ b ∈ L, b ∈ L1) ∧ (∀ b ∈ L, b ≠ q → f1 b = f b)) := by
  refine gMv.intro (by decide) (Nat.le_of_ble_eq_true rfl) ?_
  intro p e s m below meth c A ls C hr hnm hA hH hl
  have C : gC E cX4_init 3 RX4 p s m _ meth c := C
  have hl : lv_has ls 3 [(0, .ref q), (1, .ref r0), (2, .ref r1)] := hl
  have hx := C.1
  have hb := C.2.1
  refine lv_aload_n hx hb dX4_init_0 rfl (lv_at hl 0 rfl) ?_
  refine g_obj C hl.1 wd168 wd154 wd155 dX4_init_1 (Nat.le_of_ble_eq_true rfl) (Nat.le_of_ble_eq_true rfl) ?_
  refine lv_aload_n hx hb dX4_init_4 rfl (lv_at hl 0 rfl) ?_
  refine lv_bipush (v := (64 : Int32)) hx hb dX4_init_5 (by decide) ?_
  refine g_newa C hH hA 1 rfl (fun _ _ h => h) wd156 rfl (N' := 64) (a0 := (64, (.inl (fun _ => 0)))) (avI 64) (by decide) (by decide) (Nat.le_of_ble_eq_true rfl) (Nat.le_of_ble_eq_true rfl) (Nat.le_of_ble_eq_true rfl) dX4_init_7 (fun q1 H n2 hH => ?_)
  obtain ⟨f3, ef3⟩ : ∃ z : gF, z = va_up f q1 (.inl (E.2.2 1, 64, .inl (fun _ => 0))) := ⟨_, rfl⟩
  obtain ⟨L4, eL4⟩ : ∃ z : List Nat, z = L ++ [q1] := ⟨_, rfl⟩
  have hH := g_re ef3 eL4 hH
  have sb5 : ∀ b ∈ L, b ∈ L4 := fun b h => by rw [eL4]; exact List.mem_append_left _ h
  have h6 : q1 ∈ L4 := by rw [eL4]; exact List.mem_append_right _ List.mem_cons_self
  have h7 : f3 q1 = .inl (E.2.2 1, 64, .inl (fun _ => 0)) := (congrFun ef3 q1).trans (va_up_self _ _ _)
  have h8 : f3 q = .inr (4, [.null, .null, .null, .null, .int (0 : Int32)]) := ((congrFun ef3 q).trans (va_up_ne _ _ (g_neL mq n2))).trans fq
  have h9 : q ∈ L4 := sb5 _ mq
  refine g_putF C hH h9 h8 iX4 tyX4 tyX4_ok nmX4 rfl 2 (by decide) wd169 rfl rfl hnm rfl rfl rfl (Nat.le_of_ble_eq_true rfl) (fs' := [.null, .null, .ref q1, .null, .int (0 : Int32)]) rfl dX4_init_9 (fun H locs hH => ?_)
  obtain ⟨f10, ef10⟩ : ∃ z : gF, z = va_up f3 q (.inr (4, [.null, .null, .ref q1, .null, .int (0 : Int32)])) := ⟨_, rfl⟩
  have hH : gH E A L4 f10 s.heap H locs := by rw [ef10]; exact hH
  have h11 : f10 q = .inr (4, [.null, .null, .ref q1, .null, .int (0 : Int32)]) := (congrFun ef10 q).trans (va_up_self _ _ _)
  refine lv_aload_n hx hb dX4_init_12 rfl (lv_at hl 0 rfl) ?_
  refine lv_bipush (v := (64 : Int32)) hx hb dX4_init_13 (by decide) ?_
  refine g_newa C hH hA 1 rfl (fun _ _ h => h) wd156 rfl (N' := 64) (a0 := (64, (.inl (fun _ => 0)))) (avI 64) (by decide) (by decide) (Nat.le_of_ble_eq_true rfl) (Nat.le_of_ble_eq_true rfl) (Nat.le_of_ble_eq_true rfl) dX4_init_15 (fun q12 H n13 hH => ?_)
  obtain ⟨f14, ef14⟩ : ∃ z : gF, z = va_up f10 q12 (.inl (E.2.2 1, 64, .inl (fun _ => 0))) := ⟨_, rfl⟩
  obtain ⟨L15, eL15⟩ : ∃ z : List Nat, z = L4 ++ [q12] := ⟨_, rfl⟩
  have hH := g_re ef14 eL15 hH
  have sb16 : ∀ b ∈ L4, b ∈ L15 := fun b h => by rw [eL15]; exact List.mem_append_left _ h
  have h17 : q12 ∈ L15 := by rw [eL15]; exact List.mem_append_right _ List.mem_cons_self
  have h18 : f14 q12 = .inl (E.2.2 1, 64, .inl (fun _ => 0)) := (congrFun ef14 q12).trans (va_up_self _ _ _)
  have h19 : f14 q = .inr (4, [.null, .null, .ref q1, .null, .int (0 : Int32)]) := ((congrFun ef14 q).trans (va_up_ne _ _ (g_neL h9 n13))).trans h11
  have h20 : q ∈ L15 := sb16 _ h9
  refine g_putF C hH h20 h19 iX4 tyX4 tyX4_ok nmX4 rfl 3 (by decide) wd170 rfl rfl hnm rfl rfl rfl (Nat.le_of_ble_eq_true rfl) (fs' := [.null, .null, .ref q1, .ref q12, .int (0 : Int32)]) rfl dX4_init_17 (fun H locs hH => ?_)
  obtain ⟨f21, ef21⟩ : ∃ z : gF, z = va_up f14 q (.inr (4, [.null, .null, .ref q1, .ref q12, .int (0 : Int32)])) := ⟨_, rfl⟩
  have hH : gH E A L15 f21 s.heap H locs := by rw [ef21]; exact hH
  have h22 : f21 q = .inr (4, [.null, .null, .ref q1, .ref q12, .int (0 : Int32)]) := (congrFun ef21 q).trans (va_up_self _ _ _)
  refine lv_aload_n hx hb dX4_init_20 rfl (lv_at hl 0 rfl) ?_
  refine lv_aload_n hx hb dX4_init_21 rfl (lv_at hl 1 rfl) ?_
  refine g_putF C hH h20 h22 iX4 tyX4 tyX4_ok nmX4 rfl 0 (by decide) wd171 rfl rfl hnm rfl rfl rfl (Nat.le_of_ble_eq_true rfl) (fs' := [.ref r0, .null, .ref q1, .ref q12, .int (0 : Int32)]) rfl dX4_init_22 (fun H locs hH => ?_)
  obtain ⟨f23, ef23⟩ : ∃ z : gF, z = va_up f21 q (.inr (4, [.ref r0, .null, .ref q1, .ref q12, .int (0 : Int32)])) := ⟨_, rfl⟩
  have hH : gH E A L15 f23 s.heap H locs := by rw [ef23]; exact hH
  have h24 : f23 q = .inr (4, [.ref r0, .null, .ref q1, .ref q12, .int (0 : Int32)]) := (congrFun ef23 q).trans (va_up_self _ _ _)
  refine lv_aload_n hx hb dX4_init_25 rfl (lv_at hl 0 rfl) ?_
  refine lv_aload_n hx hb dX4_init_26 rfl (lv_at hl 2 rfl) ?_
  refine g_putF C hH h20 h24 iX4 tyX4 tyX4_ok nmX4 rfl 1 (by decide) wd172 rfl rfl hnm rfl rfl rfl (Nat.le_of_ble_eq_true rfl) (fs' := [.ref r0, .ref r1, .ref q1, .ref q12, .int (0 : Int32)]) rfl dX4_init_27 (fun H locs hH => ?_)
  obtain ⟨f25, ef25⟩ : ∃ z : gF, z = va_up f23 q (.inr (4, [.ref r0, .ref r1, .ref q1, .ref q12, .int (0 : Int32)])) := ⟨_, rfl⟩
  have hH : gH E A L15 f25 s.heap H locs := by rw [ef25]; exact hH
  have h26 : f25 q = .inr (4, [.ref r0, .ref r1, .ref q1, .ref q12, .int (0 : Int32)]) := (congrFun ef25 q).trans (va_up_self _ _ _)
  refine g_vret C hr hH (Nat.le_of_ble_eq_true rfl) (Nat.le_of_ble_eq_true rfl) dX4_init_30 ?_
  refine ⟨_, _, h26, ?_, ?_⟩
  · exact fun b hb => (sb16 _ (sb5 _ hb))
  · intro b hb hbq
    have h27 : b ≠ q1 := g_neL hb n2
    have h28 : f3 b = f b := ((congrFun ef3 b).trans (va_up_ne _ _ (g_neL hb n2))).trans rfl
    have h29 : b ∈ L4 := sb5 _ hb
    have h30 : f10 b = f b := ((congrFun ef10 b).trans (va_up_ne _ _ hbq)).trans h28
    have h31 : b ≠ q12 := g_neL h29 n13
    have h32 : f14 b = f b := ((congrFun ef14 b).trans (va_up_ne _ _ (g_neL h29 n13))).trans h30
    have h33 : b ∈ L15 := sb16 _ h29
    have h34 : f21 b = f b := ((congrFun ef21 b).trans (va_up_ne _ _ hbq)).trans h32
    have h35 : f23 b = f b := ((congrFun ef23 b).trans (va_up_ne _ _ hbq)).trans h34
    have h36 : f25 b = f b := ((congrFun ef25 b).trans (va_up_ne _ _ hbq)).trans h35
    exact h36
set_option maxHeartbeats 4000000 in
set_option maxRecDepth 100000 in
theorem k_Clues (l : Launch) (E : gE) (L : List Nat) (f : gF) {q r0 r1 : Nat} (mq : q ∈ L) (fq : f q = .inr (0, [.null, .null, .null, .null])) : gMv l E yX0_init cX0_init 3 (gRm 1 2 84) [.ref q, .ref r0, .ref r1] L f (fun L1 f1 => (∀ b ∈ L, b ∈ L1) ∧ (∀ b ∈ L, b ≠ q → f1 b = f b)) := by
  refine gMv.intro (by decide) (Nat.le_of_ble_eq_true rfl) ?_
  intro p e s m below meth c A ls C hr hnm hA hH hl
  have C : gC E cX0_init 3 RX0 p s m _ meth c := C
  have hl : lv_has ls 3 [(0, .ref q), (1, .ref r0), (2, .ref r1)] := hl
  have hx := C.1
  have hb := C.2.1
  refine lv_aload_n hx hb dX0_init_0 rfl (lv_at hl 0 rfl) ?_
  refine g_obj C hl.1 wd173 wd154 wd155 dX0_init_1 (Nat.le_of_ble_eq_true rfl) (Nat.le_of_ble_eq_true rfl) ?_
  refine lv_aload_n hx hb dX0_init_4 rfl (lv_at hl 0 rfl) ?_
  refine lv_bipush (v := (80 : Int32)) hx hb dX0_init_5 (by decide) ?_
  refine g_newa C hH hA 1 rfl (fun _ _ h => h) wd156 rfl (N' := 80) (a0 := (80, (.inl (fun _ => 0)))) (avI 80) (by decide) (by decide) (Nat.le_of_ble_eq_true rfl) (Nat.le_of_ble_eq_true rfl) (Nat.le_of_ble_eq_true rfl) dX0_init_7 (fun q1 H n2 hH => ?_)
  obtain ⟨f3, ef3⟩ : ∃ z : gF, z = va_up f q1 (.inl (E.2.2 1, 80, .inl (fun _ => 0))) := ⟨_, rfl⟩
  obtain ⟨L4, eL4⟩ : ∃ z : List Nat, z = L ++ [q1] := ⟨_, rfl⟩
  have hH := g_re ef3 eL4 hH
  have sb5 : ∀ b ∈ L, b ∈ L4 := fun b h => by rw [eL4]; exact List.mem_append_left _ h
  have h6 : q1 ∈ L4 := by rw [eL4]; exact List.mem_append_right _ List.mem_cons_self
  have h7 : f3 q1 = .inl (E.2.2 1, 80, .inl (fun _ => 0)) := (congrFun ef3 q1).trans (va_up_self _ _ _)
  have h8 : f3 q = .inr (0, [.null, .null, .null, .null]) := ((congrFun ef3 q).trans (va_up_ne _ _ (g_neL mq n2))).trans fq
  have h9 : q ∈ L4 := sb5 _ mq
  refine g_putF C hH h9 h8 iX0 tyX0 tyX0_ok nmX0 rfl 2 (by decide) wd174 rfl rfl hnm rfl rfl rfl (Nat.le_of_ble_eq_true rfl) (fs' := [.null, .null, .ref q1, .null]) rfl dX0_init_9 (fun H locs hH => ?_)
  obtain ⟨f10, ef10⟩ : ∃ z : gF, z = va_up f3 q (.inr (0, [.null, .null, .ref q1, .null])) := ⟨_, rfl⟩
  have hH : gH E A L4 f10 s.heap H locs := by rw [ef10]; exact hH
  have h11 : f10 q = .inr (0, [.null, .null, .ref q1, .null]) := (congrFun ef10 q).trans (va_up_self _ _ _)
  refine lv_aload_n hx hb dX0_init_12 rfl (lv_at hl 0 rfl) ?_
  refine lv_iconst (v := (4 : Int32)) hx hb dX0_init_13 (by decide) ?_
  refine g_newa C hH hA 1 rfl (fun _ _ h => h) wd156 rfl (N' := 4) (a0 := (4, (.inl (fun _ => 0)))) (avI 4) (by decide) (by decide) (Nat.le_of_ble_eq_true rfl) (Nat.le_of_ble_eq_true rfl) (Nat.le_of_ble_eq_true rfl) dX0_init_14 (fun q12 H n13 hH => ?_)
  obtain ⟨f14, ef14⟩ : ∃ z : gF, z = va_up f10 q12 (.inl (E.2.2 1, 4, .inl (fun _ => 0))) := ⟨_, rfl⟩
  obtain ⟨L15, eL15⟩ : ∃ z : List Nat, z = L4 ++ [q12] := ⟨_, rfl⟩
  have hH := g_re ef14 eL15 hH
  have sb16 : ∀ b ∈ L4, b ∈ L15 := fun b h => by rw [eL15]; exact List.mem_append_left _ h
  have h17 : q12 ∈ L15 := by rw [eL15]; exact List.mem_append_right _ List.mem_cons_self
  have h18 : f14 q12 = .inl (E.2.2 1, 4, .inl (fun _ => 0)) := (congrFun ef14 q12).trans (va_up_self _ _ _)
  have h19 : f14 q = .inr (0, [.null, .null, .ref q1, .null]) := ((congrFun ef14 q).trans (va_up_ne _ _ (g_neL h9 n13))).trans h11
  have h20 : q ∈ L15 := sb16 _ h9
  refine g_putF C hH h20 h19 iX0 tyX0 tyX0_ok nmX0 rfl 3 (by decide) wd175 rfl rfl hnm rfl rfl rfl (Nat.le_of_ble_eq_true rfl) (fs' := [.null, .null, .ref q1, .ref q12]) rfl dX0_init_16 (fun H locs hH => ?_)
  obtain ⟨f21, ef21⟩ : ∃ z : gF, z = va_up f14 q (.inr (0, [.null, .null, .ref q1, .ref q12])) := ⟨_, rfl⟩
  have hH : gH E A L15 f21 s.heap H locs := by rw [ef21]; exact hH
  have h22 : f21 q = .inr (0, [.null, .null, .ref q1, .ref q12]) := (congrFun ef21 q).trans (va_up_self _ _ _)
  refine lv_aload_n hx hb dX0_init_19 rfl (lv_at hl 0 rfl) ?_
  refine lv_aload_n hx hb dX0_init_20 rfl (lv_at hl 1 rfl) ?_
  refine g_putF C hH h20 h22 iX0 tyX0 tyX0_ok nmX0 rfl 0 (by decide) wd176 rfl rfl hnm rfl rfl rfl (Nat.le_of_ble_eq_true rfl) (fs' := [.ref r0, .null, .ref q1, .ref q12]) rfl dX0_init_21 (fun H locs hH => ?_)
  obtain ⟨f23, ef23⟩ : ∃ z : gF, z = va_up f21 q (.inr (0, [.ref r0, .null, .ref q1, .ref q12])) := ⟨_, rfl⟩
  have hH : gH E A L15 f23 s.heap H locs := by rw [ef23]; exact hH
  have h24 : f23 q = .inr (0, [.ref r0, .null, .ref q1, .ref q12]) := (congrFun ef23 q).trans (va_up_self _ _ _)
  refine lv_aload_n hx hb dX0_init_24 rfl (lv_at hl 0 rfl) ?_
  refine lv_aload_n hx hb dX0_init_25 rfl (lv_at hl 2 rfl) ?_
  refine g_putF C hH h20 h24 iX0 tyX0 tyX0_ok nmX0 rfl 1 (by decide) wd177 rfl rfl hnm rfl rfl rfl (Nat.le_of_ble_eq_true rfl) (fs' := [.ref r0, .ref r1, .ref q1, .ref q12]) rfl dX0_init_26 (fun H locs hH => ?_)
  obtain ⟨f25, ef25⟩ : ∃ z : gF, z = va_up f23 q (.inr (0, [.ref r0, .ref r1, .ref q1, .ref q12])) := ⟨_, rfl⟩
  have hH : gH E A L15 f25 s.heap H locs := by rw [ef25]; exact hH
  have h26 : f25 q = .inr (0, [.ref r0, .ref r1, .ref q1, .ref q12]) := (congrFun ef25 q).trans (va_up_self _ _ _)
  refine g_vret C hr hH (Nat.le_of_ble_eq_true rfl) (Nat.le_of_ble_eq_true rfl) dX0_init_29 ?_
  refine ⟨?_, ?_⟩
  · exact fun b hb => (sb16 _ (sb5 _ hb))
  · intro b hb hbq
    have h27 : b ≠ q1 := g_neL hb n2
    have h28 : f3 b = f b := ((congrFun ef3 b).trans (va_up_ne _ _ (g_neL hb n2))).trans rfl
    have h29 : b ∈ L4 := sb5 _ hb
    have h30 : f10 b = f b := ((congrFun ef10 b).trans (va_up_ne _ _ hbq)).trans h28
    have h31 : b ≠ q12 := g_neL h29 n13
    have h32 : f14 b = f b := ((congrFun ef14 b).trans (va_up_ne _ _ (g_neL h29 n13))).trans h30
    have h33 : b ∈ L15 := sb16 _ h29
    have h34 : f21 b = f b := ((congrFun ef21 b).trans (va_up_ne _ _ hbq)).trans h32
    have h35 : f23 b = f b := ((congrFun ef23 b).trans (va_up_ne _ _ hbq)).trans h34
    have h36 : f25 b = f b := ((congrFun ef25 b).trans (va_up_ne _ _ hbq)).trans h35
    exact h36
set_option maxHeartbeats 4000000 in
set_option maxRecDepth 100000 in
theorem k_Houses (l : Launch) (E : gE) (L : List Nat) (f : gF) {q r0 r1 : Nat} (mq : q ∈ L) (fq : f q = .inr (2, [.null, .null, .null, .null])) : gMv l E yX2_init cX2_init 3 (gRm 1 2 70) [.ref q, .ref r0, .ref r1] L f (fun L1 f1 => (∀ b ∈ L, b ∈ L1) ∧ (∀ b ∈ L, b ≠ q → f1 b = f b)) := by
  refine gMv.intro (by decide) (Nat.le_of_ble_eq_true rfl) ?_
  intro p e s m below meth c A ls C hr hnm hA hH hl
  have C : gC E cX2_init 3 RX2 p s m _ meth c := C
  have hl : lv_has ls 3 [(0, .ref q), (1, .ref r0), (2, .ref r1)] := hl
  have hx := C.1
  have hb := C.2.1
  refine lv_aload_n hx hb dX2_init_0 rfl (lv_at hl 0 rfl) ?_
  refine g_obj C hl.1 wd178 wd154 wd155 dX2_init_1 (Nat.le_of_ble_eq_true rfl) (Nat.le_of_ble_eq_true rfl) ?_
  refine lv_aload_n hx hb dX2_init_4 rfl (lv_at hl 0 rfl) ?_
  refine lv_bipush (v := (6 : Int32)) hx hb dX2_init_5 (by decide) ?_
  refine g_newa C hH hA 1 rfl (fun _ _ h => h) wd156 rfl (N' := 6) (a0 := (6, (.inl (fun _ => 0)))) (avI 6) (by decide) (by decide) (Nat.le_of_ble_eq_true rfl) (Nat.le_of_ble_eq_true rfl) (Nat.le_of_ble_eq_true rfl) dX2_init_7 (fun q1 H n2 hH => ?_)
  obtain ⟨f3, ef3⟩ : ∃ z : gF, z = va_up f q1 (.inl (E.2.2 1, 6, .inl (fun _ => 0))) := ⟨_, rfl⟩
  obtain ⟨L4, eL4⟩ : ∃ z : List Nat, z = L ++ [q1] := ⟨_, rfl⟩
  have hH := g_re ef3 eL4 hH
  have sb5 : ∀ b ∈ L, b ∈ L4 := fun b h => by rw [eL4]; exact List.mem_append_left _ h
  have h6 : q1 ∈ L4 := by rw [eL4]; exact List.mem_append_right _ List.mem_cons_self
  have h7 : f3 q1 = .inl (E.2.2 1, 6, .inl (fun _ => 0)) := (congrFun ef3 q1).trans (va_up_self _ _ _)
  have h8 : f3 q = .inr (2, [.null, .null, .null, .null]) := ((congrFun ef3 q).trans (va_up_ne _ _ (g_neL mq n2))).trans fq
  have h9 : q ∈ L4 := sb5 _ mq
  refine g_putF C hH h9 h8 iX2 tyX2 tyX2_ok nmX2 rfl 2 (by decide) wd179 rfl rfl hnm rfl rfl rfl (Nat.le_of_ble_eq_true rfl) (fs' := [.null, .null, .ref q1, .null]) rfl dX2_init_9 (fun H locs hH => ?_)
  obtain ⟨f10, ef10⟩ : ∃ z : gF, z = va_up f3 q (.inr (2, [.null, .null, .ref q1, .null])) := ⟨_, rfl⟩
  have hH : gH E A L4 f10 s.heap H locs := by rw [ef10]; exact hH
  have h11 : f10 q = .inr (2, [.null, .null, .ref q1, .null]) := (congrFun ef10 q).trans (va_up_self _ _ _)
  refine lv_aload_n hx hb dX2_init_12 rfl (lv_at hl 0 rfl) ?_
  refine lv_bipush (v := (64 : Int32)) hx hb dX2_init_13 (by decide) ?_
  refine g_newa C hH hA 1 rfl (fun _ _ h => h) wd156 rfl (N' := 64) (a0 := (64, (.inl (fun _ => 0)))) (avI 64) (by decide) (by decide) (Nat.le_of_ble_eq_true rfl) (Nat.le_of_ble_eq_true rfl) (Nat.le_of_ble_eq_true rfl) dX2_init_15 (fun q12 H n13 hH => ?_)
  obtain ⟨f14, ef14⟩ : ∃ z : gF, z = va_up f10 q12 (.inl (E.2.2 1, 64, .inl (fun _ => 0))) := ⟨_, rfl⟩
  obtain ⟨L15, eL15⟩ : ∃ z : List Nat, z = L4 ++ [q12] := ⟨_, rfl⟩
  have hH := g_re ef14 eL15 hH
  have sb16 : ∀ b ∈ L4, b ∈ L15 := fun b h => by rw [eL15]; exact List.mem_append_left _ h
  have h17 : q12 ∈ L15 := by rw [eL15]; exact List.mem_append_right _ List.mem_cons_self
  have h18 : f14 q12 = .inl (E.2.2 1, 64, .inl (fun _ => 0)) := (congrFun ef14 q12).trans (va_up_self _ _ _)
  have h19 : f14 q = .inr (2, [.null, .null, .ref q1, .null]) := ((congrFun ef14 q).trans (va_up_ne _ _ (g_neL h9 n13))).trans h11
  have h20 : q ∈ L15 := sb16 _ h9
  refine g_putF C hH h20 h19 iX2 tyX2 tyX2_ok nmX2 rfl 3 (by decide) wd180 rfl rfl hnm rfl rfl rfl (Nat.le_of_ble_eq_true rfl) (fs' := [.null, .null, .ref q1, .ref q12]) rfl dX2_init_17 (fun H locs hH => ?_)
  obtain ⟨f21, ef21⟩ : ∃ z : gF, z = va_up f14 q (.inr (2, [.null, .null, .ref q1, .ref q12])) := ⟨_, rfl⟩
  have hH : gH E A L15 f21 s.heap H locs := by rw [ef21]; exact hH
  have h22 : f21 q = .inr (2, [.null, .null, .ref q1, .ref q12]) := (congrFun ef21 q).trans (va_up_self _ _ _)
  refine lv_aload_n hx hb dX2_init_20 rfl (lv_at hl 0 rfl) ?_
  refine lv_aload_n hx hb dX2_init_21 rfl (lv_at hl 1 rfl) ?_
  refine g_putF C hH h20 h22 iX2 tyX2 tyX2_ok nmX2 rfl 0 (by decide) wd181 rfl rfl hnm rfl rfl rfl (Nat.le_of_ble_eq_true rfl) (fs' := [.ref r0, .null, .ref q1, .ref q12]) rfl dX2_init_22 (fun H locs hH => ?_)
  obtain ⟨f23, ef23⟩ : ∃ z : gF, z = va_up f21 q (.inr (2, [.ref r0, .null, .ref q1, .ref q12])) := ⟨_, rfl⟩
  have hH : gH E A L15 f23 s.heap H locs := by rw [ef23]; exact hH
  have h24 : f23 q = .inr (2, [.ref r0, .null, .ref q1, .ref q12]) := (congrFun ef23 q).trans (va_up_self _ _ _)
  refine lv_aload_n hx hb dX2_init_25 rfl (lv_at hl 0 rfl) ?_
  refine lv_aload_n hx hb dX2_init_26 rfl (lv_at hl 2 rfl) ?_
  refine g_putF C hH h20 h24 iX2 tyX2 tyX2_ok nmX2 rfl 1 (by decide) wd182 rfl rfl hnm rfl rfl rfl (Nat.le_of_ble_eq_true rfl) (fs' := [.ref r0, .ref r1, .ref q1, .ref q12]) rfl dX2_init_27 (fun H locs hH => ?_)
  obtain ⟨f25, ef25⟩ : ∃ z : gF, z = va_up f23 q (.inr (2, [.ref r0, .ref r1, .ref q1, .ref q12])) := ⟨_, rfl⟩
  have hH : gH E A L15 f25 s.heap H locs := by rw [ef25]; exact hH
  have h26 : f25 q = .inr (2, [.ref r0, .ref r1, .ref q1, .ref q12]) := (congrFun ef25 q).trans (va_up_self _ _ _)
  refine g_vret C hr hH (Nat.le_of_ble_eq_true rfl) (Nat.le_of_ble_eq_true rfl) dX2_init_30 ?_
  refine ⟨?_, ?_⟩
  · exact fun b hb => (sb16 _ (sb5 _ hb))
  · intro b hb hbq
    have h27 : b ≠ q1 := g_neL hb n2
    have h28 : f3 b = f b := ((congrFun ef3 b).trans (va_up_ne _ _ (g_neL hb n2))).trans rfl
    have h29 : b ∈ L4 := sb5 _ hb
    have h30 : f10 b = f b := ((congrFun ef10 b).trans (va_up_ne _ _ hbq)).trans h28
    have h31 : b ≠ q12 := g_neL h29 n13
    have h32 : f14 b = f b := ((congrFun ef14 b).trans (va_up_ne _ _ (g_neL h29 n13))).trans h30
    have h33 : b ∈ L15 := sb16 _ h29
    have h34 : f21 b = f b := ((congrFun ef21 b).trans (va_up_ne _ _ hbq)).trans h32
    have h35 : f23 b = f b := ((congrFun ef23 b).trans (va_up_ne _ _ hbq)).trans h34
    have h36 : f25 b = f b := ((congrFun ef25 b).trans (va_up_ne _ _ hbq)).trans h35
    exact h36
set_option maxHeartbeats 4000000 in
set_option maxRecDepth 100000 in
theorem k_Fog (l : Launch) (E : gE) (L : List Nat) (f : gF) {q r0 r1 : Nat} (mq : q ∈ L) (fq : f q = .inr (1, [.null, .null])) : gMv l E yX1_init cX1_init 3 (gRm 1 0 0) [.ref q, .ref r0, .ref r1] L f (fun L1 f1 => (∀ b ∈ L, b ∈ L1) ∧ (∀ b ∈ L, b ≠ q → f1 b = f b)) := by
  refine gMv.intro (by decide) (Nat.le_of_ble_eq_true rfl) ?_
  intro p e s m below meth c A ls C hr hnm hA hH hl
  have C : gC E cX1_init 3 RX1 p s m _ meth c := C
  have hl : lv_has ls 3 [(0, .ref q), (1, .ref r0), (2, .ref r1)] := hl
  have hx := C.1
  have hb := C.2.1
  refine lv_aload_n hx hb dX1_init_0 rfl (lv_at hl 0 rfl) ?_
  refine g_obj C hl.1 wd183 wd154 wd155 dX1_init_1 (Nat.le_of_ble_eq_true rfl) (Nat.le_of_ble_eq_true rfl) ?_
  refine lv_aload_n hx hb dX1_init_4 rfl (lv_at hl 0 rfl) ?_
  refine lv_aload_n hx hb dX1_init_5 rfl (lv_at hl 1 rfl) ?_
  refine g_putF C hH mq fq iX1 tyX1 tyX1_ok nmX1 rfl 0 (by decide) wd184 rfl rfl hnm rfl rfl rfl (Nat.le_of_ble_eq_true rfl) (fs' := [.ref r0, .null]) rfl dX1_init_6 (fun H locs hH => ?_)
  obtain ⟨f1, ef1⟩ : ∃ z : gF, z = va_up f q (.inr (1, [.ref r0, .null])) := ⟨_, rfl⟩
  have hH : gH E A L f1 s.heap H locs := by rw [ef1]; exact hH
  have h2 : f1 q = .inr (1, [.ref r0, .null]) := (congrFun ef1 q).trans (va_up_self _ _ _)
  refine lv_aload_n hx hb dX1_init_9 rfl (lv_at hl 0 rfl) ?_
  refine lv_aload_n hx hb dX1_init_10 rfl (lv_at hl 2 rfl) ?_
  refine g_putF C hH mq h2 iX1 tyX1 tyX1_ok nmX1 rfl 1 (by decide) wd185 rfl rfl hnm rfl rfl rfl (Nat.le_of_ble_eq_true rfl) (fs' := [.ref r0, .ref r1]) rfl dX1_init_11 (fun H locs hH => ?_)
  obtain ⟨f3, ef3⟩ : ∃ z : gF, z = va_up f1 q (.inr (1, [.ref r0, .ref r1])) := ⟨_, rfl⟩
  have hH : gH E A L f3 s.heap H locs := by rw [ef3]; exact hH
  have h4 : f3 q = .inr (1, [.ref r0, .ref r1]) := (congrFun ef3 q).trans (va_up_self _ _ _)
  refine g_vret C hr hH (Nat.le_of_ble_eq_true rfl) (Nat.le_of_ble_eq_true rfl) dX1_init_14 ?_
  refine ⟨?_, ?_⟩
  · exact fun b hb => hb
  · intro b hb hbq
    have h5 : f1 b = f b := ((congrFun ef1 b).trans (va_up_ne _ _ hbq)).trans rfl
    have h6 : f3 b = f b := ((congrFun ef3 b).trans (va_up_ne _ _ hbq)).trans h5
    exact h6
set_option maxHeartbeats 4000000 in
set_option maxRecDepth 100000 in
theorem k_Desk (l : Launch) (E : gE) (L : List Nat) (f : gF) {q : Nat} (mq : q ∈ L) (fq : f q = .inr (9, [.null, .null, .null, .null, .null, .null, .null, .null, .null, .null, .null])) : gMv l E yX9_init cX9_init 2 (gRm 3 84 2671) [.ref q] L f (fun L1 f1 => gFresh E L1 f1 q ∧ (∀ b ∈ L, b ∈ L1) ∧ (∀ b ∈ L, b ≠ q → f1 b = f b)) := by
  refine gMv.intro (by decide) (Nat.le_of_ble_eq_true rfl) ?_
  intro p e s m below meth c A ls C hr hnm hA hH hl
  have C : gC E cX9_init 2 RX9 p s m _ meth c := C
  have hl : lv_has ls 2 [(0, .ref q)] := hl
  have hx := C.1
  have hb := C.2.1
  refine lv_aload_n hx hb dX9_init_0 rfl (lv_at hl 0 rfl) ?_
  refine g_obj C hl.1 wd186 wd154 wd155 dX9_init_1 (Nat.le_of_ble_eq_true rfl) (Nat.le_of_ble_eq_true rfl) ?_
  refine lv_aload_n hx hb dX9_init_4 rfl (lv_at hl 0 rfl) ?_
  refine g_new C hH hA (ci := 8) iX8 tyX8 tyX8_ok wd187 wd188 wd58 rfl (fs := [.null, .int (0 : Int32)]) (dvX8) (Nat.le_of_ble_eq_true rfl) (Nat.le_of_ble_eq_true rfl) dX9_init_5 (fun q1 H n2 hH => ?_)
  obtain ⟨f3, ef3⟩ : ∃ z : gF, z = va_up f q1 (.inr (8, [.null, .int (0 : Int32)])) := ⟨_, rfl⟩
  obtain ⟨L4, eL4⟩ : ∃ z : List Nat, z = L ++ [q1] := ⟨_, rfl⟩
  have hH := g_re ef3 eL4 hH
  have sb5 : ∀ b ∈ L, b ∈ L4 := fun b h => by rw [eL4]; exact List.mem_append_left _ h
  have h6 : q1 ∈ L4 := by rw [eL4]; exact List.mem_append_right _ List.mem_cons_self
  have h7 : f3 q1 = .inr (8, [.null, .int (0 : Int32)]) := (congrFun ef3 q1).trans (va_up_self _ _ _)
  refine lv_dup hx hb dX9_init_8 rfl ?_
  refine g_INv C hl.1 hA hH (As := []) (rest := [.ref q1, .ref q]) (k_Tape l E L4 f3 h6 h7) my_X8_init (host := "GooseShares") (List.mem_of_getElem? (i := 0) rfl) rfl rfl (Nat.le_of_ble_eq_true rfl) ⟨Nat.le_of_ble_eq_true rfl, Nat.le_of_ble_eq_true rfl⟩ ⟨Nat.le_of_ble_eq_true rfl, Nat.le_of_ble_eq_true rfl⟩ dX9_init_9 (fun L9 f8 H locs hp hH => ?_)
  obtain ⟨q10, h11, h12, h13, sb14, k15⟩ := hp
  have h16 := sb14 _ h6
  have h17 : f3 q = .inr (9, [.null, .null, .null, .null, .null, .null, .null, .null, .null, .null, .null]) := ((congrFun ef3 q).trans (va_up_ne _ _ (g_neL mq n2))).trans fq
  have h18 : q ∈ L4 := sb5 _ mq
  have h19 : f8 q = .inr (9, [.null, .null, .null, .null, .null, .null, .null, .null, .null, .null, .null]) := (k15 q h18 (g_neO h17 h7 (by decide))).trans h17
  have h20 : q ∈ L9 := sb14 _ h18
  refine g_putF C hH h20 h19 iX9 tyX9 tyX9_ok nmX9 rfl 0 (by decide) wd54 rfl rfl hnm rfl rfl rfl (Nat.le_of_ble_eq_true rfl) (fs' := [.ref q1, .null, .null, .null, .null, .null, .null, .null, .null, .null, .null]) rfl dX9_init_12 (fun H locs hH => ?_)
  obtain ⟨f21, ef21⟩ : ∃ z : gF, z = va_up f8 q (.inr (9, [.ref q1, .null, .null, .null, .null, .null, .null, .null, .null, .null, .null])) := ⟨_, rfl⟩
  have hH : gH E A L9 f21 s.heap H locs := by rw [ef21]; exact hH
  have h22 : f21 q = .inr (9, [.ref q1, .null, .null, .null, .null, .null, .null, .null, .null, .null, .null]) := (congrFun ef21 q).trans (va_up_self _ _ _)
  refine lv_aload_n hx hb dX9_init_15 rfl (lv_at hl 0 rfl) ?_
  refine g_new C hH hA (ci := 3) iX3 tyX3 tyX3_ok wd191 wd192 wd7 rfl (fs := [.int (0 : Int32), .int (0 : Int32), .int (0 : Int32), .int (0 : Int32), .int (0 : Int32), .int (0 : Int32), .int (0 : Int32), .int (0 : Int32), .int (0 : Int32), .int (0 : Int32), .null, .null, .null, .null, .null, .null, .null, .null, .null, .null]) (dvX3) (Nat.le_of_ble_eq_true rfl) (Nat.le_of_ble_eq_true rfl) dX9_init_16 (fun q23 H n24 hH => ?_)
  obtain ⟨f25, ef25⟩ : ∃ z : gF, z = va_up f21 q23 (.inr (3, [.int (0 : Int32), .int (0 : Int32), .int (0 : Int32), .int (0 : Int32), .int (0 : Int32), .int (0 : Int32), .int (0 : Int32), .int (0 : Int32), .int (0 : Int32), .int (0 : Int32), .null, .null, .null, .null, .null, .null, .null, .null, .null, .null])) := ⟨_, rfl⟩
  obtain ⟨L26, eL26⟩ : ∃ z : List Nat, z = L9 ++ [q23] := ⟨_, rfl⟩
  have hH := g_re ef25 eL26 hH
  have sb27 : ∀ b ∈ L9, b ∈ L26 := fun b h => by rw [eL26]; exact List.mem_append_left _ h
  have h28 : q23 ∈ L26 := by rw [eL26]; exact List.mem_append_right _ List.mem_cons_self
  have h29 : f25 q23 = .inr (3, [.int (0 : Int32), .int (0 : Int32), .int (0 : Int32), .int (0 : Int32), .int (0 : Int32), .int (0 : Int32), .int (0 : Int32), .int (0 : Int32), .int (0 : Int32), .int (0 : Int32), .null, .null, .null, .null, .null, .null, .null, .null, .null, .null]) := (congrFun ef25 q23).trans (va_up_self _ _ _)
  refine lv_dup hx hb dX9_init_19 rfl ?_
  refine g_INv C hl.1 hA hH (As := []) (rest := [.ref q23, .ref q]) (k_Land l E L26 f25 h28 h29) my_X3_init (host := "GooseShares") (List.mem_of_getElem? (i := 1) rfl) rfl rfl (Nat.le_of_ble_eq_true rfl) ⟨Nat.le_of_ble_eq_true rfl, Nat.le_of_ble_eq_true rfl⟩ ⟨Nat.le_of_ble_eq_true rfl, Nat.le_of_ble_eq_true rfl⟩ dX9_init_20 (fun L31 f30 H locs hp hH => ?_)
  obtain ⟨na32, h33, h34, sb35, k36⟩ := hp
  have h37 := sb35 _ h28
  have h38 : f25 q = .inr (9, [.ref q1, .null, .null, .null, .null, .null, .null, .null, .null, .null, .null]) := ((congrFun ef25 q).trans (va_up_ne _ _ (g_neL h20 n24))).trans h22
  have h39 : q ∈ L26 := sb27 _ h20
  have h40 : f30 q = .inr (9, [.ref q1, .null, .null, .null, .null, .null, .null, .null, .null, .null, .null]) := (k36 q h39 (g_neO h38 h29 (by decide))).trans h38
  have h41 : q ∈ L31 := sb35 _ h39
  refine g_putF C hH h41 h40 iX9 tyX9 tyX9_ok nmX9 rfl 1 (by decide) wd18 rfl rfl hnm rfl rfl rfl (Nat.le_of_ble_eq_true rfl) (fs' := [.ref q1, .ref q23, .null, .null, .null, .null, .null, .null, .null, .null, .null]) rfl dX9_init_23 (fun H locs hH => ?_)
  obtain ⟨f42, ef42⟩ : ∃ z : gF, z = va_up f30 q (.inr (9, [.ref q1, .ref q23, .null, .null, .null, .null, .null, .null, .null, .null, .null])) := ⟨_, rfl⟩
  have hH : gH E A L31 f42 s.heap H locs := by rw [ef42]; exact hH
  have h43 : f42 q = .inr (9, [.ref q1, .ref q23, .null, .null, .null, .null, .null, .null, .null, .null, .null]) := (congrFun ef42 q).trans (va_up_self _ _ _)
  refine lv_aload_n hx hb dX9_init_26 rfl (lv_at hl 0 rfl) ?_
  refine g_new C hH hA (ci := 5) iX5 tyX5 tyX5_ok wd195 wd196 wd134 rfl (fs := [.null, .null, .int (0 : Int32), .int (0 : Int32), .int (0 : Int32), .int (0 : Int32), .int (0 : Int32)]) (dvX5) (Nat.le_of_ble_eq_true rfl) (Nat.le_of_ble_eq_true rfl) dX9_init_27 (fun q44 H n45 hH => ?_)
  obtain ⟨f46, ef46⟩ : ∃ z : gF, z = va_up f42 q44 (.inr (5, [.null, .null, .int (0 : Int32), .int (0 : Int32), .int (0 : Int32), .int (0 : Int32), .int (0 : Int32)])) := ⟨_, rfl⟩
  obtain ⟨L47, eL47⟩ : ∃ z : List Nat, z = L31 ++ [q44] := ⟨_, rfl⟩
  have hH := g_re ef46 eL47 hH
  have sb48 : ∀ b ∈ L31, b ∈ L47 := fun b h => by rw [eL47]; exact List.mem_append_left _ h
  have h49 : q44 ∈ L47 := by rw [eL47]; exact List.mem_append_right _ List.mem_cons_self
  have h50 : f46 q44 = .inr (5, [.null, .null, .int (0 : Int32), .int (0 : Int32), .int (0 : Int32), .int (0 : Int32), .int (0 : Int32)]) := (congrFun ef46 q44).trans (va_up_self _ _ _)
  refine lv_dup hx hb dX9_init_30 rfl ?_
  refine lv_aload_n hx hb dX9_init_31 rfl (lv_at hl 0 rfl) ?_
  have h51 : f46 q = .inr (9, [.ref q1, .ref q23, .null, .null, .null, .null, .null, .null, .null, .null, .null]) := ((congrFun ef46 q).trans (va_up_ne _ _ (g_neL h41 n45))).trans h43
  have h52 : q ∈ L47 := sb48 _ h41
  refine g_get C hH h52 h51 iX9 rfl 0 (by decide) wd54 rfl rfl dX9_init_32 ?_
  refine g_new C hH hA (ci := 3) iX3 tyX3 tyX3_ok wd191 wd192 wd7 rfl (fs := [.int (0 : Int32), .int (0 : Int32), .int (0 : Int32), .int (0 : Int32), .int (0 : Int32), .int (0 : Int32), .int (0 : Int32), .int (0 : Int32), .int (0 : Int32), .int (0 : Int32), .null, .null, .null, .null, .null, .null, .null, .null, .null, .null]) (dvX3) (Nat.le_of_ble_eq_true rfl) (Nat.le_of_ble_eq_true rfl) dX9_init_35 (fun q53 H n54 hH => ?_)
  obtain ⟨f55, ef55⟩ : ∃ z : gF, z = va_up f46 q53 (.inr (3, [.int (0 : Int32), .int (0 : Int32), .int (0 : Int32), .int (0 : Int32), .int (0 : Int32), .int (0 : Int32), .int (0 : Int32), .int (0 : Int32), .int (0 : Int32), .int (0 : Int32), .null, .null, .null, .null, .null, .null, .null, .null, .null, .null])) := ⟨_, rfl⟩
  obtain ⟨L56, eL56⟩ : ∃ z : List Nat, z = L47 ++ [q53] := ⟨_, rfl⟩
  have hH := g_re ef55 eL56 hH
  have sb57 : ∀ b ∈ L47, b ∈ L56 := fun b h => by rw [eL56]; exact List.mem_append_left _ h
  have h58 : f42 q23 = .inr (3, [.int (0 : Int32), .int (0 : Int32), .int (0 : Int32), .int (0 : Int32), .int (0 : Int32), .int (0 : Int32), .int (0 : Int32), .int (0 : Int32), .int (0 : Int32), .int (0 : Int32), .ref (na32 0), .ref (na32 1), .ref (na32 2), .ref (na32 3), .ref (na32 4), .ref (na32 5), .ref (na32 6), .ref (na32 7), .ref (na32 8), .ref (na32 9)]) := ((congrFun ef42 q23).trans (va_up_ne _ _ (g_neO h33 h40 (by decide)))).trans h33
  have h59 : f46 q23 = .inr (3, [.int (0 : Int32), .int (0 : Int32), .int (0 : Int32), .int (0 : Int32), .int (0 : Int32), .int (0 : Int32), .int (0 : Int32), .int (0 : Int32), .int (0 : Int32), .int (0 : Int32), .ref (na32 0), .ref (na32 1), .ref (na32 2), .ref (na32 3), .ref (na32 4), .ref (na32 5), .ref (na32 6), .ref (na32 7), .ref (na32 8), .ref (na32 9)]) := ((congrFun ef46 q23).trans (va_up_ne _ _ (g_neL h37 n45))).trans h58
  have h60 : q23 ∈ L47 := sb48 _ h37
  have h61 : q23 ≠ q53 := g_neL h60 n54
  have h62 : q53 ∈ L56 := by rw [eL56]; exact List.mem_append_right _ List.mem_cons_self
  have h63 : f55 q53 = .inr (3, [.int (0 : Int32), .int (0 : Int32), .int (0 : Int32), .int (0 : Int32), .int (0 : Int32), .int (0 : Int32), .int (0 : Int32), .int (0 : Int32), .int (0 : Int32), .int (0 : Int32), .null, .null, .null, .null, .null, .null, .null, .null, .null, .null]) := (congrFun ef55 q53).trans (va_up_self _ _ _)
  refine lv_dup hx hb dX9_init_38 rfl ?_
  refine g_INv C hl.1 hA hH (As := []) (rest := [.ref q53, .ref q1, .ref q44, .ref q44, .ref q]) (k_Land l E L56 f55 h62 h63) my_X3_init (host := "GooseShares") (List.mem_of_getElem? (i := 1) rfl) rfl rfl (Nat.le_of_ble_eq_true rfl) ⟨Nat.le_of_ble_eq_true rfl, Nat.le_of_ble_eq_true rfl⟩ ⟨Nat.le_of_ble_eq_true rfl, Nat.le_of_ble_eq_true rfl⟩ dX9_init_39 (fun L65 f64 H locs hp hH => ?_)
  obtain ⟨na66, h67, h68, sb69, k70⟩ := hp
  have h71 := sb69 _ h62
  have h72 : f55 q44 = .inr (5, [.null, .null, .int (0 : Int32), .int (0 : Int32), .int (0 : Int32), .int (0 : Int32), .int (0 : Int32)]) := ((congrFun ef55 q44).trans (va_up_ne _ _ (g_neL h49 n54))).trans h50
  have h73 : q44 ∈ L56 := sb57 _ h49
  have h74 : f64 q44 = .inr (5, [.null, .null, .int (0 : Int32), .int (0 : Int32), .int (0 : Int32), .int (0 : Int32), .int (0 : Int32)]) := (k70 q44 h73 (g_neO h72 h63 (by decide))).trans h72
  have h75 : q44 ∈ L65 := sb69 _ h73
  refine g_Iv C hl.1 hA hH (As := [.ref q1, .ref q53]) (rest := [.ref q44, .ref q]) (k_Reader l E L65 f64 h75 h74) my_X5_init wd199 rfl rfl (Nat.le_of_ble_eq_true rfl) ⟨Nat.le_of_ble_eq_true rfl, Nat.le_of_ble_eq_true rfl⟩ ⟨Nat.le_of_ble_eq_true rfl, Nat.le_of_ble_eq_true rfl⟩ dX9_init_42 (fun L77 f76 H locs hp hH => ?_)
  obtain ⟨h78, sb79, k80⟩ := hp
  have h81 := sb79 _ h75
  have h82 : f55 q = .inr (9, [.ref q1, .ref q23, .null, .null, .null, .null, .null, .null, .null, .null, .null]) := ((congrFun ef55 q).trans (va_up_ne _ _ (g_neL h52 n54))).trans h51
  have h83 : q ∈ L56 := sb57 _ h52
  have h84 : f64 q = .inr (9, [.ref q1, .ref q23, .null, .null, .null, .null, .null, .null, .null, .null, .null]) := (k70 q h83 (g_neO h82 h63 (by decide))).trans h82
  have h85 : q ∈ L65 := sb69 _ h83
  have h86 : f76 q = .inr (9, [.ref q1, .ref q23, .null, .null, .null, .null, .null, .null, .null, .null, .null]) := (k80 q h85 (g_neO h84 h74 (by decide))).trans h84
  have h87 : q ∈ L77 := sb79 _ h85
  refine g_putF C hH h87 h86 iX9 tyX9 tyX9_ok nmX9 rfl 2 (by decide) wd61 rfl rfl hnm rfl rfl rfl (Nat.le_of_ble_eq_true rfl) (fs' := [.ref q1, .ref q23, .ref q44, .null, .null, .null, .null, .null, .null, .null, .null]) rfl dX9_init_45 (fun H locs hH => ?_)
  obtain ⟨f88, ef88⟩ : ∃ z : gF, z = va_up f76 q (.inr (9, [.ref q1, .ref q23, .ref q44, .null, .null, .null, .null, .null, .null, .null, .null])) := ⟨_, rfl⟩
  have hH : gH E A L77 f88 s.heap H locs := by rw [ef88]; exact hH
  have h89 : f88 q = .inr (9, [.ref q1, .ref q23, .ref q44, .null, .null, .null, .null, .null, .null, .null, .null]) := (congrFun ef88 q).trans (va_up_self _ _ _)
  refine lv_aload_n hx hb dX9_init_48 rfl (lv_at hl 0 rfl) ?_
  refine lv_iconst (v := (3 : Int32)) hx hb dX9_init_49 (by decide) ?_
  refine g_newq C hH hA 4 rfl wd191 (fun h => h.2.2.1) (N' := 3) (by decide) (by decide) (Nat.le_of_ble_eq_true rfl) (Nat.le_of_ble_eq_true rfl) (Nat.le_of_ble_eq_true rfl) dX9_init_50 (fun q90 H n91 hH => ?_)
  obtain ⟨f92, ef92⟩ : ∃ z : gF, z = va_up f88 q90 (.inl (E.2.2 4, 3, .inr (.inr (.inr (.inr (fun _ => none)))))) := ⟨_, rfl⟩
  obtain ⟨L93, eL93⟩ : ∃ z : List Nat, z = L77 ++ [q90] := ⟨_, rfl⟩
  have hH := g_re ef92 eL93 hH
  have sb94 : ∀ b ∈ L77, b ∈ L93 := fun b h => by rw [eL93]; exact List.mem_append_left _ h
  have h95 : q90 ∈ L93 := by rw [eL93]; exact List.mem_append_right _ List.mem_cons_self
  have h96 : f92 q90 = .inl (E.2.2 4, 3, .inr (.inr (.inr (.inr (fun _ => none))))) := (congrFun ef92 q90).trans (va_up_self _ _ _)
  have h97 : f92 q = .inr (9, [.ref q1, .ref q23, .ref q44, .null, .null, .null, .null, .null, .null, .null, .null]) := ((congrFun ef92 q).trans (va_up_ne _ _ (g_neL h87 n91))).trans h89
  have h98 : q ∈ L93 := sb94 _ h87
  refine g_putF C hH h98 h97 iX9 tyX9 tyX9_ok nmX9 rfl 3 (by decide) wd114 rfl rfl hnm rfl rfl rfl (Nat.le_of_ble_eq_true rfl) (fs' := [.ref q1, .ref q23, .ref q44, .ref q90, .null, .null, .null, .null, .null, .null, .null]) rfl dX9_init_53 (fun H locs hH => ?_)
  obtain ⟨f99, ef99⟩ : ∃ z : gF, z = va_up f92 q (.inr (9, [.ref q1, .ref q23, .ref q44, .ref q90, .null, .null, .null, .null, .null, .null, .null])) := ⟨_, rfl⟩
  have hH : gH E A L93 f99 s.heap H locs := by rw [ef99]; exact hH
  have h100 : f99 q = .inr (9, [.ref q1, .ref q23, .ref q44, .ref q90, .null, .null, .null, .null, .null, .null, .null]) := (congrFun ef99 q).trans (va_up_self _ _ _)
  refine lv_aload_n hx hb dX9_init_56 rfl (lv_at hl 0 rfl) ?_
  refine lv_iconst (v := (4 : Int32)) hx hb dX9_init_57 (by decide) ?_
  refine g_newq C hH hA 5 rfl wd200 (fun h => h.2.2.2) (N' := 4) (by decide) (by decide) (Nat.le_of_ble_eq_true rfl) (Nat.le_of_ble_eq_true rfl) (Nat.le_of_ble_eq_true rfl) dX9_init_58 (fun q101 H n102 hH => ?_)
  obtain ⟨f103, ef103⟩ : ∃ z : gF, z = va_up f99 q101 (.inl (E.2.2 5, 4, .inr (.inr (.inr (.inr (fun _ => none)))))) := ⟨_, rfl⟩
  obtain ⟨L104, eL104⟩ : ∃ z : List Nat, z = L93 ++ [q101] := ⟨_, rfl⟩
  have hH := g_re ef103 eL104 hH
  have sb105 : ∀ b ∈ L93, b ∈ L104 := fun b h => by rw [eL104]; exact List.mem_append_left _ h
  have h106 : q101 ∈ L104 := by rw [eL104]; exact List.mem_append_right _ List.mem_cons_self
  have h107 : f103 q101 = .inl (E.2.2 5, 4, .inr (.inr (.inr (.inr (fun _ => none))))) := (congrFun ef103 q101).trans (va_up_self _ _ _)
  have h108 : f103 q = .inr (9, [.ref q1, .ref q23, .ref q44, .ref q90, .null, .null, .null, .null, .null, .null, .null]) := ((congrFun ef103 q).trans (va_up_ne _ _ (g_neL h98 n102))).trans h100
  have h109 : q ∈ L104 := sb105 _ h98
  refine g_putF C hH h109 h108 iX9 tyX9 tyX9_ok nmX9 rfl 4 (by decide) wd65 rfl rfl hnm rfl rfl rfl (Nat.le_of_ble_eq_true rfl) (fs' := [.ref q1, .ref q23, .ref q44, .ref q90, .ref q101, .null, .null, .null, .null, .null, .null]) rfl dX9_init_61 (fun H locs hH => ?_)
  obtain ⟨f110, ef110⟩ : ∃ z : gF, z = va_up f103 q (.inr (9, [.ref q1, .ref q23, .ref q44, .ref q90, .ref q101, .null, .null, .null, .null, .null, .null])) := ⟨_, rfl⟩
  have hH : gH E A L104 f110 s.heap H locs := by rw [ef110]; exact hH
  have h111 : f110 q = .inr (9, [.ref q1, .ref q23, .ref q44, .ref q90, .ref q101, .null, .null, .null, .null, .null, .null]) := (congrFun ef110 q).trans (va_up_self _ _ _)
  refine lv_aload_n hx hb dX9_init_64 rfl (lv_at hl 0 rfl) ?_
  refine g_new C hH hA (ci := 7) iX7 tyX7 tyX7_ok wd201 wd202 wd203 rfl (fs := [.null, .null, .null, .null, .null, .int (0 : Int32), .int (0 : Int32), .int (0 : Int32), .int (0 : Int32), .int (0 : Int32)]) (dvX7) (Nat.le_of_ble_eq_true rfl) (Nat.le_of_ble_eq_true rfl) dX9_init_65 (fun q112 H n113 hH => ?_)
  obtain ⟨f114, ef114⟩ : ∃ z : gF, z = va_up f110 q112 (.inr (7, [.null, .null, .null, .null, .null, .int (0 : Int32), .int (0 : Int32), .int (0 : Int32), .int (0 : Int32), .int (0 : Int32)])) := ⟨_, rfl⟩
  obtain ⟨L115, eL115⟩ : ∃ z : List Nat, z = L104 ++ [q112] := ⟨_, rfl⟩
  have hH := g_re ef114 eL115 hH
  have sb116 : ∀ b ∈ L104, b ∈ L115 := fun b h => by rw [eL115]; exact List.mem_append_left _ h
  have h117 : q112 ∈ L115 := by rw [eL115]; exact List.mem_append_right _ List.mem_cons_self
  have h118 : f114 q112 = .inr (7, [.null, .null, .null, .null, .null, .int (0 : Int32), .int (0 : Int32), .int (0 : Int32), .int (0 : Int32), .int (0 : Int32)]) := (congrFun ef114 q112).trans (va_up_self _ _ _)
  refine lv_dup hx hb dX9_init_68 rfl ?_
  refine lv_aload_n hx hb dX9_init_69 rfl (lv_at hl 0 rfl) ?_
  have h119 : f114 q = .inr (9, [.ref q1, .ref q23, .ref q44, .ref q90, .ref q101, .null, .null, .null, .null, .null, .null]) := ((congrFun ef114 q).trans (va_up_ne _ _ (g_neL h109 n113))).trans h111
  have h120 : q ∈ L115 := sb116 _ h109
  refine g_get C hH h120 h119 iX9 rfl 1 (by decide) wd18 rfl rfl dX9_init_70 ?_
  refine g_Iv C hl.1 hA hH (As := [.ref q23]) (rest := [.ref q112, .ref q]) (k_Sky l E L115 f114 h117 h118) my_X7_init wd206 rfl rfl (Nat.le_of_ble_eq_true rfl) ⟨Nat.le_of_ble_eq_true rfl, Nat.le_of_ble_eq_true rfl⟩ ⟨Nat.le_of_ble_eq_true rfl, Nat.le_of_ble_eq_true rfl⟩ dX9_init_73 (fun L122 f121 H locs hp hH => ?_)
  obtain ⟨sb124, k125⟩ := hp
  have h126 : f121 q = .inr (9, [.ref q1, .ref q23, .ref q44, .ref q90, .ref q101, .null, .null, .null, .null, .null, .null]) := (k125 q h120 (g_neO h119 h118 (by decide))).trans h119
  have h127 : q ∈ L122 := sb124 _ h120
  refine g_putF C hH h127 h126 iX9 tyX9 tyX9_ok nmX9 rfl 5 (by decide) wd207 rfl rfl hnm rfl rfl rfl (Nat.le_of_ble_eq_true rfl) (fs' := [.ref q1, .ref q23, .ref q44, .ref q90, .ref q101, .ref q112, .null, .null, .null, .null, .null]) rfl dX9_init_76 (fun H locs hH => ?_)
  obtain ⟨f128, ef128⟩ : ∃ z : gF, z = va_up f121 q (.inr (9, [.ref q1, .ref q23, .ref q44, .ref q90, .ref q101, .ref q112, .null, .null, .null, .null, .null])) := ⟨_, rfl⟩
  have hH : gH E A L122 f128 s.heap H locs := by rw [ef128]; exact hH
  have h129 : f128 q = .inr (9, [.ref q1, .ref q23, .ref q44, .ref q90, .ref q101, .ref q112, .null, .null, .null, .null, .null]) := (congrFun ef128 q).trans (va_up_self _ _ _)
  refine lv_aload_n hx hb dX9_init_79 rfl (lv_at hl 0 rfl) ?_
  refine g_new C hH hA (ci := 4) iX4 tyX4 tyX4_ok wd208 wd209 wd150 rfl (fs := [.null, .null, .null, .null, .int (0 : Int32)]) (dvX4) (Nat.le_of_ble_eq_true rfl) (Nat.le_of_ble_eq_true rfl) dX9_init_80 (fun q130 H n131 hH => ?_)
  obtain ⟨f132, ef132⟩ : ∃ z : gF, z = va_up f128 q130 (.inr (4, [.null, .null, .null, .null, .int (0 : Int32)])) := ⟨_, rfl⟩
  obtain ⟨L133, eL133⟩ : ∃ z : List Nat, z = L122 ++ [q130] := ⟨_, rfl⟩
  have hH := g_re ef132 eL133 hH
  have sb134 : ∀ b ∈ L122, b ∈ L133 := fun b h => by rw [eL133]; exact List.mem_append_left _ h
  have h135 : q130 ∈ L133 := by rw [eL133]; exact List.mem_append_right _ List.mem_cons_self
  have h136 : f132 q130 = .inr (4, [.null, .null, .null, .null, .int (0 : Int32)]) := (congrFun ef132 q130).trans (va_up_self _ _ _)
  refine lv_dup hx hb dX9_init_83 rfl ?_
  refine lv_aload_n hx hb dX9_init_84 rfl (lv_at hl 0 rfl) ?_
  have h137 : f132 q = .inr (9, [.ref q1, .ref q23, .ref q44, .ref q90, .ref q101, .ref q112, .null, .null, .null, .null, .null]) := ((congrFun ef132 q).trans (va_up_ne _ _ (g_neL h127 n131))).trans h129
  have h138 : q ∈ L133 := sb134 _ h127
  refine g_get C hH h138 h137 iX9 rfl 1 (by decide) wd18 rfl rfl dX9_init_85 ?_
  refine lv_aload_n hx hb dX9_init_88 rfl (lv_at hl 0 rfl) ?_
  refine g_get C hH h138 h137 iX9 rfl 5 (by decide) wd207 rfl rfl dX9_init_89 ?_
  refine g_Iv C hl.1 hA hH (As := [.ref q23, .ref q112]) (rest := [.ref q130, .ref q]) (k_Lanterns l E L133 f132 h135 h136) my_X4_init wd212 rfl rfl (Nat.le_of_ble_eq_true rfl) ⟨Nat.le_of_ble_eq_true rfl, Nat.le_of_ble_eq_true rfl⟩ ⟨Nat.le_of_ble_eq_true rfl, Nat.le_of_ble_eq_true rfl⟩ dX9_init_92 (fun L140 f139 H locs hp hH => ?_)
  obtain ⟨q141, q142, h143, sb144, k145⟩ := hp
  have h146 := sb144 _ h135
  have h147 : f139 q = .inr (9, [.ref q1, .ref q23, .ref q44, .ref q90, .ref q101, .ref q112, .null, .null, .null, .null, .null]) := (k145 q h138 (g_neO h137 h136 (by decide))).trans h137
  have h148 : q ∈ L140 := sb144 _ h138
  refine g_putF C hH h148 h147 iX9 tyX9 tyX9_ok nmX9 rfl 6 (by decide) wd147 rfl rfl hnm rfl rfl rfl (Nat.le_of_ble_eq_true rfl) (fs' := [.ref q1, .ref q23, .ref q44, .ref q90, .ref q101, .ref q112, .ref q130, .null, .null, .null, .null]) rfl dX9_init_95 (fun H locs hH => ?_)
  obtain ⟨f149, ef149⟩ : ∃ z : gF, z = va_up f139 q (.inr (9, [.ref q1, .ref q23, .ref q44, .ref q90, .ref q101, .ref q112, .ref q130, .null, .null, .null, .null])) := ⟨_, rfl⟩
  have hH : gH E A L140 f149 s.heap H locs := by rw [ef149]; exact hH
  have h150 : f149 q = .inr (9, [.ref q1, .ref q23, .ref q44, .ref q90, .ref q101, .ref q112, .ref q130, .null, .null, .null, .null]) := (congrFun ef149 q).trans (va_up_self _ _ _)
  refine lv_aload_n hx hb dX9_init_98 rfl (lv_at hl 0 rfl) ?_
  refine g_new C hH hA (ci := 0) iX0 tyX0 tyX0_ok wd213 wd214 wd215 rfl (fs := [.null, .null, .null, .null]) (dvX0) (Nat.le_of_ble_eq_true rfl) (Nat.le_of_ble_eq_true rfl) dX9_init_99 (fun q151 H n152 hH => ?_)
  obtain ⟨f153, ef153⟩ : ∃ z : gF, z = va_up f149 q151 (.inr (0, [.null, .null, .null, .null])) := ⟨_, rfl⟩
  obtain ⟨L154, eL154⟩ : ∃ z : List Nat, z = L140 ++ [q151] := ⟨_, rfl⟩
  have hH := g_re ef153 eL154 hH
  have sb155 : ∀ b ∈ L140, b ∈ L154 := fun b h => by rw [eL154]; exact List.mem_append_left _ h
  have h156 : q151 ∈ L154 := by rw [eL154]; exact List.mem_append_right _ List.mem_cons_self
  have h157 : f153 q151 = .inr (0, [.null, .null, .null, .null]) := (congrFun ef153 q151).trans (va_up_self _ _ _)
  refine lv_dup hx hb dX9_init_102 rfl ?_
  refine lv_aload_n hx hb dX9_init_103 rfl (lv_at hl 0 rfl) ?_
  have h158 : f153 q = .inr (9, [.ref q1, .ref q23, .ref q44, .ref q90, .ref q101, .ref q112, .ref q130, .null, .null, .null, .null]) := ((congrFun ef153 q).trans (va_up_ne _ _ (g_neL h148 n152))).trans h150
  have h159 : q ∈ L154 := sb155 _ h148
  refine g_get C hH h159 h158 iX9 rfl 1 (by decide) wd18 rfl rfl dX9_init_104 ?_
  refine lv_aload_n hx hb dX9_init_107 rfl (lv_at hl 0 rfl) ?_
  refine g_get C hH h159 h158 iX9 rfl 5 (by decide) wd207 rfl rfl dX9_init_108 ?_
  refine g_Iv C hl.1 hA hH (As := [.ref q23, .ref q112]) (rest := [.ref q151, .ref q]) (k_Clues l E L154 f153 h156 h157) my_X0_init wd218 rfl rfl (Nat.le_of_ble_eq_true rfl) ⟨Nat.le_of_ble_eq_true rfl, Nat.le_of_ble_eq_true rfl⟩ ⟨Nat.le_of_ble_eq_true rfl, Nat.le_of_ble_eq_true rfl⟩ dX9_init_111 (fun L161 f160 H locs hp hH => ?_)
  obtain ⟨sb163, k164⟩ := hp
  have h165 : f160 q = .inr (9, [.ref q1, .ref q23, .ref q44, .ref q90, .ref q101, .ref q112, .ref q130, .null, .null, .null, .null]) := (k164 q h159 (g_neO h158 h157 (by decide))).trans h158
  have h166 : q ∈ L161 := sb163 _ h159
  refine g_putF C hH h166 h165 iX9 tyX9 tyX9_ok nmX9 rfl 7 (by decide) wd219 rfl rfl hnm rfl rfl rfl (Nat.le_of_ble_eq_true rfl) (fs' := [.ref q1, .ref q23, .ref q44, .ref q90, .ref q101, .ref q112, .ref q130, .ref q151, .null, .null, .null]) rfl dX9_init_114 (fun H locs hH => ?_)
  obtain ⟨f167, ef167⟩ : ∃ z : gF, z = va_up f160 q (.inr (9, [.ref q1, .ref q23, .ref q44, .ref q90, .ref q101, .ref q112, .ref q130, .ref q151, .null, .null, .null])) := ⟨_, rfl⟩
  have hH : gH E A L161 f167 s.heap H locs := by rw [ef167]; exact hH
  have h168 : f167 q = .inr (9, [.ref q1, .ref q23, .ref q44, .ref q90, .ref q101, .ref q112, .ref q130, .ref q151, .null, .null, .null]) := (congrFun ef167 q).trans (va_up_self _ _ _)
  refine lv_aload_n hx hb dX9_init_117 rfl (lv_at hl 0 rfl) ?_
  refine g_new C hH hA (ci := 2) iX2 tyX2 tyX2_ok wd220 wd221 wd222 rfl (fs := [.null, .null, .null, .null]) (dvX2) (Nat.le_of_ble_eq_true rfl) (Nat.le_of_ble_eq_true rfl) dX9_init_118 (fun q169 H n170 hH => ?_)
  obtain ⟨f171, ef171⟩ : ∃ z : gF, z = va_up f167 q169 (.inr (2, [.null, .null, .null, .null])) := ⟨_, rfl⟩
  obtain ⟨L172, eL172⟩ : ∃ z : List Nat, z = L161 ++ [q169] := ⟨_, rfl⟩
  have hH := g_re ef171 eL172 hH
  have sb173 : ∀ b ∈ L161, b ∈ L172 := fun b h => by rw [eL172]; exact List.mem_append_left _ h
  have h174 : q169 ∈ L172 := by rw [eL172]; exact List.mem_append_right _ List.mem_cons_self
  have h175 : f171 q169 = .inr (2, [.null, .null, .null, .null]) := (congrFun ef171 q169).trans (va_up_self _ _ _)
  refine lv_dup hx hb dX9_init_121 rfl ?_
  refine lv_aload_n hx hb dX9_init_122 rfl (lv_at hl 0 rfl) ?_
  have h176 : f171 q = .inr (9, [.ref q1, .ref q23, .ref q44, .ref q90, .ref q101, .ref q112, .ref q130, .ref q151, .null, .null, .null]) := ((congrFun ef171 q).trans (va_up_ne _ _ (g_neL h166 n170))).trans h168
  have h177 : q ∈ L172 := sb173 _ h166
  refine g_get C hH h177 h176 iX9 rfl 1 (by decide) wd18 rfl rfl dX9_init_123 ?_
  refine lv_aload_n hx hb dX9_init_126 rfl (lv_at hl 0 rfl) ?_
  refine g_get C hH h177 h176 iX9 rfl 5 (by decide) wd207 rfl rfl dX9_init_127 ?_
  refine g_Iv C hl.1 hA hH (As := [.ref q23, .ref q112]) (rest := [.ref q169, .ref q]) (k_Houses l E L172 f171 h174 h175) my_X2_init wd225 rfl rfl (Nat.le_of_ble_eq_true rfl) ⟨Nat.le_of_ble_eq_true rfl, Nat.le_of_ble_eq_true rfl⟩ ⟨Nat.le_of_ble_eq_true rfl, Nat.le_of_ble_eq_true rfl⟩ dX9_init_130 (fun L179 f178 H locs hp hH => ?_)
  obtain ⟨sb181, k182⟩ := hp
  have h183 : f178 q = .inr (9, [.ref q1, .ref q23, .ref q44, .ref q90, .ref q101, .ref q112, .ref q130, .ref q151, .null, .null, .null]) := (k182 q h177 (g_neO h176 h175 (by decide))).trans h176
  have h184 : q ∈ L179 := sb181 _ h177
  refine g_putF C hH h184 h183 iX9 tyX9 tyX9_ok nmX9 rfl 8 (by decide) wd226 rfl rfl hnm rfl rfl rfl (Nat.le_of_ble_eq_true rfl) (fs' := [.ref q1, .ref q23, .ref q44, .ref q90, .ref q101, .ref q112, .ref q130, .ref q151, .ref q169, .null, .null]) rfl dX9_init_133 (fun H locs hH => ?_)
  obtain ⟨f185, ef185⟩ : ∃ z : gF, z = va_up f178 q (.inr (9, [.ref q1, .ref q23, .ref q44, .ref q90, .ref q101, .ref q112, .ref q130, .ref q151, .ref q169, .null, .null])) := ⟨_, rfl⟩
  have hH : gH E A L179 f185 s.heap H locs := by rw [ef185]; exact hH
  have h186 : f185 q = .inr (9, [.ref q1, .ref q23, .ref q44, .ref q90, .ref q101, .ref q112, .ref q130, .ref q151, .ref q169, .null, .null]) := (congrFun ef185 q).trans (va_up_self _ _ _)
  refine lv_aload_n hx hb dX9_init_136 rfl (lv_at hl 0 rfl) ?_
  refine g_new C hH hA (ci := 1) iX1 tyX1 tyX1_ok wd227 wd228 wd229 rfl (fs := [.null, .null]) (dvX1) (Nat.le_of_ble_eq_true rfl) (Nat.le_of_ble_eq_true rfl) dX9_init_137 (fun q187 H n188 hH => ?_)
  obtain ⟨f189, ef189⟩ : ∃ z : gF, z = va_up f185 q187 (.inr (1, [.null, .null])) := ⟨_, rfl⟩
  obtain ⟨L190, eL190⟩ : ∃ z : List Nat, z = L179 ++ [q187] := ⟨_, rfl⟩
  have hH := g_re ef189 eL190 hH
  have sb191 : ∀ b ∈ L179, b ∈ L190 := fun b h => by rw [eL190]; exact List.mem_append_left _ h
  have h192 : q187 ∈ L190 := by rw [eL190]; exact List.mem_append_right _ List.mem_cons_self
  have h193 : f189 q187 = .inr (1, [.null, .null]) := (congrFun ef189 q187).trans (va_up_self _ _ _)
  refine lv_dup hx hb dX9_init_140 rfl ?_
  refine lv_aload_n hx hb dX9_init_141 rfl (lv_at hl 0 rfl) ?_
  have h194 : f189 q = .inr (9, [.ref q1, .ref q23, .ref q44, .ref q90, .ref q101, .ref q112, .ref q130, .ref q151, .ref q169, .null, .null]) := ((congrFun ef189 q).trans (va_up_ne _ _ (g_neL h184 n188))).trans h186
  have h195 : q ∈ L190 := sb191 _ h184
  refine g_get C hH h195 h194 iX9 rfl 1 (by decide) wd18 rfl rfl dX9_init_142 ?_
  refine lv_aload_n hx hb dX9_init_145 rfl (lv_at hl 0 rfl) ?_
  refine g_get C hH h195 h194 iX9 rfl 5 (by decide) wd207 rfl rfl dX9_init_146 ?_
  refine g_Iv C hl.1 hA hH (As := [.ref q23, .ref q112]) (rest := [.ref q187, .ref q]) (k_Fog l E L190 f189 h192 h193) my_X1_init wd232 rfl rfl (Nat.le_of_ble_eq_true rfl) ⟨Nat.le_of_ble_eq_true rfl, Nat.le_of_ble_eq_true rfl⟩ ⟨Nat.le_of_ble_eq_true rfl, Nat.le_of_ble_eq_true rfl⟩ dX9_init_149 (fun L197 f196 H locs hp hH => ?_)
  obtain ⟨sb199, k200⟩ := hp
  have h201 : f196 q = .inr (9, [.ref q1, .ref q23, .ref q44, .ref q90, .ref q101, .ref q112, .ref q130, .ref q151, .ref q169, .null, .null]) := (k200 q h195 (g_neO h194 h193 (by decide))).trans h194
  have h202 : q ∈ L197 := sb199 _ h195
  refine g_putF C hH h202 h201 iX9 tyX9 tyX9_ok nmX9 rfl 9 (by decide) wd233 rfl rfl hnm rfl rfl rfl (Nat.le_of_ble_eq_true rfl) (fs' := [.ref q1, .ref q23, .ref q44, .ref q90, .ref q101, .ref q112, .ref q130, .ref q151, .ref q169, .ref q187, .null]) rfl dX9_init_152 (fun H locs hH => ?_)
  obtain ⟨f203, ef203⟩ : ∃ z : gF, z = va_up f196 q (.inr (9, [.ref q1, .ref q23, .ref q44, .ref q90, .ref q101, .ref q112, .ref q130, .ref q151, .ref q169, .ref q187, .null])) := ⟨_, rfl⟩
  have hH : gH E A L197 f203 s.heap H locs := by rw [ef203]; exact hH
  have h204 : f203 q = .inr (9, [.ref q1, .ref q23, .ref q44, .ref q90, .ref q101, .ref q112, .ref q130, .ref q151, .ref q169, .ref q187, .null]) := (congrFun ef203 q).trans (va_up_self _ _ _)
  refine lv_aload_n hx hb dX9_init_155 rfl (lv_at hl 0 rfl) ?_
  refine lv_iconst (v := (3 : Int32)) hx hb dX9_init_156 (by decide) ?_
  refine g_newa C hH hA 3 rfl (fun _ _ h => h) wd234 rfl (N' := 3) (a0 := (3, (.inl (fun _ => 0)))) (avZ 3) (by decide) (by decide) (Nat.le_of_ble_eq_true rfl) (Nat.le_of_ble_eq_true rfl) (Nat.le_of_ble_eq_true rfl) dX9_init_157 (fun q205 H n206 hH => ?_)
  obtain ⟨f207, ef207⟩ : ∃ z : gF, z = va_up f203 q205 (.inl (E.2.2 3, 3, .inl (fun _ => 0))) := ⟨_, rfl⟩
  obtain ⟨L208, eL208⟩ : ∃ z : List Nat, z = L197 ++ [q205] := ⟨_, rfl⟩
  have hH := g_re ef207 eL208 hH
  have sb209 : ∀ b ∈ L197, b ∈ L208 := fun b h => by rw [eL208]; exact List.mem_append_left _ h
  have h210 : q205 ∈ L208 := by rw [eL208]; exact List.mem_append_right _ List.mem_cons_self
  have h211 : f207 q205 = .inl (E.2.2 3, 3, .inl (fun _ => 0)) := (congrFun ef207 q205).trans (va_up_self _ _ _)
  have h212 : f207 q = .inr (9, [.ref q1, .ref q23, .ref q44, .ref q90, .ref q101, .ref q112, .ref q130, .ref q151, .ref q169, .ref q187, .null]) := ((congrFun ef207 q).trans (va_up_ne _ _ (g_neL h202 n206))).trans h204
  have h213 : q ∈ L208 := sb209 _ h202
  refine g_putF C hH h213 h212 iX9 tyX9 tyX9_ok nmX9 rfl 10 (by decide) wd119 rfl rfl hnm rfl rfl rfl (Nat.le_of_ble_eq_true rfl) (fs' := [.ref q1, .ref q23, .ref q44, .ref q90, .ref q101, .ref q112, .ref q130, .ref q151, .ref q169, .ref q187, .ref q205]) rfl dX9_init_159 (fun H locs hH => ?_)
  obtain ⟨f214, ef214⟩ : ∃ z : gF, z = va_up f207 q (.inr (9, [.ref q1, .ref q23, .ref q44, .ref q90, .ref q101, .ref q112, .ref q130, .ref q151, .ref q169, .ref q187, .ref q205])) := ⟨_, rfl⟩
  have hH : gH E A L208 f214 s.heap H locs := by rw [ef214]; exact hH
  have h215 : f214 q = .inr (9, [.ref q1, .ref q23, .ref q44, .ref q90, .ref q101, .ref q112, .ref q130, .ref q151, .ref q169, .ref q187, .ref q205]) := (congrFun ef214 q).trans (va_up_self _ _ _)
  refine lv_iconst (v := (0 : Int32)) hx hb dX9_init_162 (by decide) ?_
  refine lv_istore_n (lv' := [(1, .int (0 : Int32)), (0, .ref q)]) hx hb dX9_init_163 rfl hl (by decide) rfl (fun ls hl => ?_)
  refine lv_iload_n hx hb dX9_init_164 rfl (lv_at hl 0 rfl) ?_
  refine lv_iconst (v := (3 : Int32)) hx hb dX9_init_165 (by decide) ?_
  refine lv_icmp_ge (tgt := 188) hx hb dX9_init_166 (by decide) (fun h => absurd h (by decide)) (fun _ => ?_)
  refine lv_aload_n hx hb dX9_init_169 rfl (lv_at hl 1 rfl) ?_
  refine g_get C hH h213 h215 iX9 rfl 3 (by decide) wd114 rfl rfl dX9_init_170 ?_
  refine lv_iload_n hx hb dX9_init_173 rfl (lv_at hl 0 rfl) ?_
  refine g_new C hH hA (ci := 3) iX3 tyX3 tyX3_ok wd191 wd192 wd7 rfl (fs := [.int (0 : Int32), .int (0 : Int32), .int (0 : Int32), .int (0 : Int32), .int (0 : Int32), .int (0 : Int32), .int (0 : Int32), .int (0 : Int32), .int (0 : Int32), .int (0 : Int32), .null, .null, .null, .null, .null, .null, .null, .null, .null, .null]) (dvX3) (Nat.le_of_ble_eq_true rfl) (Nat.le_of_ble_eq_true rfl) dX9_init_174 (fun q216 H n217 hH => ?_)
  obtain ⟨f218, ef218⟩ : ∃ z : gF, z = va_up f214 q216 (.inr (3, [.int (0 : Int32), .int (0 : Int32), .int (0 : Int32), .int (0 : Int32), .int (0 : Int32), .int (0 : Int32), .int (0 : Int32), .int (0 : Int32), .int (0 : Int32), .int (0 : Int32), .null, .null, .null, .null, .null, .null, .null, .null, .null, .null])) := ⟨_, rfl⟩
  obtain ⟨L219, eL219⟩ : ∃ z : List Nat, z = L208 ++ [q216] := ⟨_, rfl⟩
  have hH := g_re ef218 eL219 hH
  have sb220 : ∀ b ∈ L208, b ∈ L219 := fun b h => by rw [eL219]; exact List.mem_append_left _ h
  have h221 : f55 q23 = .inr (3, [.int (0 : Int32), .int (0 : Int32), .int (0 : Int32), .int (0 : Int32), .int (0 : Int32), .int (0 : Int32), .int (0 : Int32), .int (0 : Int32), .int (0 : Int32), .int (0 : Int32), .ref (na32 0), .ref (na32 1), .ref (na32 2), .ref (na32 3), .ref (na32 4), .ref (na32 5), .ref (na32 6), .ref (na32 7), .ref (na32 8), .ref (na32 9)]) := ((congrFun ef55 q23).trans (va_up_ne _ _ (g_neL h60 n54))).trans h59
  have h222 : q23 ∈ L56 := sb57 _ h60
  have h223 : f64 q23 = .inr (3, [.int (0 : Int32), .int (0 : Int32), .int (0 : Int32), .int (0 : Int32), .int (0 : Int32), .int (0 : Int32), .int (0 : Int32), .int (0 : Int32), .int (0 : Int32), .int (0 : Int32), .ref (na32 0), .ref (na32 1), .ref (na32 2), .ref (na32 3), .ref (na32 4), .ref (na32 5), .ref (na32 6), .ref (na32 7), .ref (na32 8), .ref (na32 9)]) := (k70 q23 h222 h61).trans h221
  have h224 : q23 ∈ L65 := sb69 _ h222
  have h225 : f76 q23 = .inr (3, [.int (0 : Int32), .int (0 : Int32), .int (0 : Int32), .int (0 : Int32), .int (0 : Int32), .int (0 : Int32), .int (0 : Int32), .int (0 : Int32), .int (0 : Int32), .int (0 : Int32), .ref (na32 0), .ref (na32 1), .ref (na32 2), .ref (na32 3), .ref (na32 4), .ref (na32 5), .ref (na32 6), .ref (na32 7), .ref (na32 8), .ref (na32 9)]) := (k80 q23 h224 (g_neO h223 h74 (by decide))).trans h223
  have h226 : q23 ∈ L77 := sb79 _ h224
  have h227 : f88 q23 = .inr (3, [.int (0 : Int32), .int (0 : Int32), .int (0 : Int32), .int (0 : Int32), .int (0 : Int32), .int (0 : Int32), .int (0 : Int32), .int (0 : Int32), .int (0 : Int32), .int (0 : Int32), .ref (na32 0), .ref (na32 1), .ref (na32 2), .ref (na32 3), .ref (na32 4), .ref (na32 5), .ref (na32 6), .ref (na32 7), .ref (na32 8), .ref (na32 9)]) := ((congrFun ef88 q23).trans (va_up_ne _ _ (g_neO h225 h86 (by decide)))).trans h225
  have h228 : f92 q23 = .inr (3, [.int (0 : Int32), .int (0 : Int32), .int (0 : Int32), .int (0 : Int32), .int (0 : Int32), .int (0 : Int32), .int (0 : Int32), .int (0 : Int32), .int (0 : Int32), .int (0 : Int32), .ref (na32 0), .ref (na32 1), .ref (na32 2), .ref (na32 3), .ref (na32 4), .ref (na32 5), .ref (na32 6), .ref (na32 7), .ref (na32 8), .ref (na32 9)]) := ((congrFun ef92 q23).trans (va_up_ne _ _ (g_neL h226 n91))).trans h227
  have h229 : q23 ∈ L93 := sb94 _ h226
  have h230 : f99 q23 = .inr (3, [.int (0 : Int32), .int (0 : Int32), .int (0 : Int32), .int (0 : Int32), .int (0 : Int32), .int (0 : Int32), .int (0 : Int32), .int (0 : Int32), .int (0 : Int32), .int (0 : Int32), .ref (na32 0), .ref (na32 1), .ref (na32 2), .ref (na32 3), .ref (na32 4), .ref (na32 5), .ref (na32 6), .ref (na32 7), .ref (na32 8), .ref (na32 9)]) := ((congrFun ef99 q23).trans (va_up_ne _ _ (g_neO h228 h97 (by decide)))).trans h228
  have h231 : f103 q23 = .inr (3, [.int (0 : Int32), .int (0 : Int32), .int (0 : Int32), .int (0 : Int32), .int (0 : Int32), .int (0 : Int32), .int (0 : Int32), .int (0 : Int32), .int (0 : Int32), .int (0 : Int32), .ref (na32 0), .ref (na32 1), .ref (na32 2), .ref (na32 3), .ref (na32 4), .ref (na32 5), .ref (na32 6), .ref (na32 7), .ref (na32 8), .ref (na32 9)]) := ((congrFun ef103 q23).trans (va_up_ne _ _ (g_neL h229 n102))).trans h230
  have h232 : q23 ∈ L104 := sb105 _ h229
  have h233 : f110 q23 = .inr (3, [.int (0 : Int32), .int (0 : Int32), .int (0 : Int32), .int (0 : Int32), .int (0 : Int32), .int (0 : Int32), .int (0 : Int32), .int (0 : Int32), .int (0 : Int32), .int (0 : Int32), .ref (na32 0), .ref (na32 1), .ref (na32 2), .ref (na32 3), .ref (na32 4), .ref (na32 5), .ref (na32 6), .ref (na32 7), .ref (na32 8), .ref (na32 9)]) := ((congrFun ef110 q23).trans (va_up_ne _ _ (g_neO h231 h108 (by decide)))).trans h231
  have h234 : f114 q23 = .inr (3, [.int (0 : Int32), .int (0 : Int32), .int (0 : Int32), .int (0 : Int32), .int (0 : Int32), .int (0 : Int32), .int (0 : Int32), .int (0 : Int32), .int (0 : Int32), .int (0 : Int32), .ref (na32 0), .ref (na32 1), .ref (na32 2), .ref (na32 3), .ref (na32 4), .ref (na32 5), .ref (na32 6), .ref (na32 7), .ref (na32 8), .ref (na32 9)]) := ((congrFun ef114 q23).trans (va_up_ne _ _ (g_neL h232 n113))).trans h233
  have h235 : q23 ∈ L115 := sb116 _ h232
  have h236 : f121 q23 = .inr (3, [.int (0 : Int32), .int (0 : Int32), .int (0 : Int32), .int (0 : Int32), .int (0 : Int32), .int (0 : Int32), .int (0 : Int32), .int (0 : Int32), .int (0 : Int32), .int (0 : Int32), .ref (na32 0), .ref (na32 1), .ref (na32 2), .ref (na32 3), .ref (na32 4), .ref (na32 5), .ref (na32 6), .ref (na32 7), .ref (na32 8), .ref (na32 9)]) := (k125 q23 h235 (g_neO h234 h118 (by decide))).trans h234
  have h237 : q23 ∈ L122 := sb124 _ h235
  have h238 : f128 q23 = .inr (3, [.int (0 : Int32), .int (0 : Int32), .int (0 : Int32), .int (0 : Int32), .int (0 : Int32), .int (0 : Int32), .int (0 : Int32), .int (0 : Int32), .int (0 : Int32), .int (0 : Int32), .ref (na32 0), .ref (na32 1), .ref (na32 2), .ref (na32 3), .ref (na32 4), .ref (na32 5), .ref (na32 6), .ref (na32 7), .ref (na32 8), .ref (na32 9)]) := ((congrFun ef128 q23).trans (va_up_ne _ _ (g_neO h236 h126 (by decide)))).trans h236
  have h239 : f132 q23 = .inr (3, [.int (0 : Int32), .int (0 : Int32), .int (0 : Int32), .int (0 : Int32), .int (0 : Int32), .int (0 : Int32), .int (0 : Int32), .int (0 : Int32), .int (0 : Int32), .int (0 : Int32), .ref (na32 0), .ref (na32 1), .ref (na32 2), .ref (na32 3), .ref (na32 4), .ref (na32 5), .ref (na32 6), .ref (na32 7), .ref (na32 8), .ref (na32 9)]) := ((congrFun ef132 q23).trans (va_up_ne _ _ (g_neL h237 n131))).trans h238
  have h240 : q23 ∈ L133 := sb134 _ h237
  have h241 : f139 q23 = .inr (3, [.int (0 : Int32), .int (0 : Int32), .int (0 : Int32), .int (0 : Int32), .int (0 : Int32), .int (0 : Int32), .int (0 : Int32), .int (0 : Int32), .int (0 : Int32), .int (0 : Int32), .ref (na32 0), .ref (na32 1), .ref (na32 2), .ref (na32 3), .ref (na32 4), .ref (na32 5), .ref (na32 6), .ref (na32 7), .ref (na32 8), .ref (na32 9)]) := (k145 q23 h240 (g_neO h239 h136 (by decide))).trans h239
  have h242 : q23 ∈ L140 := sb144 _ h240
  have h243 : f149 q23 = .inr (3, [.int (0 : Int32), .int (0 : Int32), .int (0 : Int32), .int (0 : Int32), .int (0 : Int32), .int (0 : Int32), .int (0 : Int32), .int (0 : Int32), .int (0 : Int32), .int (0 : Int32), .ref (na32 0), .ref (na32 1), .ref (na32 2), .ref (na32 3), .ref (na32 4), .ref (na32 5), .ref (na32 6), .ref (na32 7), .ref (na32 8), .ref (na32 9)]) := ((congrFun ef149 q23).trans (va_up_ne _ _ (g_neO h241 h147 (by decide)))).trans h241
  have h244 : f153 q23 = .inr (3, [.int (0 : Int32), .int (0 : Int32), .int (0 : Int32), .int (0 : Int32), .int (0 : Int32), .int (0 : Int32), .int (0 : Int32), .int (0 : Int32), .int (0 : Int32), .int (0 : Int32), .ref (na32 0), .ref (na32 1), .ref (na32 2), .ref (na32 3), .ref (na32 4), .ref (na32 5), .ref (na32 6), .ref (na32 7), .ref (na32 8), .ref (na32 9)]) := ((congrFun ef153 q23).trans (va_up_ne _ _ (g_neL h242 n152))).trans h243
  have h245 : q23 ∈ L154 := sb155 _ h242
  have h246 : f160 q23 = .inr (3, [.int (0 : Int32), .int (0 : Int32), .int (0 : Int32), .int (0 : Int32), .int (0 : Int32), .int (0 : Int32), .int (0 : Int32), .int (0 : Int32), .int (0 : Int32), .int (0 : Int32), .ref (na32 0), .ref (na32 1), .ref (na32 2), .ref (na32 3), .ref (na32 4), .ref (na32 5), .ref (na32 6), .ref (na32 7), .ref (na32 8), .ref (na32 9)]) := (k164 q23 h245 (g_neO h244 h157 (by decide))).trans h244
  have h247 : q23 ∈ L161 := sb163 _ h245
  have h248 : f167 q23 = .inr (3, [.int (0 : Int32), .int (0 : Int32), .int (0 : Int32), .int (0 : Int32), .int (0 : Int32), .int (0 : Int32), .int (0 : Int32), .int (0 : Int32), .int (0 : Int32), .int (0 : Int32), .ref (na32 0), .ref (na32 1), .ref (na32 2), .ref (na32 3), .ref (na32 4), .ref (na32 5), .ref (na32 6), .ref (na32 7), .ref (na32 8), .ref (na32 9)]) := ((congrFun ef167 q23).trans (va_up_ne _ _ (g_neO h246 h165 (by decide)))).trans h246
  have h249 : f171 q23 = .inr (3, [.int (0 : Int32), .int (0 : Int32), .int (0 : Int32), .int (0 : Int32), .int (0 : Int32), .int (0 : Int32), .int (0 : Int32), .int (0 : Int32), .int (0 : Int32), .int (0 : Int32), .ref (na32 0), .ref (na32 1), .ref (na32 2), .ref (na32 3), .ref (na32 4), .ref (na32 5), .ref (na32 6), .ref (na32 7), .ref (na32 8), .ref (na32 9)]) := ((congrFun ef171 q23).trans (va_up_ne _ _ (g_neL h247 n170))).trans h248
  have h250 : q23 ∈ L172 := sb173 _ h247
  have h251 : f178 q23 = .inr (3, [.int (0 : Int32), .int (0 : Int32), .int (0 : Int32), .int (0 : Int32), .int (0 : Int32), .int (0 : Int32), .int (0 : Int32), .int (0 : Int32), .int (0 : Int32), .int (0 : Int32), .ref (na32 0), .ref (na32 1), .ref (na32 2), .ref (na32 3), .ref (na32 4), .ref (na32 5), .ref (na32 6), .ref (na32 7), .ref (na32 8), .ref (na32 9)]) := (k182 q23 h250 (g_neO h249 h175 (by decide))).trans h249
  have h252 : q23 ∈ L179 := sb181 _ h250
  have h253 : f185 q23 = .inr (3, [.int (0 : Int32), .int (0 : Int32), .int (0 : Int32), .int (0 : Int32), .int (0 : Int32), .int (0 : Int32), .int (0 : Int32), .int (0 : Int32), .int (0 : Int32), .int (0 : Int32), .ref (na32 0), .ref (na32 1), .ref (na32 2), .ref (na32 3), .ref (na32 4), .ref (na32 5), .ref (na32 6), .ref (na32 7), .ref (na32 8), .ref (na32 9)]) := ((congrFun ef185 q23).trans (va_up_ne _ _ (g_neO h251 h183 (by decide)))).trans h251
  have h254 : f189 q23 = .inr (3, [.int (0 : Int32), .int (0 : Int32), .int (0 : Int32), .int (0 : Int32), .int (0 : Int32), .int (0 : Int32), .int (0 : Int32), .int (0 : Int32), .int (0 : Int32), .int (0 : Int32), .ref (na32 0), .ref (na32 1), .ref (na32 2), .ref (na32 3), .ref (na32 4), .ref (na32 5), .ref (na32 6), .ref (na32 7), .ref (na32 8), .ref (na32 9)]) := ((congrFun ef189 q23).trans (va_up_ne _ _ (g_neL h252 n188))).trans h253
  have h255 : q23 ∈ L190 := sb191 _ h252
  have h256 : f196 q23 = .inr (3, [.int (0 : Int32), .int (0 : Int32), .int (0 : Int32), .int (0 : Int32), .int (0 : Int32), .int (0 : Int32), .int (0 : Int32), .int (0 : Int32), .int (0 : Int32), .int (0 : Int32), .ref (na32 0), .ref (na32 1), .ref (na32 2), .ref (na32 3), .ref (na32 4), .ref (na32 5), .ref (na32 6), .ref (na32 7), .ref (na32 8), .ref (na32 9)]) := (k200 q23 h255 (g_neO h254 h193 (by decide))).trans h254
  have h257 : q23 ∈ L197 := sb199 _ h255
  have h258 : f203 q23 = .inr (3, [.int (0 : Int32), .int (0 : Int32), .int (0 : Int32), .int (0 : Int32), .int (0 : Int32), .int (0 : Int32), .int (0 : Int32), .int (0 : Int32), .int (0 : Int32), .int (0 : Int32), .ref (na32 0), .ref (na32 1), .ref (na32 2), .ref (na32 3), .ref (na32 4), .ref (na32 5), .ref (na32 6), .ref (na32 7), .ref (na32 8), .ref (na32 9)]) := ((congrFun ef203 q23).trans (va_up_ne _ _ (g_neO h256 h201 (by decide)))).trans h256
  have h259 : f207 q23 = .inr (3, [.int (0 : Int32), .int (0 : Int32), .int (0 : Int32), .int (0 : Int32), .int (0 : Int32), .int (0 : Int32), .int (0 : Int32), .int (0 : Int32), .int (0 : Int32), .int (0 : Int32), .ref (na32 0), .ref (na32 1), .ref (na32 2), .ref (na32 3), .ref (na32 4), .ref (na32 5), .ref (na32 6), .ref (na32 7), .ref (na32 8), .ref (na32 9)]) := ((congrFun ef207 q23).trans (va_up_ne _ _ (g_neL h257 n206))).trans h258
  have h260 : q23 ∈ L208 := sb209 _ h257
  have h261 : f214 q23 = .inr (3, [.int (0 : Int32), .int (0 : Int32), .int (0 : Int32), .int (0 : Int32), .int (0 : Int32), .int (0 : Int32), .int (0 : Int32), .int (0 : Int32), .int (0 : Int32), .int (0 : Int32), .ref (na32 0), .ref (na32 1), .ref (na32 2), .ref (na32 3), .ref (na32 4), .ref (na32 5), .ref (na32 6), .ref (na32 7), .ref (na32 8), .ref (na32 9)]) := ((congrFun ef214 q23).trans (va_up_ne _ _ (g_neO h259 h212 (by decide)))).trans h259
  have h262 : q23 ≠ q216 := g_neL h260 n217
  have h263 : f76 q53 = .inr (3, [.int (0 : Int32), .int (0 : Int32), .int (0 : Int32), .int (0 : Int32), .int (0 : Int32), .int (0 : Int32), .int (0 : Int32), .int (0 : Int32), .int (0 : Int32), .int (0 : Int32), .ref (na66 0), .ref (na66 1), .ref (na66 2), .ref (na66 3), .ref (na66 4), .ref (na66 5), .ref (na66 6), .ref (na66 7), .ref (na66 8), .ref (na66 9)]) := (k80 q53 h71 (g_neO h67 h74 (by decide))).trans h67
  have h264 : q53 ∈ L77 := sb79 _ h71
  have h265 : f88 q53 = .inr (3, [.int (0 : Int32), .int (0 : Int32), .int (0 : Int32), .int (0 : Int32), .int (0 : Int32), .int (0 : Int32), .int (0 : Int32), .int (0 : Int32), .int (0 : Int32), .int (0 : Int32), .ref (na66 0), .ref (na66 1), .ref (na66 2), .ref (na66 3), .ref (na66 4), .ref (na66 5), .ref (na66 6), .ref (na66 7), .ref (na66 8), .ref (na66 9)]) := ((congrFun ef88 q53).trans (va_up_ne _ _ (g_neO h263 h86 (by decide)))).trans h263
  have h266 : f92 q53 = .inr (3, [.int (0 : Int32), .int (0 : Int32), .int (0 : Int32), .int (0 : Int32), .int (0 : Int32), .int (0 : Int32), .int (0 : Int32), .int (0 : Int32), .int (0 : Int32), .int (0 : Int32), .ref (na66 0), .ref (na66 1), .ref (na66 2), .ref (na66 3), .ref (na66 4), .ref (na66 5), .ref (na66 6), .ref (na66 7), .ref (na66 8), .ref (na66 9)]) := ((congrFun ef92 q53).trans (va_up_ne _ _ (g_neL h264 n91))).trans h265
  have h267 : q53 ∈ L93 := sb94 _ h264
  have h268 : f99 q53 = .inr (3, [.int (0 : Int32), .int (0 : Int32), .int (0 : Int32), .int (0 : Int32), .int (0 : Int32), .int (0 : Int32), .int (0 : Int32), .int (0 : Int32), .int (0 : Int32), .int (0 : Int32), .ref (na66 0), .ref (na66 1), .ref (na66 2), .ref (na66 3), .ref (na66 4), .ref (na66 5), .ref (na66 6), .ref (na66 7), .ref (na66 8), .ref (na66 9)]) := ((congrFun ef99 q53).trans (va_up_ne _ _ (g_neO h266 h97 (by decide)))).trans h266
  have h269 : f103 q53 = .inr (3, [.int (0 : Int32), .int (0 : Int32), .int (0 : Int32), .int (0 : Int32), .int (0 : Int32), .int (0 : Int32), .int (0 : Int32), .int (0 : Int32), .int (0 : Int32), .int (0 : Int32), .ref (na66 0), .ref (na66 1), .ref (na66 2), .ref (na66 3), .ref (na66 4), .ref (na66 5), .ref (na66 6), .ref (na66 7), .ref (na66 8), .ref (na66 9)]) := ((congrFun ef103 q53).trans (va_up_ne _ _ (g_neL h267 n102))).trans h268
  have h270 : q53 ∈ L104 := sb105 _ h267
  have h271 : f110 q53 = .inr (3, [.int (0 : Int32), .int (0 : Int32), .int (0 : Int32), .int (0 : Int32), .int (0 : Int32), .int (0 : Int32), .int (0 : Int32), .int (0 : Int32), .int (0 : Int32), .int (0 : Int32), .ref (na66 0), .ref (na66 1), .ref (na66 2), .ref (na66 3), .ref (na66 4), .ref (na66 5), .ref (na66 6), .ref (na66 7), .ref (na66 8), .ref (na66 9)]) := ((congrFun ef110 q53).trans (va_up_ne _ _ (g_neO h269 h108 (by decide)))).trans h269
  have h272 : f114 q53 = .inr (3, [.int (0 : Int32), .int (0 : Int32), .int (0 : Int32), .int (0 : Int32), .int (0 : Int32), .int (0 : Int32), .int (0 : Int32), .int (0 : Int32), .int (0 : Int32), .int (0 : Int32), .ref (na66 0), .ref (na66 1), .ref (na66 2), .ref (na66 3), .ref (na66 4), .ref (na66 5), .ref (na66 6), .ref (na66 7), .ref (na66 8), .ref (na66 9)]) := ((congrFun ef114 q53).trans (va_up_ne _ _ (g_neL h270 n113))).trans h271
  have h273 : q53 ∈ L115 := sb116 _ h270
  have h274 : f121 q53 = .inr (3, [.int (0 : Int32), .int (0 : Int32), .int (0 : Int32), .int (0 : Int32), .int (0 : Int32), .int (0 : Int32), .int (0 : Int32), .int (0 : Int32), .int (0 : Int32), .int (0 : Int32), .ref (na66 0), .ref (na66 1), .ref (na66 2), .ref (na66 3), .ref (na66 4), .ref (na66 5), .ref (na66 6), .ref (na66 7), .ref (na66 8), .ref (na66 9)]) := (k125 q53 h273 (g_neO h272 h118 (by decide))).trans h272
  have h275 : q53 ∈ L122 := sb124 _ h273
  have h276 : f128 q53 = .inr (3, [.int (0 : Int32), .int (0 : Int32), .int (0 : Int32), .int (0 : Int32), .int (0 : Int32), .int (0 : Int32), .int (0 : Int32), .int (0 : Int32), .int (0 : Int32), .int (0 : Int32), .ref (na66 0), .ref (na66 1), .ref (na66 2), .ref (na66 3), .ref (na66 4), .ref (na66 5), .ref (na66 6), .ref (na66 7), .ref (na66 8), .ref (na66 9)]) := ((congrFun ef128 q53).trans (va_up_ne _ _ (g_neO h274 h126 (by decide)))).trans h274
  have h277 : f132 q53 = .inr (3, [.int (0 : Int32), .int (0 : Int32), .int (0 : Int32), .int (0 : Int32), .int (0 : Int32), .int (0 : Int32), .int (0 : Int32), .int (0 : Int32), .int (0 : Int32), .int (0 : Int32), .ref (na66 0), .ref (na66 1), .ref (na66 2), .ref (na66 3), .ref (na66 4), .ref (na66 5), .ref (na66 6), .ref (na66 7), .ref (na66 8), .ref (na66 9)]) := ((congrFun ef132 q53).trans (va_up_ne _ _ (g_neL h275 n131))).trans h276
  have h278 : q53 ∈ L133 := sb134 _ h275
  have h279 : f139 q53 = .inr (3, [.int (0 : Int32), .int (0 : Int32), .int (0 : Int32), .int (0 : Int32), .int (0 : Int32), .int (0 : Int32), .int (0 : Int32), .int (0 : Int32), .int (0 : Int32), .int (0 : Int32), .ref (na66 0), .ref (na66 1), .ref (na66 2), .ref (na66 3), .ref (na66 4), .ref (na66 5), .ref (na66 6), .ref (na66 7), .ref (na66 8), .ref (na66 9)]) := (k145 q53 h278 (g_neO h277 h136 (by decide))).trans h277
  have h280 : q53 ∈ L140 := sb144 _ h278
  have h281 : f149 q53 = .inr (3, [.int (0 : Int32), .int (0 : Int32), .int (0 : Int32), .int (0 : Int32), .int (0 : Int32), .int (0 : Int32), .int (0 : Int32), .int (0 : Int32), .int (0 : Int32), .int (0 : Int32), .ref (na66 0), .ref (na66 1), .ref (na66 2), .ref (na66 3), .ref (na66 4), .ref (na66 5), .ref (na66 6), .ref (na66 7), .ref (na66 8), .ref (na66 9)]) := ((congrFun ef149 q53).trans (va_up_ne _ _ (g_neO h279 h147 (by decide)))).trans h279
  have h282 : f153 q53 = .inr (3, [.int (0 : Int32), .int (0 : Int32), .int (0 : Int32), .int (0 : Int32), .int (0 : Int32), .int (0 : Int32), .int (0 : Int32), .int (0 : Int32), .int (0 : Int32), .int (0 : Int32), .ref (na66 0), .ref (na66 1), .ref (na66 2), .ref (na66 3), .ref (na66 4), .ref (na66 5), .ref (na66 6), .ref (na66 7), .ref (na66 8), .ref (na66 9)]) := ((congrFun ef153 q53).trans (va_up_ne _ _ (g_neL h280 n152))).trans h281
  have h283 : q53 ∈ L154 := sb155 _ h280
  have h284 : f160 q53 = .inr (3, [.int (0 : Int32), .int (0 : Int32), .int (0 : Int32), .int (0 : Int32), .int (0 : Int32), .int (0 : Int32), .int (0 : Int32), .int (0 : Int32), .int (0 : Int32), .int (0 : Int32), .ref (na66 0), .ref (na66 1), .ref (na66 2), .ref (na66 3), .ref (na66 4), .ref (na66 5), .ref (na66 6), .ref (na66 7), .ref (na66 8), .ref (na66 9)]) := (k164 q53 h283 (g_neO h282 h157 (by decide))).trans h282
  have h285 : q53 ∈ L161 := sb163 _ h283
  have h286 : f167 q53 = .inr (3, [.int (0 : Int32), .int (0 : Int32), .int (0 : Int32), .int (0 : Int32), .int (0 : Int32), .int (0 : Int32), .int (0 : Int32), .int (0 : Int32), .int (0 : Int32), .int (0 : Int32), .ref (na66 0), .ref (na66 1), .ref (na66 2), .ref (na66 3), .ref (na66 4), .ref (na66 5), .ref (na66 6), .ref (na66 7), .ref (na66 8), .ref (na66 9)]) := ((congrFun ef167 q53).trans (va_up_ne _ _ (g_neO h284 h165 (by decide)))).trans h284
  have h287 : f171 q53 = .inr (3, [.int (0 : Int32), .int (0 : Int32), .int (0 : Int32), .int (0 : Int32), .int (0 : Int32), .int (0 : Int32), .int (0 : Int32), .int (0 : Int32), .int (0 : Int32), .int (0 : Int32), .ref (na66 0), .ref (na66 1), .ref (na66 2), .ref (na66 3), .ref (na66 4), .ref (na66 5), .ref (na66 6), .ref (na66 7), .ref (na66 8), .ref (na66 9)]) := ((congrFun ef171 q53).trans (va_up_ne _ _ (g_neL h285 n170))).trans h286
  have h288 : q53 ∈ L172 := sb173 _ h285
  have h289 : f178 q53 = .inr (3, [.int (0 : Int32), .int (0 : Int32), .int (0 : Int32), .int (0 : Int32), .int (0 : Int32), .int (0 : Int32), .int (0 : Int32), .int (0 : Int32), .int (0 : Int32), .int (0 : Int32), .ref (na66 0), .ref (na66 1), .ref (na66 2), .ref (na66 3), .ref (na66 4), .ref (na66 5), .ref (na66 6), .ref (na66 7), .ref (na66 8), .ref (na66 9)]) := (k182 q53 h288 (g_neO h287 h175 (by decide))).trans h287
  have h290 : q53 ∈ L179 := sb181 _ h288
  have h291 : f185 q53 = .inr (3, [.int (0 : Int32), .int (0 : Int32), .int (0 : Int32), .int (0 : Int32), .int (0 : Int32), .int (0 : Int32), .int (0 : Int32), .int (0 : Int32), .int (0 : Int32), .int (0 : Int32), .ref (na66 0), .ref (na66 1), .ref (na66 2), .ref (na66 3), .ref (na66 4), .ref (na66 5), .ref (na66 6), .ref (na66 7), .ref (na66 8), .ref (na66 9)]) := ((congrFun ef185 q53).trans (va_up_ne _ _ (g_neO h289 h183 (by decide)))).trans h289
  have h292 : f189 q53 = .inr (3, [.int (0 : Int32), .int (0 : Int32), .int (0 : Int32), .int (0 : Int32), .int (0 : Int32), .int (0 : Int32), .int (0 : Int32), .int (0 : Int32), .int (0 : Int32), .int (0 : Int32), .ref (na66 0), .ref (na66 1), .ref (na66 2), .ref (na66 3), .ref (na66 4), .ref (na66 5), .ref (na66 6), .ref (na66 7), .ref (na66 8), .ref (na66 9)]) := ((congrFun ef189 q53).trans (va_up_ne _ _ (g_neL h290 n188))).trans h291
  have h293 : q53 ∈ L190 := sb191 _ h290
  have h294 : f196 q53 = .inr (3, [.int (0 : Int32), .int (0 : Int32), .int (0 : Int32), .int (0 : Int32), .int (0 : Int32), .int (0 : Int32), .int (0 : Int32), .int (0 : Int32), .int (0 : Int32), .int (0 : Int32), .ref (na66 0), .ref (na66 1), .ref (na66 2), .ref (na66 3), .ref (na66 4), .ref (na66 5), .ref (na66 6), .ref (na66 7), .ref (na66 8), .ref (na66 9)]) := (k200 q53 h293 (g_neO h292 h193 (by decide))).trans h292
  have h295 : q53 ∈ L197 := sb199 _ h293
  have h296 : f203 q53 = .inr (3, [.int (0 : Int32), .int (0 : Int32), .int (0 : Int32), .int (0 : Int32), .int (0 : Int32), .int (0 : Int32), .int (0 : Int32), .int (0 : Int32), .int (0 : Int32), .int (0 : Int32), .ref (na66 0), .ref (na66 1), .ref (na66 2), .ref (na66 3), .ref (na66 4), .ref (na66 5), .ref (na66 6), .ref (na66 7), .ref (na66 8), .ref (na66 9)]) := ((congrFun ef203 q53).trans (va_up_ne _ _ (g_neO h294 h201 (by decide)))).trans h294
  have h297 : f207 q53 = .inr (3, [.int (0 : Int32), .int (0 : Int32), .int (0 : Int32), .int (0 : Int32), .int (0 : Int32), .int (0 : Int32), .int (0 : Int32), .int (0 : Int32), .int (0 : Int32), .int (0 : Int32), .ref (na66 0), .ref (na66 1), .ref (na66 2), .ref (na66 3), .ref (na66 4), .ref (na66 5), .ref (na66 6), .ref (na66 7), .ref (na66 8), .ref (na66 9)]) := ((congrFun ef207 q53).trans (va_up_ne _ _ (g_neL h295 n206))).trans h296
  have h298 : q53 ∈ L208 := sb209 _ h295
  have h299 : f214 q53 = .inr (3, [.int (0 : Int32), .int (0 : Int32), .int (0 : Int32), .int (0 : Int32), .int (0 : Int32), .int (0 : Int32), .int (0 : Int32), .int (0 : Int32), .int (0 : Int32), .int (0 : Int32), .ref (na66 0), .ref (na66 1), .ref (na66 2), .ref (na66 3), .ref (na66 4), .ref (na66 5), .ref (na66 6), .ref (na66 7), .ref (na66 8), .ref (na66 9)]) := ((congrFun ef214 q53).trans (va_up_ne _ _ (g_neO h297 h212 (by decide)))).trans h297
  have h300 : q53 ≠ q216 := g_neL h298 n217
  have h301 : q216 ∈ L219 := by rw [eL219]; exact List.mem_append_right _ List.mem_cons_self
  have h302 : f218 q216 = .inr (3, [.int (0 : Int32), .int (0 : Int32), .int (0 : Int32), .int (0 : Int32), .int (0 : Int32), .int (0 : Int32), .int (0 : Int32), .int (0 : Int32), .int (0 : Int32), .int (0 : Int32), .null, .null, .null, .null, .null, .null, .null, .null, .null, .null]) := (congrFun ef218 q216).trans (va_up_self _ _ _)
  refine lv_dup hx hb dX9_init_177 rfl ?_
  refine g_INv C hl.1 hA hH (As := []) (rest := [.ref q216, .int (0 : Int32), .ref q90]) (k_Land l E L219 f218 h301 h302) my_X3_init (host := "GooseShares") (List.mem_of_getElem? (i := 1) rfl) rfl rfl (Nat.le_of_ble_eq_true rfl) ⟨Nat.le_of_ble_eq_true rfl, Nat.le_of_ble_eq_true rfl⟩ ⟨Nat.le_of_ble_eq_true rfl, Nat.le_of_ble_eq_true rfl⟩ dX9_init_178 (fun L304 f303 H locs hp hH => ?_)
  obtain ⟨na305, h306, h307, sb308, k309⟩ := hp
  have h310 := sb308 _ h301
  have h311 : f99 q90 = .inl (E.2.2 4, 3, .inr (.inr (.inr (.inr (fun _ => none))))) := ((congrFun ef99 q90).trans (va_up_ne _ _ (g_neAO h96 h97))).trans h96
  have h312 : f103 q90 = .inl (E.2.2 4, 3, .inr (.inr (.inr (.inr (fun _ => none))))) := ((congrFun ef103 q90).trans (va_up_ne _ _ (g_neL h95 n102))).trans h311
  have h313 : q90 ∈ L104 := sb105 _ h95
  have h314 : f110 q90 = .inl (E.2.2 4, 3, .inr (.inr (.inr (.inr (fun _ => none))))) := ((congrFun ef110 q90).trans (va_up_ne _ _ (g_neAO h312 h108))).trans h312
  have h315 : f114 q90 = .inl (E.2.2 4, 3, .inr (.inr (.inr (.inr (fun _ => none))))) := ((congrFun ef114 q90).trans (va_up_ne _ _ (g_neL h313 n113))).trans h314
  have h316 : q90 ∈ L115 := sb116 _ h313
  have h317 : f121 q90 = .inl (E.2.2 4, 3, .inr (.inr (.inr (.inr (fun _ => none))))) := (k125 q90 h316 (g_neAO h315 h118)).trans h315
  have h318 : q90 ∈ L122 := sb124 _ h316
  have h319 : f128 q90 = .inl (E.2.2 4, 3, .inr (.inr (.inr (.inr (fun _ => none))))) := ((congrFun ef128 q90).trans (va_up_ne _ _ (g_neAO h317 h126))).trans h317
  have h320 : f132 q90 = .inl (E.2.2 4, 3, .inr (.inr (.inr (.inr (fun _ => none))))) := ((congrFun ef132 q90).trans (va_up_ne _ _ (g_neL h318 n131))).trans h319
  have h321 : q90 ∈ L133 := sb134 _ h318
  have h322 : f139 q90 = .inl (E.2.2 4, 3, .inr (.inr (.inr (.inr (fun _ => none))))) := (k145 q90 h321 (g_neAO h320 h136)).trans h320
  have h323 : q90 ∈ L140 := sb144 _ h321
  have h324 : f149 q90 = .inl (E.2.2 4, 3, .inr (.inr (.inr (.inr (fun _ => none))))) := ((congrFun ef149 q90).trans (va_up_ne _ _ (g_neAO h322 h147))).trans h322
  have h325 : f153 q90 = .inl (E.2.2 4, 3, .inr (.inr (.inr (.inr (fun _ => none))))) := ((congrFun ef153 q90).trans (va_up_ne _ _ (g_neL h323 n152))).trans h324
  have h326 : q90 ∈ L154 := sb155 _ h323
  have h327 : f160 q90 = .inl (E.2.2 4, 3, .inr (.inr (.inr (.inr (fun _ => none))))) := (k164 q90 h326 (g_neAO h325 h157)).trans h325
  have h328 : q90 ∈ L161 := sb163 _ h326
  have h329 : f167 q90 = .inl (E.2.2 4, 3, .inr (.inr (.inr (.inr (fun _ => none))))) := ((congrFun ef167 q90).trans (va_up_ne _ _ (g_neAO h327 h165))).trans h327
  have h330 : f171 q90 = .inl (E.2.2 4, 3, .inr (.inr (.inr (.inr (fun _ => none))))) := ((congrFun ef171 q90).trans (va_up_ne _ _ (g_neL h328 n170))).trans h329
  have h331 : q90 ∈ L172 := sb173 _ h328
  have h332 : f178 q90 = .inl (E.2.2 4, 3, .inr (.inr (.inr (.inr (fun _ => none))))) := (k182 q90 h331 (g_neAO h330 h175)).trans h330
  have h333 : q90 ∈ L179 := sb181 _ h331
  have h334 : f185 q90 = .inl (E.2.2 4, 3, .inr (.inr (.inr (.inr (fun _ => none))))) := ((congrFun ef185 q90).trans (va_up_ne _ _ (g_neAO h332 h183))).trans h332
  have h335 : f189 q90 = .inl (E.2.2 4, 3, .inr (.inr (.inr (.inr (fun _ => none))))) := ((congrFun ef189 q90).trans (va_up_ne _ _ (g_neL h333 n188))).trans h334
  have h336 : q90 ∈ L190 := sb191 _ h333
  have h337 : f196 q90 = .inl (E.2.2 4, 3, .inr (.inr (.inr (.inr (fun _ => none))))) := (k200 q90 h336 (g_neAO h335 h193)).trans h335
  have h338 : q90 ∈ L197 := sb199 _ h336
  have h339 : f203 q90 = .inl (E.2.2 4, 3, .inr (.inr (.inr (.inr (fun _ => none))))) := ((congrFun ef203 q90).trans (va_up_ne _ _ (g_neAO h337 h201))).trans h337
  have h340 : f207 q90 = .inl (E.2.2 4, 3, .inr (.inr (.inr (.inr (fun _ => none))))) := ((congrFun ef207 q90).trans (va_up_ne _ _ (g_neL h338 n206))).trans h339
  have h341 : q90 ∈ L208 := sb209 _ h338
  have h342 : f214 q90 = .inl (E.2.2 4, 3, .inr (.inr (.inr (.inr (fun _ => none))))) := ((congrFun ef214 q90).trans (va_up_ne _ _ (g_neAO h340 h212))).trans h340
  have h343 : f218 q90 = .inl (E.2.2 4, 3, .inr (.inr (.inr (.inr (fun _ => none))))) := ((congrFun ef218 q90).trans (va_up_ne _ _ (g_neL h341 n217))).trans h342
  have h344 : q90 ∈ L219 := sb220 _ h341
  have h345 : f303 q90 = .inl (E.2.2 4, 3, .inr (.inr (.inr (.inr (fun _ => none))))) := (k309 q90 h344 (g_neAO h343 h302)).trans h343
  have h346 : q90 ∈ L304 := sb308 _ h344
  refine g_aast C hH h346 4 rfl h345 h310 h306 rfl (vp_inL (by decide)) dX9_init_181 (fun H locs hH => ?_)
  obtain ⟨f347, ef347⟩ : ∃ z : gF, z = va_up f303 q90 (.inl (E.2.2 4, 3, .inr (.inr (.inr (.inr (va_up (fun _ => none) 0 (some q216))))))) := ⟨_, rfl⟩
  have hH : gH E A L304 f347 s.heap H locs := by rw [ef347]; exact hH
  have h348 : f347 q90 = .inl (E.2.2 4, 3, .inr (.inr (.inr (.inr (va_up (fun _ => none) 0 (some q216)))))) := (congrFun ef347 q90).trans (va_up_self _ _ _)
  refine lv_iinc (v := (1 : Int32)) (lv' := [(1, .int (1 : Int32)), (0, .ref q)]) hx hb dX9_init_182 hl (k := 0) rfl (by decide) (by decide) rfl (fun ls hl => ?_)
  refine lv_goto (tgt := 164) hx hb dX9_init_185 (by decide) ?_
  refine lv_iload_n hx hb dX9_init_164 rfl (lv_at hl 0 rfl) ?_
  refine lv_iconst (v := (3 : Int32)) hx hb dX9_init_165 (by decide) ?_
  refine lv_icmp_ge (tgt := 188) hx hb dX9_init_166 (by decide) (fun h => absurd h (by decide)) (fun _ => ?_)
  refine lv_aload_n hx hb dX9_init_169 rfl (lv_at hl 1 rfl) ?_
  have h349 : f218 q = .inr (9, [.ref q1, .ref q23, .ref q44, .ref q90, .ref q101, .ref q112, .ref q130, .ref q151, .ref q169, .ref q187, .ref q205]) := ((congrFun ef218 q).trans (va_up_ne _ _ (g_neL h213 n217))).trans h215
  have h350 : q ∈ L219 := sb220 _ h213
  have h351 : f303 q = .inr (9, [.ref q1, .ref q23, .ref q44, .ref q90, .ref q101, .ref q112, .ref q130, .ref q151, .ref q169, .ref q187, .ref q205]) := (k309 q h350 (g_neO h349 h302 (by decide))).trans h349
  have h352 : q ∈ L304 := sb308 _ h350
  have h353 : f347 q = .inr (9, [.ref q1, .ref q23, .ref q44, .ref q90, .ref q101, .ref q112, .ref q130, .ref q151, .ref q169, .ref q187, .ref q205]) := ((congrFun ef347 q).trans (va_up_ne _ _ (g_neOA h351 h345))).trans h351
  refine g_get C hH h352 h353 iX9 rfl 3 (by decide) wd114 rfl rfl dX9_init_170 ?_
  refine lv_iload_n hx hb dX9_init_173 rfl (lv_at hl 0 rfl) ?_
  refine g_new C hH hA (ci := 3) iX3 tyX3 tyX3_ok wd191 wd192 wd7 rfl (fs := [.int (0 : Int32), .int (0 : Int32), .int (0 : Int32), .int (0 : Int32), .int (0 : Int32), .int (0 : Int32), .int (0 : Int32), .int (0 : Int32), .int (0 : Int32), .int (0 : Int32), .null, .null, .null, .null, .null, .null, .null, .null, .null, .null]) (dvX3) (Nat.le_of_ble_eq_true rfl) (Nat.le_of_ble_eq_true rfl) dX9_init_174 (fun q354 H n355 hH => ?_)
  obtain ⟨f356, ef356⟩ : ∃ z : gF, z = va_up f347 q354 (.inr (3, [.int (0 : Int32), .int (0 : Int32), .int (0 : Int32), .int (0 : Int32), .int (0 : Int32), .int (0 : Int32), .int (0 : Int32), .int (0 : Int32), .int (0 : Int32), .int (0 : Int32), .null, .null, .null, .null, .null, .null, .null, .null, .null, .null])) := ⟨_, rfl⟩
  obtain ⟨L357, eL357⟩ : ∃ z : List Nat, z = L304 ++ [q354] := ⟨_, rfl⟩
  have hH := g_re ef356 eL357 hH
  have sb358 : ∀ b ∈ L304, b ∈ L357 := fun b h => by rw [eL357]; exact List.mem_append_left _ h
  have h359 : f218 q23 = .inr (3, [.int (0 : Int32), .int (0 : Int32), .int (0 : Int32), .int (0 : Int32), .int (0 : Int32), .int (0 : Int32), .int (0 : Int32), .int (0 : Int32), .int (0 : Int32), .int (0 : Int32), .ref (na32 0), .ref (na32 1), .ref (na32 2), .ref (na32 3), .ref (na32 4), .ref (na32 5), .ref (na32 6), .ref (na32 7), .ref (na32 8), .ref (na32 9)]) := ((congrFun ef218 q23).trans (va_up_ne _ _ (g_neL h260 n217))).trans h261
  have h360 : q23 ∈ L219 := sb220 _ h260
  have h361 : f303 q23 = .inr (3, [.int (0 : Int32), .int (0 : Int32), .int (0 : Int32), .int (0 : Int32), .int (0 : Int32), .int (0 : Int32), .int (0 : Int32), .int (0 : Int32), .int (0 : Int32), .int (0 : Int32), .ref (na32 0), .ref (na32 1), .ref (na32 2), .ref (na32 3), .ref (na32 4), .ref (na32 5), .ref (na32 6), .ref (na32 7), .ref (na32 8), .ref (na32 9)]) := (k309 q23 h360 h262).trans h359
  have h362 : q23 ∈ L304 := sb308 _ h360
  have h363 : f347 q23 = .inr (3, [.int (0 : Int32), .int (0 : Int32), .int (0 : Int32), .int (0 : Int32), .int (0 : Int32), .int (0 : Int32), .int (0 : Int32), .int (0 : Int32), .int (0 : Int32), .int (0 : Int32), .ref (na32 0), .ref (na32 1), .ref (na32 2), .ref (na32 3), .ref (na32 4), .ref (na32 5), .ref (na32 6), .ref (na32 7), .ref (na32 8), .ref (na32 9)]) := ((congrFun ef347 q23).trans (va_up_ne _ _ (g_neOA h361 h345))).trans h361
  have h364 : q23 ≠ q354 := g_neL h362 n355
  have h365 : f218 q53 = .inr (3, [.int (0 : Int32), .int (0 : Int32), .int (0 : Int32), .int (0 : Int32), .int (0 : Int32), .int (0 : Int32), .int (0 : Int32), .int (0 : Int32), .int (0 : Int32), .int (0 : Int32), .ref (na66 0), .ref (na66 1), .ref (na66 2), .ref (na66 3), .ref (na66 4), .ref (na66 5), .ref (na66 6), .ref (na66 7), .ref (na66 8), .ref (na66 9)]) := ((congrFun ef218 q53).trans (va_up_ne _ _ (g_neL h298 n217))).trans h299
  have h366 : q53 ∈ L219 := sb220 _ h298
  have h367 : f303 q53 = .inr (3, [.int (0 : Int32), .int (0 : Int32), .int (0 : Int32), .int (0 : Int32), .int (0 : Int32), .int (0 : Int32), .int (0 : Int32), .int (0 : Int32), .int (0 : Int32), .int (0 : Int32), .ref (na66 0), .ref (na66 1), .ref (na66 2), .ref (na66 3), .ref (na66 4), .ref (na66 5), .ref (na66 6), .ref (na66 7), .ref (na66 8), .ref (na66 9)]) := (k309 q53 h366 h300).trans h365
  have h368 : q53 ∈ L304 := sb308 _ h366
  have h369 : f347 q53 = .inr (3, [.int (0 : Int32), .int (0 : Int32), .int (0 : Int32), .int (0 : Int32), .int (0 : Int32), .int (0 : Int32), .int (0 : Int32), .int (0 : Int32), .int (0 : Int32), .int (0 : Int32), .ref (na66 0), .ref (na66 1), .ref (na66 2), .ref (na66 3), .ref (na66 4), .ref (na66 5), .ref (na66 6), .ref (na66 7), .ref (na66 8), .ref (na66 9)]) := ((congrFun ef347 q53).trans (va_up_ne _ _ (g_neOA h367 h345))).trans h367
  have h370 : q53 ≠ q354 := g_neL h368 n355
  have h371 : f347 q216 = .inr (3, [.int (0 : Int32), .int (0 : Int32), .int (0 : Int32), .int (0 : Int32), .int (0 : Int32), .int (0 : Int32), .int (0 : Int32), .int (0 : Int32), .int (0 : Int32), .int (0 : Int32), .ref (na305 0), .ref (na305 1), .ref (na305 2), .ref (na305 3), .ref (na305 4), .ref (na305 5), .ref (na305 6), .ref (na305 7), .ref (na305 8), .ref (na305 9)]) := ((congrFun ef347 q216).trans (va_up_ne _ _ (g_neOA h306 h345))).trans h306
  have h372 : q216 ≠ q354 := g_neL h310 n355
  have h373 : q354 ∈ L357 := by rw [eL357]; exact List.mem_append_right _ List.mem_cons_self
  have h374 : f356 q354 = .inr (3, [.int (0 : Int32), .int (0 : Int32), .int (0 : Int32), .int (0 : Int32), .int (0 : Int32), .int (0 : Int32), .int (0 : Int32), .int (0 : Int32), .int (0 : Int32), .int (0 : Int32), .null, .null, .null, .null, .null, .null, .null, .null, .null, .null]) := (congrFun ef356 q354).trans (va_up_self _ _ _)
  refine lv_dup hx hb dX9_init_177 rfl ?_
  refine g_INv C hl.1 hA hH (As := []) (rest := [.ref q354, .int (1 : Int32), .ref q90]) (k_Land l E L357 f356 h373 h374) my_X3_init (host := "GooseShares") (List.mem_of_getElem? (i := 1) rfl) rfl rfl (Nat.le_of_ble_eq_true rfl) ⟨Nat.le_of_ble_eq_true rfl, Nat.le_of_ble_eq_true rfl⟩ ⟨Nat.le_of_ble_eq_true rfl, Nat.le_of_ble_eq_true rfl⟩ dX9_init_178 (fun L376 f375 H locs hp hH => ?_)
  obtain ⟨na377, h378, h379, sb380, k381⟩ := hp
  have h382 := sb380 _ h373
  have h383 : f356 q90 = .inl (E.2.2 4, 3, .inr (.inr (.inr (.inr (va_up (fun _ => none) 0 (some q216)))))) := ((congrFun ef356 q90).trans (va_up_ne _ _ (g_neL h346 n355))).trans h348
  have h384 : q90 ∈ L357 := sb358 _ h346
  have h385 : f375 q90 = .inl (E.2.2 4, 3, .inr (.inr (.inr (.inr (va_up (fun _ => none) 0 (some q216)))))) := (k381 q90 h384 (g_neAO h383 h374)).trans h383
  have h386 : q90 ∈ L376 := sb380 _ h384
  refine g_aast C hH h386 4 rfl h385 h382 h378 rfl (vp_inL (by decide)) dX9_init_181 (fun H locs hH => ?_)
  obtain ⟨f387, ef387⟩ : ∃ z : gF, z = va_up f375 q90 (.inl (E.2.2 4, 3, .inr (.inr (.inr (.inr (va_up (va_up (fun _ => none) 0 (some q216)) 1 (some q354))))))) := ⟨_, rfl⟩
  have hH : gH E A L376 f387 s.heap H locs := by rw [ef387]; exact hH
  have h388 : f387 q90 = .inl (E.2.2 4, 3, .inr (.inr (.inr (.inr (va_up (va_up (fun _ => none) 0 (some q216)) 1 (some q354)))))) := (congrFun ef387 q90).trans (va_up_self _ _ _)
  refine lv_iinc (v := (2 : Int32)) (lv' := [(1, .int (2 : Int32)), (0, .ref q)]) hx hb dX9_init_182 hl (k := 0) rfl (by decide) (by decide) rfl (fun ls hl => ?_)
  refine lv_goto (tgt := 164) hx hb dX9_init_185 (by decide) ?_
  refine lv_iload_n hx hb dX9_init_164 rfl (lv_at hl 0 rfl) ?_
  refine lv_iconst (v := (3 : Int32)) hx hb dX9_init_165 (by decide) ?_
  refine lv_icmp_ge (tgt := 188) hx hb dX9_init_166 (by decide) (fun h => absurd h (by decide)) (fun _ => ?_)
  refine lv_aload_n hx hb dX9_init_169 rfl (lv_at hl 1 rfl) ?_
  have h389 : f356 q = .inr (9, [.ref q1, .ref q23, .ref q44, .ref q90, .ref q101, .ref q112, .ref q130, .ref q151, .ref q169, .ref q187, .ref q205]) := ((congrFun ef356 q).trans (va_up_ne _ _ (g_neL h352 n355))).trans h353
  have h390 : q ∈ L357 := sb358 _ h352
  have h391 : f375 q = .inr (9, [.ref q1, .ref q23, .ref q44, .ref q90, .ref q101, .ref q112, .ref q130, .ref q151, .ref q169, .ref q187, .ref q205]) := (k381 q h390 (g_neO h389 h374 (by decide))).trans h389
  have h392 : q ∈ L376 := sb380 _ h390
  have h393 : f387 q = .inr (9, [.ref q1, .ref q23, .ref q44, .ref q90, .ref q101, .ref q112, .ref q130, .ref q151, .ref q169, .ref q187, .ref q205]) := ((congrFun ef387 q).trans (va_up_ne _ _ (g_neOA h391 h385))).trans h391
  refine g_get C hH h392 h393 iX9 rfl 3 (by decide) wd114 rfl rfl dX9_init_170 ?_
  refine lv_iload_n hx hb dX9_init_173 rfl (lv_at hl 0 rfl) ?_
  refine g_new C hH hA (ci := 3) iX3 tyX3 tyX3_ok wd191 wd192 wd7 rfl (fs := [.int (0 : Int32), .int (0 : Int32), .int (0 : Int32), .int (0 : Int32), .int (0 : Int32), .int (0 : Int32), .int (0 : Int32), .int (0 : Int32), .int (0 : Int32), .int (0 : Int32), .null, .null, .null, .null, .null, .null, .null, .null, .null, .null]) (dvX3) (Nat.le_of_ble_eq_true rfl) (Nat.le_of_ble_eq_true rfl) dX9_init_174 (fun q394 H n395 hH => ?_)
  obtain ⟨f396, ef396⟩ : ∃ z : gF, z = va_up f387 q394 (.inr (3, [.int (0 : Int32), .int (0 : Int32), .int (0 : Int32), .int (0 : Int32), .int (0 : Int32), .int (0 : Int32), .int (0 : Int32), .int (0 : Int32), .int (0 : Int32), .int (0 : Int32), .null, .null, .null, .null, .null, .null, .null, .null, .null, .null])) := ⟨_, rfl⟩
  obtain ⟨L397, eL397⟩ : ∃ z : List Nat, z = L376 ++ [q394] := ⟨_, rfl⟩
  have hH := g_re ef396 eL397 hH
  have sb398 : ∀ b ∈ L376, b ∈ L397 := fun b h => by rw [eL397]; exact List.mem_append_left _ h
  have h399 : f356 q23 = .inr (3, [.int (0 : Int32), .int (0 : Int32), .int (0 : Int32), .int (0 : Int32), .int (0 : Int32), .int (0 : Int32), .int (0 : Int32), .int (0 : Int32), .int (0 : Int32), .int (0 : Int32), .ref (na32 0), .ref (na32 1), .ref (na32 2), .ref (na32 3), .ref (na32 4), .ref (na32 5), .ref (na32 6), .ref (na32 7), .ref (na32 8), .ref (na32 9)]) := ((congrFun ef356 q23).trans (va_up_ne _ _ (g_neL h362 n355))).trans h363
  have h400 : q23 ∈ L357 := sb358 _ h362
  have h401 : f375 q23 = .inr (3, [.int (0 : Int32), .int (0 : Int32), .int (0 : Int32), .int (0 : Int32), .int (0 : Int32), .int (0 : Int32), .int (0 : Int32), .int (0 : Int32), .int (0 : Int32), .int (0 : Int32), .ref (na32 0), .ref (na32 1), .ref (na32 2), .ref (na32 3), .ref (na32 4), .ref (na32 5), .ref (na32 6), .ref (na32 7), .ref (na32 8), .ref (na32 9)]) := (k381 q23 h400 h364).trans h399
  have h402 : q23 ∈ L376 := sb380 _ h400
  have h403 : f387 q23 = .inr (3, [.int (0 : Int32), .int (0 : Int32), .int (0 : Int32), .int (0 : Int32), .int (0 : Int32), .int (0 : Int32), .int (0 : Int32), .int (0 : Int32), .int (0 : Int32), .int (0 : Int32), .ref (na32 0), .ref (na32 1), .ref (na32 2), .ref (na32 3), .ref (na32 4), .ref (na32 5), .ref (na32 6), .ref (na32 7), .ref (na32 8), .ref (na32 9)]) := ((congrFun ef387 q23).trans (va_up_ne _ _ (g_neOA h401 h385))).trans h401
  have h404 : q23 ≠ q394 := g_neL h402 n395
  have h405 : f356 q53 = .inr (3, [.int (0 : Int32), .int (0 : Int32), .int (0 : Int32), .int (0 : Int32), .int (0 : Int32), .int (0 : Int32), .int (0 : Int32), .int (0 : Int32), .int (0 : Int32), .int (0 : Int32), .ref (na66 0), .ref (na66 1), .ref (na66 2), .ref (na66 3), .ref (na66 4), .ref (na66 5), .ref (na66 6), .ref (na66 7), .ref (na66 8), .ref (na66 9)]) := ((congrFun ef356 q53).trans (va_up_ne _ _ (g_neL h368 n355))).trans h369
  have h406 : q53 ∈ L357 := sb358 _ h368
  have h407 : f375 q53 = .inr (3, [.int (0 : Int32), .int (0 : Int32), .int (0 : Int32), .int (0 : Int32), .int (0 : Int32), .int (0 : Int32), .int (0 : Int32), .int (0 : Int32), .int (0 : Int32), .int (0 : Int32), .ref (na66 0), .ref (na66 1), .ref (na66 2), .ref (na66 3), .ref (na66 4), .ref (na66 5), .ref (na66 6), .ref (na66 7), .ref (na66 8), .ref (na66 9)]) := (k381 q53 h406 h370).trans h405
  have h408 : q53 ∈ L376 := sb380 _ h406
  have h409 : f387 q53 = .inr (3, [.int (0 : Int32), .int (0 : Int32), .int (0 : Int32), .int (0 : Int32), .int (0 : Int32), .int (0 : Int32), .int (0 : Int32), .int (0 : Int32), .int (0 : Int32), .int (0 : Int32), .ref (na66 0), .ref (na66 1), .ref (na66 2), .ref (na66 3), .ref (na66 4), .ref (na66 5), .ref (na66 6), .ref (na66 7), .ref (na66 8), .ref (na66 9)]) := ((congrFun ef387 q53).trans (va_up_ne _ _ (g_neOA h407 h385))).trans h407
  have h410 : q53 ≠ q394 := g_neL h408 n395
  have h411 : f356 q216 = .inr (3, [.int (0 : Int32), .int (0 : Int32), .int (0 : Int32), .int (0 : Int32), .int (0 : Int32), .int (0 : Int32), .int (0 : Int32), .int (0 : Int32), .int (0 : Int32), .int (0 : Int32), .ref (na305 0), .ref (na305 1), .ref (na305 2), .ref (na305 3), .ref (na305 4), .ref (na305 5), .ref (na305 6), .ref (na305 7), .ref (na305 8), .ref (na305 9)]) := ((congrFun ef356 q216).trans (va_up_ne _ _ (g_neL h310 n355))).trans h371
  have h412 : q216 ∈ L357 := sb358 _ h310
  have h413 : f375 q216 = .inr (3, [.int (0 : Int32), .int (0 : Int32), .int (0 : Int32), .int (0 : Int32), .int (0 : Int32), .int (0 : Int32), .int (0 : Int32), .int (0 : Int32), .int (0 : Int32), .int (0 : Int32), .ref (na305 0), .ref (na305 1), .ref (na305 2), .ref (na305 3), .ref (na305 4), .ref (na305 5), .ref (na305 6), .ref (na305 7), .ref (na305 8), .ref (na305 9)]) := (k381 q216 h412 h372).trans h411
  have h414 : q216 ∈ L376 := sb380 _ h412
  have h415 : f387 q216 = .inr (3, [.int (0 : Int32), .int (0 : Int32), .int (0 : Int32), .int (0 : Int32), .int (0 : Int32), .int (0 : Int32), .int (0 : Int32), .int (0 : Int32), .int (0 : Int32), .int (0 : Int32), .ref (na305 0), .ref (na305 1), .ref (na305 2), .ref (na305 3), .ref (na305 4), .ref (na305 5), .ref (na305 6), .ref (na305 7), .ref (na305 8), .ref (na305 9)]) := ((congrFun ef387 q216).trans (va_up_ne _ _ (g_neOA h413 h385))).trans h413
  have h416 : q216 ≠ q394 := g_neL h414 n395
  have h417 : f387 q354 = .inr (3, [.int (0 : Int32), .int (0 : Int32), .int (0 : Int32), .int (0 : Int32), .int (0 : Int32), .int (0 : Int32), .int (0 : Int32), .int (0 : Int32), .int (0 : Int32), .int (0 : Int32), .ref (na377 0), .ref (na377 1), .ref (na377 2), .ref (na377 3), .ref (na377 4), .ref (na377 5), .ref (na377 6), .ref (na377 7), .ref (na377 8), .ref (na377 9)]) := ((congrFun ef387 q354).trans (va_up_ne _ _ (g_neOA h378 h385))).trans h378
  have h418 : q354 ≠ q394 := g_neL h382 n395
  have h419 : q394 ∈ L397 := by rw [eL397]; exact List.mem_append_right _ List.mem_cons_self
  have h420 : f396 q394 = .inr (3, [.int (0 : Int32), .int (0 : Int32), .int (0 : Int32), .int (0 : Int32), .int (0 : Int32), .int (0 : Int32), .int (0 : Int32), .int (0 : Int32), .int (0 : Int32), .int (0 : Int32), .null, .null, .null, .null, .null, .null, .null, .null, .null, .null]) := (congrFun ef396 q394).trans (va_up_self _ _ _)
  refine lv_dup hx hb dX9_init_177 rfl ?_
  refine g_INv C hl.1 hA hH (As := []) (rest := [.ref q394, .int (2 : Int32), .ref q90]) (k_Land l E L397 f396 h419 h420) my_X3_init (host := "GooseShares") (List.mem_of_getElem? (i := 1) rfl) rfl rfl (Nat.le_of_ble_eq_true rfl) ⟨Nat.le_of_ble_eq_true rfl, Nat.le_of_ble_eq_true rfl⟩ ⟨Nat.le_of_ble_eq_true rfl, Nat.le_of_ble_eq_true rfl⟩ dX9_init_178 (fun L422 f421 H locs hp hH => ?_)
  obtain ⟨na423, h424, h425, sb426, k427⟩ := hp
  have h428 := sb426 _ h419
  have h429 : f396 q90 = .inl (E.2.2 4, 3, .inr (.inr (.inr (.inr (va_up (va_up (fun _ => none) 0 (some q216)) 1 (some q354)))))) := ((congrFun ef396 q90).trans (va_up_ne _ _ (g_neL h386 n395))).trans h388
  have h430 : q90 ∈ L397 := sb398 _ h386
  have h431 : f421 q90 = .inl (E.2.2 4, 3, .inr (.inr (.inr (.inr (va_up (va_up (fun _ => none) 0 (some q216)) 1 (some q354)))))) := (k427 q90 h430 (g_neAO h429 h420)).trans h429
  have h432 : q90 ∈ L422 := sb426 _ h430
  refine g_aast C hH h432 4 rfl h431 h428 h424 rfl (vp_inL (by decide)) dX9_init_181 (fun H locs hH => ?_)
  obtain ⟨f433, ef433⟩ : ∃ z : gF, z = va_up f421 q90 (.inl (E.2.2 4, 3, .inr (.inr (.inr (.inr (va_up (va_up (va_up (fun _ => none) 0 (some q216)) 1 (some q354)) 2 (some q394))))))) := ⟨_, rfl⟩
  have hH : gH E A L422 f433 s.heap H locs := by rw [ef433]; exact hH
  have h434 : f433 q90 = .inl (E.2.2 4, 3, .inr (.inr (.inr (.inr (va_up (va_up (va_up (fun _ => none) 0 (some q216)) 1 (some q354)) 2 (some q394)))))) := (congrFun ef433 q90).trans (va_up_self _ _ _)
  refine lv_iinc (v := (3 : Int32)) (lv' := [(1, .int (3 : Int32)), (0, .ref q)]) hx hb dX9_init_182 hl (k := 0) rfl (by decide) (by decide) rfl (fun ls hl => ?_)
  refine lv_goto (tgt := 164) hx hb dX9_init_185 (by decide) ?_
  refine lv_iload_n hx hb dX9_init_164 rfl (lv_at hl 0 rfl) ?_
  refine lv_iconst (v := (3 : Int32)) hx hb dX9_init_165 (by decide) ?_
  refine lv_icmp_ge (tgt := 188) hx hb dX9_init_166 (by decide) (fun _ => ?_) (fun h => absurd (by decide) h)
  refine lv_iconst (v := (0 : Int32)) hx hb dX9_init_188 (by decide) ?_
  refine lv_istore_n (lv' := [(1, .int (0 : Int32)), (0, .ref q)]) hx hb dX9_init_189 rfl hl (by decide) rfl (fun ls hl => ?_)
  refine lv_iload_n hx hb dX9_init_190 rfl (lv_at hl 0 rfl) ?_
  refine lv_iconst (v := (4 : Int32)) hx hb dX9_init_191 (by decide) ?_
  refine lv_icmp_ge (tgt := 214) hx hb dX9_init_192 (by decide) (fun h => absurd h (by decide)) (fun _ => ?_)
  refine lv_aload_n hx hb dX9_init_195 rfl (lv_at hl 1 rfl) ?_
  have h435 : f396 q = .inr (9, [.ref q1, .ref q23, .ref q44, .ref q90, .ref q101, .ref q112, .ref q130, .ref q151, .ref q169, .ref q187, .ref q205]) := ((congrFun ef396 q).trans (va_up_ne _ _ (g_neL h392 n395))).trans h393
  have h436 : q ∈ L397 := sb398 _ h392
  have h437 : f421 q = .inr (9, [.ref q1, .ref q23, .ref q44, .ref q90, .ref q101, .ref q112, .ref q130, .ref q151, .ref q169, .ref q187, .ref q205]) := (k427 q h436 (g_neO h435 h420 (by decide))).trans h435
  have h438 : q ∈ L422 := sb426 _ h436
  have h439 : f433 q = .inr (9, [.ref q1, .ref q23, .ref q44, .ref q90, .ref q101, .ref q112, .ref q130, .ref q151, .ref q169, .ref q187, .ref q205]) := ((congrFun ef433 q).trans (va_up_ne _ _ (g_neOA h437 h431))).trans h437
  refine g_get C hH h438 h439 iX9 rfl 4 (by decide) wd65 rfl rfl dX9_init_196 ?_
  refine lv_iload_n hx hb dX9_init_199 rfl (lv_at hl 0 rfl) ?_
  refine g_new C hH hA (ci := 6) iX6 tyX6 tyX6_ok wd200 wd235 wd68 rfl (fs := [.null, .int (0 : Int32), .int (0 : Int32)]) (dvX6) (Nat.le_of_ble_eq_true rfl) (Nat.le_of_ble_eq_true rfl) dX9_init_200 (fun q440 H n441 hH => ?_)
  obtain ⟨f442, ef442⟩ : ∃ z : gF, z = va_up f433 q440 (.inr (6, [.null, .int (0 : Int32), .int (0 : Int32)])) := ⟨_, rfl⟩
  obtain ⟨L443, eL443⟩ : ∃ z : List Nat, z = L422 ++ [q440] := ⟨_, rfl⟩
  have hH := g_re ef442 eL443 hH
  have sb444 : ∀ b ∈ L422, b ∈ L443 := fun b h => by rw [eL443]; exact List.mem_append_left _ h
  have h445 : q440 ∈ L443 := by rw [eL443]; exact List.mem_append_right _ List.mem_cons_self
  have h446 : f442 q440 = .inr (6, [.null, .int (0 : Int32), .int (0 : Int32)]) := (congrFun ef442 q440).trans (va_up_self _ _ _)
  refine lv_dup hx hb dX9_init_203 rfl ?_
  refine g_INv C hl.1 hA hH (As := []) (rest := [.ref q440, .int (0 : Int32), .ref q101]) (k_Row l E L443 f442 h445 h446) my_X6_init (host := "GooseShares") (List.mem_of_getElem? (i := 2) rfl) rfl rfl (Nat.le_of_ble_eq_true rfl) ⟨Nat.le_of_ble_eq_true rfl, Nat.le_of_ble_eq_true rfl⟩ ⟨Nat.le_of_ble_eq_true rfl, Nat.le_of_ble_eq_true rfl⟩ dX9_init_204 (fun L448 f447 H locs hp hH => ?_)
  obtain ⟨q449, h450, h451, h452, sb453, k454⟩ := hp
  have h455 := sb453 _ h445
  have h456 : f110 q101 = .inl (E.2.2 5, 4, .inr (.inr (.inr (.inr (fun _ => none))))) := ((congrFun ef110 q101).trans (va_up_ne _ _ (g_neAO h107 h108))).trans h107
  have h457 : f114 q101 = .inl (E.2.2 5, 4, .inr (.inr (.inr (.inr (fun _ => none))))) := ((congrFun ef114 q101).trans (va_up_ne _ _ (g_neL h106 n113))).trans h456
  have h458 : q101 ∈ L115 := sb116 _ h106
  have h459 : f121 q101 = .inl (E.2.2 5, 4, .inr (.inr (.inr (.inr (fun _ => none))))) := (k125 q101 h458 (g_neAO h457 h118)).trans h457
  have h460 : q101 ∈ L122 := sb124 _ h458
  have h461 : f128 q101 = .inl (E.2.2 5, 4, .inr (.inr (.inr (.inr (fun _ => none))))) := ((congrFun ef128 q101).trans (va_up_ne _ _ (g_neAO h459 h126))).trans h459
  have h462 : f132 q101 = .inl (E.2.2 5, 4, .inr (.inr (.inr (.inr (fun _ => none))))) := ((congrFun ef132 q101).trans (va_up_ne _ _ (g_neL h460 n131))).trans h461
  have h463 : q101 ∈ L133 := sb134 _ h460
  have h464 : f139 q101 = .inl (E.2.2 5, 4, .inr (.inr (.inr (.inr (fun _ => none))))) := (k145 q101 h463 (g_neAO h462 h136)).trans h462
  have h465 : q101 ∈ L140 := sb144 _ h463
  have h466 : f149 q101 = .inl (E.2.2 5, 4, .inr (.inr (.inr (.inr (fun _ => none))))) := ((congrFun ef149 q101).trans (va_up_ne _ _ (g_neAO h464 h147))).trans h464
  have h467 : f153 q101 = .inl (E.2.2 5, 4, .inr (.inr (.inr (.inr (fun _ => none))))) := ((congrFun ef153 q101).trans (va_up_ne _ _ (g_neL h465 n152))).trans h466
  have h468 : q101 ∈ L154 := sb155 _ h465
  have h469 : f160 q101 = .inl (E.2.2 5, 4, .inr (.inr (.inr (.inr (fun _ => none))))) := (k164 q101 h468 (g_neAO h467 h157)).trans h467
  have h470 : q101 ∈ L161 := sb163 _ h468
  have h471 : f167 q101 = .inl (E.2.2 5, 4, .inr (.inr (.inr (.inr (fun _ => none))))) := ((congrFun ef167 q101).trans (va_up_ne _ _ (g_neAO h469 h165))).trans h469
  have h472 : f171 q101 = .inl (E.2.2 5, 4, .inr (.inr (.inr (.inr (fun _ => none))))) := ((congrFun ef171 q101).trans (va_up_ne _ _ (g_neL h470 n170))).trans h471
  have h473 : q101 ∈ L172 := sb173 _ h470
  have h474 : f178 q101 = .inl (E.2.2 5, 4, .inr (.inr (.inr (.inr (fun _ => none))))) := (k182 q101 h473 (g_neAO h472 h175)).trans h472
  have h475 : q101 ∈ L179 := sb181 _ h473
  have h476 : f185 q101 = .inl (E.2.2 5, 4, .inr (.inr (.inr (.inr (fun _ => none))))) := ((congrFun ef185 q101).trans (va_up_ne _ _ (g_neAO h474 h183))).trans h474
  have h477 : f189 q101 = .inl (E.2.2 5, 4, .inr (.inr (.inr (.inr (fun _ => none))))) := ((congrFun ef189 q101).trans (va_up_ne _ _ (g_neL h475 n188))).trans h476
  have h478 : q101 ∈ L190 := sb191 _ h475
  have h479 : f196 q101 = .inl (E.2.2 5, 4, .inr (.inr (.inr (.inr (fun _ => none))))) := (k200 q101 h478 (g_neAO h477 h193)).trans h477
  have h480 : q101 ∈ L197 := sb199 _ h478
  have h481 : f203 q101 = .inl (E.2.2 5, 4, .inr (.inr (.inr (.inr (fun _ => none))))) := ((congrFun ef203 q101).trans (va_up_ne _ _ (g_neAO h479 h201))).trans h479
  have h482 : f207 q101 = .inl (E.2.2 5, 4, .inr (.inr (.inr (.inr (fun _ => none))))) := ((congrFun ef207 q101).trans (va_up_ne _ _ (g_neL h480 n206))).trans h481
  have h483 : q101 ∈ L208 := sb209 _ h480
  have h484 : f214 q101 = .inl (E.2.2 5, 4, .inr (.inr (.inr (.inr (fun _ => none))))) := ((congrFun ef214 q101).trans (va_up_ne _ _ (g_neAO h482 h212))).trans h482
  have h485 : f218 q101 = .inl (E.2.2 5, 4, .inr (.inr (.inr (.inr (fun _ => none))))) := ((congrFun ef218 q101).trans (va_up_ne _ _ (g_neL h483 n217))).trans h484
  have h486 : q101 ∈ L219 := sb220 _ h483
  have h487 : f303 q101 = .inl (E.2.2 5, 4, .inr (.inr (.inr (.inr (fun _ => none))))) := (k309 q101 h486 (g_neAO h485 h302)).trans h485
  have h488 : q101 ∈ L304 := sb308 _ h486
  have h489 : f347 q101 = .inl (E.2.2 5, 4, .inr (.inr (.inr (.inr (fun _ => none))))) := ((congrFun ef347 q101).trans (va_up_ne _ _ (g_neN h487 h345 (by decide)))).trans h487
  have h490 : f356 q101 = .inl (E.2.2 5, 4, .inr (.inr (.inr (.inr (fun _ => none))))) := ((congrFun ef356 q101).trans (va_up_ne _ _ (g_neL h488 n355))).trans h489
  have h491 : q101 ∈ L357 := sb358 _ h488
  have h492 : f375 q101 = .inl (E.2.2 5, 4, .inr (.inr (.inr (.inr (fun _ => none))))) := (k381 q101 h491 (g_neAO h490 h374)).trans h490
  have h493 : q101 ∈ L376 := sb380 _ h491
  have h494 : f387 q101 = .inl (E.2.2 5, 4, .inr (.inr (.inr (.inr (fun _ => none))))) := ((congrFun ef387 q101).trans (va_up_ne _ _ (g_neN h492 h385 (by decide)))).trans h492
  have h495 : f396 q101 = .inl (E.2.2 5, 4, .inr (.inr (.inr (.inr (fun _ => none))))) := ((congrFun ef396 q101).trans (va_up_ne _ _ (g_neL h493 n395))).trans h494
  have h496 : q101 ∈ L397 := sb398 _ h493
  have h497 : f421 q101 = .inl (E.2.2 5, 4, .inr (.inr (.inr (.inr (fun _ => none))))) := (k427 q101 h496 (g_neAO h495 h420)).trans h495
  have h498 : q101 ∈ L422 := sb426 _ h496
  have h499 : f433 q101 = .inl (E.2.2 5, 4, .inr (.inr (.inr (.inr (fun _ => none))))) := ((congrFun ef433 q101).trans (va_up_ne _ _ (g_neN h497 h431 (by decide)))).trans h497
  have h500 : f442 q101 = .inl (E.2.2 5, 4, .inr (.inr (.inr (.inr (fun _ => none))))) := ((congrFun ef442 q101).trans (va_up_ne _ _ (g_neL h498 n441))).trans h499
  have h501 : q101 ∈ L443 := sb444 _ h498
  have h502 : f447 q101 = .inl (E.2.2 5, 4, .inr (.inr (.inr (.inr (fun _ => none))))) := (k454 q101 h501 (g_neAO h500 h446)).trans h500
  have h503 : q101 ∈ L448 := sb453 _ h501
  refine g_aast C hH h503 5 rfl h502 h455 h450 rfl (vp_inL (by decide)) dX9_init_207 (fun H locs hH => ?_)
  obtain ⟨f504, ef504⟩ : ∃ z : gF, z = va_up f447 q101 (.inl (E.2.2 5, 4, .inr (.inr (.inr (.inr (va_up (fun _ => none) 0 (some q440))))))) := ⟨_, rfl⟩
  have hH : gH E A L448 f504 s.heap H locs := by rw [ef504]; exact hH
  have h505 : f504 q101 = .inl (E.2.2 5, 4, .inr (.inr (.inr (.inr (va_up (fun _ => none) 0 (some q440)))))) := (congrFun ef504 q101).trans (va_up_self _ _ _)
  refine lv_iinc (v := (1 : Int32)) (lv' := [(1, .int (1 : Int32)), (0, .ref q)]) hx hb dX9_init_208 hl (k := 0) rfl (by decide) (by decide) rfl (fun ls hl => ?_)
  refine lv_goto (tgt := 190) hx hb dX9_init_211 (by decide) ?_
  refine lv_iload_n hx hb dX9_init_190 rfl (lv_at hl 0 rfl) ?_
  refine lv_iconst (v := (4 : Int32)) hx hb dX9_init_191 (by decide) ?_
  refine lv_icmp_ge (tgt := 214) hx hb dX9_init_192 (by decide) (fun h => absurd h (by decide)) (fun _ => ?_)
  refine lv_aload_n hx hb dX9_init_195 rfl (lv_at hl 1 rfl) ?_
  have h506 : f442 q = .inr (9, [.ref q1, .ref q23, .ref q44, .ref q90, .ref q101, .ref q112, .ref q130, .ref q151, .ref q169, .ref q187, .ref q205]) := ((congrFun ef442 q).trans (va_up_ne _ _ (g_neL h438 n441))).trans h439
  have h507 : q ∈ L443 := sb444 _ h438
  have h508 : f447 q = .inr (9, [.ref q1, .ref q23, .ref q44, .ref q90, .ref q101, .ref q112, .ref q130, .ref q151, .ref q169, .ref q187, .ref q205]) := (k454 q h507 (g_neO h506 h446 (by decide))).trans h506
  have h509 : q ∈ L448 := sb453 _ h507
  have h510 : f504 q = .inr (9, [.ref q1, .ref q23, .ref q44, .ref q90, .ref q101, .ref q112, .ref q130, .ref q151, .ref q169, .ref q187, .ref q205]) := ((congrFun ef504 q).trans (va_up_ne _ _ (g_neOA h508 h502))).trans h508
  refine g_get C hH h509 h510 iX9 rfl 4 (by decide) wd65 rfl rfl dX9_init_196 ?_
  refine lv_iload_n hx hb dX9_init_199 rfl (lv_at hl 0 rfl) ?_
  refine g_new C hH hA (ci := 6) iX6 tyX6 tyX6_ok wd200 wd235 wd68 rfl (fs := [.null, .int (0 : Int32), .int (0 : Int32)]) (dvX6) (Nat.le_of_ble_eq_true rfl) (Nat.le_of_ble_eq_true rfl) dX9_init_200 (fun q511 H n512 hH => ?_)
  obtain ⟨f513, ef513⟩ : ∃ z : gF, z = va_up f504 q511 (.inr (6, [.null, .int (0 : Int32), .int (0 : Int32)])) := ⟨_, rfl⟩
  obtain ⟨L514, eL514⟩ : ∃ z : List Nat, z = L448 ++ [q511] := ⟨_, rfl⟩
  have hH := g_re ef513 eL514 hH
  have sb515 : ∀ b ∈ L448, b ∈ L514 := fun b h => by rw [eL514]; exact List.mem_append_left _ h
  have h516 : f504 q440 = .inr (6, [.ref q449, .int (-1 : Int32), .int (0 : Int32)]) := ((congrFun ef504 q440).trans (va_up_ne _ _ (g_neOA h450 h502))).trans h450
  have h517 : q440 ≠ q511 := g_neL h455 n512
  have h518 : q511 ∈ L514 := by rw [eL514]; exact List.mem_append_right _ List.mem_cons_self
  have h519 : f513 q511 = .inr (6, [.null, .int (0 : Int32), .int (0 : Int32)]) := (congrFun ef513 q511).trans (va_up_self _ _ _)
  refine lv_dup hx hb dX9_init_203 rfl ?_
  refine g_INv C hl.1 hA hH (As := []) (rest := [.ref q511, .int (1 : Int32), .ref q101]) (k_Row l E L514 f513 h518 h519) my_X6_init (host := "GooseShares") (List.mem_of_getElem? (i := 2) rfl) rfl rfl (Nat.le_of_ble_eq_true rfl) ⟨Nat.le_of_ble_eq_true rfl, Nat.le_of_ble_eq_true rfl⟩ ⟨Nat.le_of_ble_eq_true rfl, Nat.le_of_ble_eq_true rfl⟩ dX9_init_204 (fun L521 f520 H locs hp hH => ?_)
  obtain ⟨q522, h523, h524, h525, sb526, k527⟩ := hp
  have h528 := sb526 _ h518
  have h529 : f513 q101 = .inl (E.2.2 5, 4, .inr (.inr (.inr (.inr (va_up (fun _ => none) 0 (some q440)))))) := ((congrFun ef513 q101).trans (va_up_ne _ _ (g_neL h503 n512))).trans h505
  have h530 : q101 ∈ L514 := sb515 _ h503
  have h531 : f520 q101 = .inl (E.2.2 5, 4, .inr (.inr (.inr (.inr (va_up (fun _ => none) 0 (some q440)))))) := (k527 q101 h530 (g_neAO h529 h519)).trans h529
  have h532 : q101 ∈ L521 := sb526 _ h530
  refine g_aast C hH h532 5 rfl h531 h528 h523 rfl (vp_inL (by decide)) dX9_init_207 (fun H locs hH => ?_)
  obtain ⟨f533, ef533⟩ : ∃ z : gF, z = va_up f520 q101 (.inl (E.2.2 5, 4, .inr (.inr (.inr (.inr (va_up (va_up (fun _ => none) 0 (some q440)) 1 (some q511))))))) := ⟨_, rfl⟩
  have hH : gH E A L521 f533 s.heap H locs := by rw [ef533]; exact hH
  have h534 : f533 q101 = .inl (E.2.2 5, 4, .inr (.inr (.inr (.inr (va_up (va_up (fun _ => none) 0 (some q440)) 1 (some q511)))))) := (congrFun ef533 q101).trans (va_up_self _ _ _)
  refine lv_iinc (v := (2 : Int32)) (lv' := [(1, .int (2 : Int32)), (0, .ref q)]) hx hb dX9_init_208 hl (k := 0) rfl (by decide) (by decide) rfl (fun ls hl => ?_)
  refine lv_goto (tgt := 190) hx hb dX9_init_211 (by decide) ?_
  refine lv_iload_n hx hb dX9_init_190 rfl (lv_at hl 0 rfl) ?_
  refine lv_iconst (v := (4 : Int32)) hx hb dX9_init_191 (by decide) ?_
  refine lv_icmp_ge (tgt := 214) hx hb dX9_init_192 (by decide) (fun h => absurd h (by decide)) (fun _ => ?_)
  refine lv_aload_n hx hb dX9_init_195 rfl (lv_at hl 1 rfl) ?_
  have h535 : f513 q = .inr (9, [.ref q1, .ref q23, .ref q44, .ref q90, .ref q101, .ref q112, .ref q130, .ref q151, .ref q169, .ref q187, .ref q205]) := ((congrFun ef513 q).trans (va_up_ne _ _ (g_neL h509 n512))).trans h510
  have h536 : q ∈ L514 := sb515 _ h509
  have h537 : f520 q = .inr (9, [.ref q1, .ref q23, .ref q44, .ref q90, .ref q101, .ref q112, .ref q130, .ref q151, .ref q169, .ref q187, .ref q205]) := (k527 q h536 (g_neO h535 h519 (by decide))).trans h535
  have h538 : q ∈ L521 := sb526 _ h536
  have h539 : f533 q = .inr (9, [.ref q1, .ref q23, .ref q44, .ref q90, .ref q101, .ref q112, .ref q130, .ref q151, .ref q169, .ref q187, .ref q205]) := ((congrFun ef533 q).trans (va_up_ne _ _ (g_neOA h537 h531))).trans h537
  refine g_get C hH h538 h539 iX9 rfl 4 (by decide) wd65 rfl rfl dX9_init_196 ?_
  refine lv_iload_n hx hb dX9_init_199 rfl (lv_at hl 0 rfl) ?_
  refine g_new C hH hA (ci := 6) iX6 tyX6 tyX6_ok wd200 wd235 wd68 rfl (fs := [.null, .int (0 : Int32), .int (0 : Int32)]) (dvX6) (Nat.le_of_ble_eq_true rfl) (Nat.le_of_ble_eq_true rfl) dX9_init_200 (fun q540 H n541 hH => ?_)
  obtain ⟨f542, ef542⟩ : ∃ z : gF, z = va_up f533 q540 (.inr (6, [.null, .int (0 : Int32), .int (0 : Int32)])) := ⟨_, rfl⟩
  obtain ⟨L543, eL543⟩ : ∃ z : List Nat, z = L521 ++ [q540] := ⟨_, rfl⟩
  have hH := g_re ef542 eL543 hH
  have sb544 : ∀ b ∈ L521, b ∈ L543 := fun b h => by rw [eL543]; exact List.mem_append_left _ h
  have h545 : f513 q440 = .inr (6, [.ref q449, .int (-1 : Int32), .int (0 : Int32)]) := ((congrFun ef513 q440).trans (va_up_ne _ _ (g_neL h455 n512))).trans h516
  have h546 : q440 ∈ L514 := sb515 _ h455
  have h547 : f520 q440 = .inr (6, [.ref q449, .int (-1 : Int32), .int (0 : Int32)]) := (k527 q440 h546 h517).trans h545
  have h548 : q440 ∈ L521 := sb526 _ h546
  have h549 : f533 q440 = .inr (6, [.ref q449, .int (-1 : Int32), .int (0 : Int32)]) := ((congrFun ef533 q440).trans (va_up_ne _ _ (g_neOA h547 h531))).trans h547
  have h550 : q440 ≠ q540 := g_neL h548 n541
  have h551 : f533 q511 = .inr (6, [.ref q522, .int (-1 : Int32), .int (0 : Int32)]) := ((congrFun ef533 q511).trans (va_up_ne _ _ (g_neOA h523 h531))).trans h523
  have h552 : q511 ≠ q540 := g_neL h528 n541
  have h553 : q540 ∈ L543 := by rw [eL543]; exact List.mem_append_right _ List.mem_cons_self
  have h554 : f542 q540 = .inr (6, [.null, .int (0 : Int32), .int (0 : Int32)]) := (congrFun ef542 q540).trans (va_up_self _ _ _)
  refine lv_dup hx hb dX9_init_203 rfl ?_
  refine g_INv C hl.1 hA hH (As := []) (rest := [.ref q540, .int (2 : Int32), .ref q101]) (k_Row l E L543 f542 h553 h554) my_X6_init (host := "GooseShares") (List.mem_of_getElem? (i := 2) rfl) rfl rfl (Nat.le_of_ble_eq_true rfl) ⟨Nat.le_of_ble_eq_true rfl, Nat.le_of_ble_eq_true rfl⟩ ⟨Nat.le_of_ble_eq_true rfl, Nat.le_of_ble_eq_true rfl⟩ dX9_init_204 (fun L556 f555 H locs hp hH => ?_)
  obtain ⟨q557, h558, h559, h560, sb561, k562⟩ := hp
  have h563 := sb561 _ h553
  have h564 : f542 q101 = .inl (E.2.2 5, 4, .inr (.inr (.inr (.inr (va_up (va_up (fun _ => none) 0 (some q440)) 1 (some q511)))))) := ((congrFun ef542 q101).trans (va_up_ne _ _ (g_neL h532 n541))).trans h534
  have h565 : q101 ∈ L543 := sb544 _ h532
  have h566 : f555 q101 = .inl (E.2.2 5, 4, .inr (.inr (.inr (.inr (va_up (va_up (fun _ => none) 0 (some q440)) 1 (some q511)))))) := (k562 q101 h565 (g_neAO h564 h554)).trans h564
  have h567 : q101 ∈ L556 := sb561 _ h565
  refine g_aast C hH h567 5 rfl h566 h563 h558 rfl (vp_inL (by decide)) dX9_init_207 (fun H locs hH => ?_)
  obtain ⟨f568, ef568⟩ : ∃ z : gF, z = va_up f555 q101 (.inl (E.2.2 5, 4, .inr (.inr (.inr (.inr (va_up (va_up (va_up (fun _ => none) 0 (some q440)) 1 (some q511)) 2 (some q540))))))) := ⟨_, rfl⟩
  have hH : gH E A L556 f568 s.heap H locs := by rw [ef568]; exact hH
  have h569 : f568 q101 = .inl (E.2.2 5, 4, .inr (.inr (.inr (.inr (va_up (va_up (va_up (fun _ => none) 0 (some q440)) 1 (some q511)) 2 (some q540)))))) := (congrFun ef568 q101).trans (va_up_self _ _ _)
  refine lv_iinc (v := (3 : Int32)) (lv' := [(1, .int (3 : Int32)), (0, .ref q)]) hx hb dX9_init_208 hl (k := 0) rfl (by decide) (by decide) rfl (fun ls hl => ?_)
  refine lv_goto (tgt := 190) hx hb dX9_init_211 (by decide) ?_
  refine lv_iload_n hx hb dX9_init_190 rfl (lv_at hl 0 rfl) ?_
  refine lv_iconst (v := (4 : Int32)) hx hb dX9_init_191 (by decide) ?_
  refine lv_icmp_ge (tgt := 214) hx hb dX9_init_192 (by decide) (fun h => absurd h (by decide)) (fun _ => ?_)
  refine lv_aload_n hx hb dX9_init_195 rfl (lv_at hl 1 rfl) ?_
  have h570 : f542 q = .inr (9, [.ref q1, .ref q23, .ref q44, .ref q90, .ref q101, .ref q112, .ref q130, .ref q151, .ref q169, .ref q187, .ref q205]) := ((congrFun ef542 q).trans (va_up_ne _ _ (g_neL h538 n541))).trans h539
  have h571 : q ∈ L543 := sb544 _ h538
  have h572 : f555 q = .inr (9, [.ref q1, .ref q23, .ref q44, .ref q90, .ref q101, .ref q112, .ref q130, .ref q151, .ref q169, .ref q187, .ref q205]) := (k562 q h571 (g_neO h570 h554 (by decide))).trans h570
  have h573 : q ∈ L556 := sb561 _ h571
  have h574 : f568 q = .inr (9, [.ref q1, .ref q23, .ref q44, .ref q90, .ref q101, .ref q112, .ref q130, .ref q151, .ref q169, .ref q187, .ref q205]) := ((congrFun ef568 q).trans (va_up_ne _ _ (g_neOA h572 h566))).trans h572
  refine g_get C hH h573 h574 iX9 rfl 4 (by decide) wd65 rfl rfl dX9_init_196 ?_
  refine lv_iload_n hx hb dX9_init_199 rfl (lv_at hl 0 rfl) ?_
  refine g_new C hH hA (ci := 6) iX6 tyX6 tyX6_ok wd200 wd235 wd68 rfl (fs := [.null, .int (0 : Int32), .int (0 : Int32)]) (dvX6) (Nat.le_of_ble_eq_true rfl) (Nat.le_of_ble_eq_true rfl) dX9_init_200 (fun q575 H n576 hH => ?_)
  obtain ⟨f577, ef577⟩ : ∃ z : gF, z = va_up f568 q575 (.inr (6, [.null, .int (0 : Int32), .int (0 : Int32)])) := ⟨_, rfl⟩
  obtain ⟨L578, eL578⟩ : ∃ z : List Nat, z = L556 ++ [q575] := ⟨_, rfl⟩
  have hH := g_re ef577 eL578 hH
  have sb579 : ∀ b ∈ L556, b ∈ L578 := fun b h => by rw [eL578]; exact List.mem_append_left _ h
  have h580 : f542 q440 = .inr (6, [.ref q449, .int (-1 : Int32), .int (0 : Int32)]) := ((congrFun ef542 q440).trans (va_up_ne _ _ (g_neL h548 n541))).trans h549
  have h581 : q440 ∈ L543 := sb544 _ h548
  have h582 : f555 q440 = .inr (6, [.ref q449, .int (-1 : Int32), .int (0 : Int32)]) := (k562 q440 h581 h550).trans h580
  have h583 : q440 ∈ L556 := sb561 _ h581
  have h584 : f568 q440 = .inr (6, [.ref q449, .int (-1 : Int32), .int (0 : Int32)]) := ((congrFun ef568 q440).trans (va_up_ne _ _ (g_neOA h582 h566))).trans h582
  have h585 : q440 ≠ q575 := g_neL h583 n576
  have h586 : f542 q511 = .inr (6, [.ref q522, .int (-1 : Int32), .int (0 : Int32)]) := ((congrFun ef542 q511).trans (va_up_ne _ _ (g_neL h528 n541))).trans h551
  have h587 : q511 ∈ L543 := sb544 _ h528
  have h588 : f555 q511 = .inr (6, [.ref q522, .int (-1 : Int32), .int (0 : Int32)]) := (k562 q511 h587 h552).trans h586
  have h589 : q511 ∈ L556 := sb561 _ h587
  have h590 : f568 q511 = .inr (6, [.ref q522, .int (-1 : Int32), .int (0 : Int32)]) := ((congrFun ef568 q511).trans (va_up_ne _ _ (g_neOA h588 h566))).trans h588
  have h591 : q511 ≠ q575 := g_neL h589 n576
  have h592 : f568 q540 = .inr (6, [.ref q557, .int (-1 : Int32), .int (0 : Int32)]) := ((congrFun ef568 q540).trans (va_up_ne _ _ (g_neOA h558 h566))).trans h558
  have h593 : q540 ≠ q575 := g_neL h563 n576
  have h594 : q575 ∈ L578 := by rw [eL578]; exact List.mem_append_right _ List.mem_cons_self
  have h595 : f577 q575 = .inr (6, [.null, .int (0 : Int32), .int (0 : Int32)]) := (congrFun ef577 q575).trans (va_up_self _ _ _)
  refine lv_dup hx hb dX9_init_203 rfl ?_
  refine g_INv C hl.1 hA hH (As := []) (rest := [.ref q575, .int (3 : Int32), .ref q101]) (k_Row l E L578 f577 h594 h595) my_X6_init (host := "GooseShares") (List.mem_of_getElem? (i := 2) rfl) rfl rfl (Nat.le_of_ble_eq_true rfl) ⟨Nat.le_of_ble_eq_true rfl, Nat.le_of_ble_eq_true rfl⟩ ⟨Nat.le_of_ble_eq_true rfl, Nat.le_of_ble_eq_true rfl⟩ dX9_init_204 (fun L597 f596 H locs hp hH => ?_)
  obtain ⟨q598, h599, h600, h601, sb602, k603⟩ := hp
  have h604 := sb602 _ h594
  have h605 : f577 q101 = .inl (E.2.2 5, 4, .inr (.inr (.inr (.inr (va_up (va_up (va_up (fun _ => none) 0 (some q440)) 1 (some q511)) 2 (some q540)))))) := ((congrFun ef577 q101).trans (va_up_ne _ _ (g_neL h567 n576))).trans h569
  have h606 : q101 ∈ L578 := sb579 _ h567
  have h607 : f596 q101 = .inl (E.2.2 5, 4, .inr (.inr (.inr (.inr (va_up (va_up (va_up (fun _ => none) 0 (some q440)) 1 (some q511)) 2 (some q540)))))) := (k603 q101 h606 (g_neAO h605 h595)).trans h605
  have h608 : q101 ∈ L597 := sb602 _ h606
  refine g_aast C hH h608 5 rfl h607 h604 h599 rfl (vp_inL (by decide)) dX9_init_207 (fun H locs hH => ?_)
  obtain ⟨f609, ef609⟩ : ∃ z : gF, z = va_up f596 q101 (.inl (E.2.2 5, 4, .inr (.inr (.inr (.inr (va_up (va_up (va_up (va_up (fun _ => none) 0 (some q440)) 1 (some q511)) 2 (some q540)) 3 (some q575))))))) := ⟨_, rfl⟩
  have hH : gH E A L597 f609 s.heap H locs := by rw [ef609]; exact hH
  have h610 : f609 q101 = .inl (E.2.2 5, 4, .inr (.inr (.inr (.inr (va_up (va_up (va_up (va_up (fun _ => none) 0 (some q440)) 1 (some q511)) 2 (some q540)) 3 (some q575)))))) := (congrFun ef609 q101).trans (va_up_self _ _ _)
  refine lv_iinc (v := (4 : Int32)) (lv' := [(1, .int (4 : Int32)), (0, .ref q)]) hx hb dX9_init_208 hl (k := 0) rfl (by decide) (by decide) rfl (fun ls hl => ?_)
  refine lv_goto (tgt := 190) hx hb dX9_init_211 (by decide) ?_
  refine lv_iload_n hx hb dX9_init_190 rfl (lv_at hl 0 rfl) ?_
  refine lv_iconst (v := (4 : Int32)) hx hb dX9_init_191 (by decide) ?_
  refine lv_icmp_ge (tgt := 214) hx hb dX9_init_192 (by decide) (fun _ => ?_) (fun h => absurd (by decide) h)
  refine g_vret C hr hH (Nat.le_of_ble_eq_true rfl) (Nat.le_of_ble_eq_true rfl) dX9_init_214 ?_
  have h611 : f577 q = .inr (9, [.ref q1, .ref q23, .ref q44, .ref q90, .ref q101, .ref q112, .ref q130, .ref q151, .ref q169, .ref q187, .ref q205]) := ((congrFun ef577 q).trans (va_up_ne _ _ (g_neL h573 n576))).trans h574
  have h612 : q ∈ L578 := sb579 _ h573
  have h613 : f596 q = .inr (9, [.ref q1, .ref q23, .ref q44, .ref q90, .ref q101, .ref q112, .ref q130, .ref q151, .ref q169, .ref q187, .ref q205]) := (k603 q h612 (g_neO h611 h595 (by decide))).trans h611
  have h614 : q ∈ L597 := sb602 _ h612
  have h615 : f609 q = .inr (9, [.ref q1, .ref q23, .ref q44, .ref q90, .ref q101, .ref q112, .ref q130, .ref q151, .ref q169, .ref q187, .ref q205]) := ((congrFun ef609 q).trans (va_up_ne _ _ (g_neOA h613 h607))).trans h613
  have h616 : f21 q1 = .inr (8, [.ref q10, .int (0 : Int32)]) := ((congrFun ef21 q1).trans (va_up_ne _ _ (g_neO h11 h19 (by decide)))).trans h11
  have h617 : f25 q1 = .inr (8, [.ref q10, .int (0 : Int32)]) := ((congrFun ef25 q1).trans (va_up_ne _ _ (g_neL h16 n24))).trans h616
  have h618 : q1 ∈ L26 := sb27 _ h16
  have h619 : f30 q1 = .inr (8, [.ref q10, .int (0 : Int32)]) := (k36 q1 h618 (g_neO h617 h29 (by decide))).trans h617
  have h620 : q1 ∈ L31 := sb35 _ h618
  have h621 : f42 q1 = .inr (8, [.ref q10, .int (0 : Int32)]) := ((congrFun ef42 q1).trans (va_up_ne _ _ (g_neO h619 h40 (by decide)))).trans h619
  have h622 : f46 q1 = .inr (8, [.ref q10, .int (0 : Int32)]) := ((congrFun ef46 q1).trans (va_up_ne _ _ (g_neL h620 n45))).trans h621
  have h623 : q1 ∈ L47 := sb48 _ h620
  have h624 : f55 q1 = .inr (8, [.ref q10, .int (0 : Int32)]) := ((congrFun ef55 q1).trans (va_up_ne _ _ (g_neL h623 n54))).trans h622
  have h625 : q1 ∈ L56 := sb57 _ h623
  have h626 : f64 q1 = .inr (8, [.ref q10, .int (0 : Int32)]) := (k70 q1 h625 (g_neO h624 h63 (by decide))).trans h624
  have h627 : q1 ∈ L65 := sb69 _ h625
  have h628 : f76 q1 = .inr (8, [.ref q10, .int (0 : Int32)]) := (k80 q1 h627 (g_neO h626 h74 (by decide))).trans h626
  have h629 : q1 ∈ L77 := sb79 _ h627
  have h630 : f88 q1 = .inr (8, [.ref q10, .int (0 : Int32)]) := ((congrFun ef88 q1).trans (va_up_ne _ _ (g_neO h628 h86 (by decide)))).trans h628
  have h631 : f92 q1 = .inr (8, [.ref q10, .int (0 : Int32)]) := ((congrFun ef92 q1).trans (va_up_ne _ _ (g_neL h629 n91))).trans h630
  have h632 : q1 ∈ L93 := sb94 _ h629
  have h633 : f99 q1 = .inr (8, [.ref q10, .int (0 : Int32)]) := ((congrFun ef99 q1).trans (va_up_ne _ _ (g_neO h631 h97 (by decide)))).trans h631
  have h634 : f103 q1 = .inr (8, [.ref q10, .int (0 : Int32)]) := ((congrFun ef103 q1).trans (va_up_ne _ _ (g_neL h632 n102))).trans h633
  have h635 : q1 ∈ L104 := sb105 _ h632
  have h636 : f110 q1 = .inr (8, [.ref q10, .int (0 : Int32)]) := ((congrFun ef110 q1).trans (va_up_ne _ _ (g_neO h634 h108 (by decide)))).trans h634
  have h637 : f114 q1 = .inr (8, [.ref q10, .int (0 : Int32)]) := ((congrFun ef114 q1).trans (va_up_ne _ _ (g_neL h635 n113))).trans h636
  have h638 : q1 ∈ L115 := sb116 _ h635
  have h639 : f121 q1 = .inr (8, [.ref q10, .int (0 : Int32)]) := (k125 q1 h638 (g_neO h637 h118 (by decide))).trans h637
  have h640 : q1 ∈ L122 := sb124 _ h638
  have h641 : f128 q1 = .inr (8, [.ref q10, .int (0 : Int32)]) := ((congrFun ef128 q1).trans (va_up_ne _ _ (g_neO h639 h126 (by decide)))).trans h639
  have h642 : f132 q1 = .inr (8, [.ref q10, .int (0 : Int32)]) := ((congrFun ef132 q1).trans (va_up_ne _ _ (g_neL h640 n131))).trans h641
  have h643 : q1 ∈ L133 := sb134 _ h640
  have h644 : f139 q1 = .inr (8, [.ref q10, .int (0 : Int32)]) := (k145 q1 h643 (g_neO h642 h136 (by decide))).trans h642
  have h645 : q1 ∈ L140 := sb144 _ h643
  have h646 : f149 q1 = .inr (8, [.ref q10, .int (0 : Int32)]) := ((congrFun ef149 q1).trans (va_up_ne _ _ (g_neO h644 h147 (by decide)))).trans h644
  have h647 : f153 q1 = .inr (8, [.ref q10, .int (0 : Int32)]) := ((congrFun ef153 q1).trans (va_up_ne _ _ (g_neL h645 n152))).trans h646
  have h648 : q1 ∈ L154 := sb155 _ h645
  have h649 : f160 q1 = .inr (8, [.ref q10, .int (0 : Int32)]) := (k164 q1 h648 (g_neO h647 h157 (by decide))).trans h647
  have h650 : q1 ∈ L161 := sb163 _ h648
  have h651 : f167 q1 = .inr (8, [.ref q10, .int (0 : Int32)]) := ((congrFun ef167 q1).trans (va_up_ne _ _ (g_neO h649 h165 (by decide)))).trans h649
  have h652 : f171 q1 = .inr (8, [.ref q10, .int (0 : Int32)]) := ((congrFun ef171 q1).trans (va_up_ne _ _ (g_neL h650 n170))).trans h651
  have h653 : q1 ∈ L172 := sb173 _ h650
  have h654 : f178 q1 = .inr (8, [.ref q10, .int (0 : Int32)]) := (k182 q1 h653 (g_neO h652 h175 (by decide))).trans h652
  have h655 : q1 ∈ L179 := sb181 _ h653
  have h656 : f185 q1 = .inr (8, [.ref q10, .int (0 : Int32)]) := ((congrFun ef185 q1).trans (va_up_ne _ _ (g_neO h654 h183 (by decide)))).trans h654
  have h657 : f189 q1 = .inr (8, [.ref q10, .int (0 : Int32)]) := ((congrFun ef189 q1).trans (va_up_ne _ _ (g_neL h655 n188))).trans h656
  have h658 : q1 ∈ L190 := sb191 _ h655
  have h659 : f196 q1 = .inr (8, [.ref q10, .int (0 : Int32)]) := (k200 q1 h658 (g_neO h657 h193 (by decide))).trans h657
  have h660 : q1 ∈ L197 := sb199 _ h658
  have h661 : f203 q1 = .inr (8, [.ref q10, .int (0 : Int32)]) := ((congrFun ef203 q1).trans (va_up_ne _ _ (g_neO h659 h201 (by decide)))).trans h659
  have h662 : f207 q1 = .inr (8, [.ref q10, .int (0 : Int32)]) := ((congrFun ef207 q1).trans (va_up_ne _ _ (g_neL h660 n206))).trans h661
  have h663 : q1 ∈ L208 := sb209 _ h660
  have h664 : f214 q1 = .inr (8, [.ref q10, .int (0 : Int32)]) := ((congrFun ef214 q1).trans (va_up_ne _ _ (g_neO h662 h212 (by decide)))).trans h662
  have h665 : f218 q1 = .inr (8, [.ref q10, .int (0 : Int32)]) := ((congrFun ef218 q1).trans (va_up_ne _ _ (g_neL h663 n217))).trans h664
  have h666 : q1 ∈ L219 := sb220 _ h663
  have h667 : f303 q1 = .inr (8, [.ref q10, .int (0 : Int32)]) := (k309 q1 h666 (g_neO h665 h302 (by decide))).trans h665
  have h668 : q1 ∈ L304 := sb308 _ h666
  have h669 : f347 q1 = .inr (8, [.ref q10, .int (0 : Int32)]) := ((congrFun ef347 q1).trans (va_up_ne _ _ (g_neOA h667 h345))).trans h667
  have h670 : f356 q1 = .inr (8, [.ref q10, .int (0 : Int32)]) := ((congrFun ef356 q1).trans (va_up_ne _ _ (g_neL h668 n355))).trans h669
  have h671 : q1 ∈ L357 := sb358 _ h668
  have h672 : f375 q1 = .inr (8, [.ref q10, .int (0 : Int32)]) := (k381 q1 h671 (g_neO h670 h374 (by decide))).trans h670
  have h673 : q1 ∈ L376 := sb380 _ h671
  have h674 : f387 q1 = .inr (8, [.ref q10, .int (0 : Int32)]) := ((congrFun ef387 q1).trans (va_up_ne _ _ (g_neOA h672 h385))).trans h672
  have h675 : f396 q1 = .inr (8, [.ref q10, .int (0 : Int32)]) := ((congrFun ef396 q1).trans (va_up_ne _ _ (g_neL h673 n395))).trans h674
  have h676 : q1 ∈ L397 := sb398 _ h673
  have h677 : f421 q1 = .inr (8, [.ref q10, .int (0 : Int32)]) := (k427 q1 h676 (g_neO h675 h420 (by decide))).trans h675
  have h678 : q1 ∈ L422 := sb426 _ h676
  have h679 : f433 q1 = .inr (8, [.ref q10, .int (0 : Int32)]) := ((congrFun ef433 q1).trans (va_up_ne _ _ (g_neOA h677 h431))).trans h677
  have h680 : f442 q1 = .inr (8, [.ref q10, .int (0 : Int32)]) := ((congrFun ef442 q1).trans (va_up_ne _ _ (g_neL h678 n441))).trans h679
  have h681 : q1 ∈ L443 := sb444 _ h678
  have h682 : f447 q1 = .inr (8, [.ref q10, .int (0 : Int32)]) := (k454 q1 h681 (g_neO h680 h446 (by decide))).trans h680
  have h683 : q1 ∈ L448 := sb453 _ h681
  have h684 : f504 q1 = .inr (8, [.ref q10, .int (0 : Int32)]) := ((congrFun ef504 q1).trans (va_up_ne _ _ (g_neOA h682 h502))).trans h682
  have h685 : f513 q1 = .inr (8, [.ref q10, .int (0 : Int32)]) := ((congrFun ef513 q1).trans (va_up_ne _ _ (g_neL h683 n512))).trans h684
  have h686 : q1 ∈ L514 := sb515 _ h683
  have h687 : f520 q1 = .inr (8, [.ref q10, .int (0 : Int32)]) := (k527 q1 h686 (g_neO h685 h519 (by decide))).trans h685
  have h688 : q1 ∈ L521 := sb526 _ h686
  have h689 : f533 q1 = .inr (8, [.ref q10, .int (0 : Int32)]) := ((congrFun ef533 q1).trans (va_up_ne _ _ (g_neOA h687 h531))).trans h687
  have h690 : f542 q1 = .inr (8, [.ref q10, .int (0 : Int32)]) := ((congrFun ef542 q1).trans (va_up_ne _ _ (g_neL h688 n541))).trans h689
  have h691 : q1 ∈ L543 := sb544 _ h688
  have h692 : f555 q1 = .inr (8, [.ref q10, .int (0 : Int32)]) := (k562 q1 h691 (g_neO h690 h554 (by decide))).trans h690
  have h693 : q1 ∈ L556 := sb561 _ h691
  have h694 : f568 q1 = .inr (8, [.ref q10, .int (0 : Int32)]) := ((congrFun ef568 q1).trans (va_up_ne _ _ (g_neOA h692 h566))).trans h692
  have h695 : f577 q1 = .inr (8, [.ref q10, .int (0 : Int32)]) := ((congrFun ef577 q1).trans (va_up_ne _ _ (g_neL h693 n576))).trans h694
  have h696 : q1 ∈ L578 := sb579 _ h693
  have h697 : f596 q1 = .inr (8, [.ref q10, .int (0 : Int32)]) := (k603 q1 h696 (g_neO h695 h595 (by decide))).trans h695
  have h698 : q1 ∈ L597 := sb602 _ h696
  have h699 : f609 q1 = .inr (8, [.ref q10, .int (0 : Int32)]) := ((congrFun ef609 q1).trans (va_up_ne _ _ (g_neOA h697 h607))).trans h697
  have h700 : f21 q10 = .inl (E.2.2 0, 800, .inl (fun _ => 0)) := ((congrFun ef21 q10).trans (va_up_ne _ _ (g_neAO h13 h19))).trans h13
  have h701 : f25 q10 = .inl (E.2.2 0, 800, .inl (fun _ => 0)) := ((congrFun ef25 q10).trans (va_up_ne _ _ (g_neL h12 n24))).trans h700
  have h702 : q10 ∈ L26 := sb27 _ h12
  have h703 : f30 q10 = .inl (E.2.2 0, 800, .inl (fun _ => 0)) := (k36 q10 h702 (g_neAO h701 h29)).trans h701
  have h704 : q10 ∈ L31 := sb35 _ h702
  have h705 : f42 q10 = .inl (E.2.2 0, 800, .inl (fun _ => 0)) := ((congrFun ef42 q10).trans (va_up_ne _ _ (g_neAO h703 h40))).trans h703
  have h706 : f46 q10 = .inl (E.2.2 0, 800, .inl (fun _ => 0)) := ((congrFun ef46 q10).trans (va_up_ne _ _ (g_neL h704 n45))).trans h705
  have h707 : q10 ∈ L47 := sb48 _ h704
  have h708 : f55 q10 = .inl (E.2.2 0, 800, .inl (fun _ => 0)) := ((congrFun ef55 q10).trans (va_up_ne _ _ (g_neL h707 n54))).trans h706
  have h709 : q10 ∈ L56 := sb57 _ h707
  have h710 : f64 q10 = .inl (E.2.2 0, 800, .inl (fun _ => 0)) := (k70 q10 h709 (g_neAO h708 h63)).trans h708
  have h711 : q10 ∈ L65 := sb69 _ h709
  have h712 : f76 q10 = .inl (E.2.2 0, 800, .inl (fun _ => 0)) := (k80 q10 h711 (g_neAO h710 h74)).trans h710
  have h713 : q10 ∈ L77 := sb79 _ h711
  have h714 : f88 q10 = .inl (E.2.2 0, 800, .inl (fun _ => 0)) := ((congrFun ef88 q10).trans (va_up_ne _ _ (g_neAO h712 h86))).trans h712
  have h715 : f92 q10 = .inl (E.2.2 0, 800, .inl (fun _ => 0)) := ((congrFun ef92 q10).trans (va_up_ne _ _ (g_neL h713 n91))).trans h714
  have h716 : q10 ∈ L93 := sb94 _ h713
  have h717 : f99 q10 = .inl (E.2.2 0, 800, .inl (fun _ => 0)) := ((congrFun ef99 q10).trans (va_up_ne _ _ (g_neAO h715 h97))).trans h715
  have h718 : f103 q10 = .inl (E.2.2 0, 800, .inl (fun _ => 0)) := ((congrFun ef103 q10).trans (va_up_ne _ _ (g_neL h716 n102))).trans h717
  have h719 : q10 ∈ L104 := sb105 _ h716
  have h720 : f110 q10 = .inl (E.2.2 0, 800, .inl (fun _ => 0)) := ((congrFun ef110 q10).trans (va_up_ne _ _ (g_neAO h718 h108))).trans h718
  have h721 : f114 q10 = .inl (E.2.2 0, 800, .inl (fun _ => 0)) := ((congrFun ef114 q10).trans (va_up_ne _ _ (g_neL h719 n113))).trans h720
  have h722 : q10 ∈ L115 := sb116 _ h719
  have h723 : f121 q10 = .inl (E.2.2 0, 800, .inl (fun _ => 0)) := (k125 q10 h722 (g_neAO h721 h118)).trans h721
  have h724 : q10 ∈ L122 := sb124 _ h722
  have h725 : f128 q10 = .inl (E.2.2 0, 800, .inl (fun _ => 0)) := ((congrFun ef128 q10).trans (va_up_ne _ _ (g_neAO h723 h126))).trans h723
  have h726 : f132 q10 = .inl (E.2.2 0, 800, .inl (fun _ => 0)) := ((congrFun ef132 q10).trans (va_up_ne _ _ (g_neL h724 n131))).trans h725
  have h727 : q10 ∈ L133 := sb134 _ h724
  have h728 : f139 q10 = .inl (E.2.2 0, 800, .inl (fun _ => 0)) := (k145 q10 h727 (g_neAO h726 h136)).trans h726
  have h729 : q10 ∈ L140 := sb144 _ h727
  have h730 : f149 q10 = .inl (E.2.2 0, 800, .inl (fun _ => 0)) := ((congrFun ef149 q10).trans (va_up_ne _ _ (g_neAO h728 h147))).trans h728
  have h731 : f153 q10 = .inl (E.2.2 0, 800, .inl (fun _ => 0)) := ((congrFun ef153 q10).trans (va_up_ne _ _ (g_neL h729 n152))).trans h730
  have h732 : q10 ∈ L154 := sb155 _ h729
  have h733 : f160 q10 = .inl (E.2.2 0, 800, .inl (fun _ => 0)) := (k164 q10 h732 (g_neAO h731 h157)).trans h731
  have h734 : q10 ∈ L161 := sb163 _ h732
  have h735 : f167 q10 = .inl (E.2.2 0, 800, .inl (fun _ => 0)) := ((congrFun ef167 q10).trans (va_up_ne _ _ (g_neAO h733 h165))).trans h733
  have h736 : f171 q10 = .inl (E.2.2 0, 800, .inl (fun _ => 0)) := ((congrFun ef171 q10).trans (va_up_ne _ _ (g_neL h734 n170))).trans h735
  have h737 : q10 ∈ L172 := sb173 _ h734
  have h738 : f178 q10 = .inl (E.2.2 0, 800, .inl (fun _ => 0)) := (k182 q10 h737 (g_neAO h736 h175)).trans h736
  have h739 : q10 ∈ L179 := sb181 _ h737
  have h740 : f185 q10 = .inl (E.2.2 0, 800, .inl (fun _ => 0)) := ((congrFun ef185 q10).trans (va_up_ne _ _ (g_neAO h738 h183))).trans h738
  have h741 : f189 q10 = .inl (E.2.2 0, 800, .inl (fun _ => 0)) := ((congrFun ef189 q10).trans (va_up_ne _ _ (g_neL h739 n188))).trans h740
  have h742 : q10 ∈ L190 := sb191 _ h739
  have h743 : f196 q10 = .inl (E.2.2 0, 800, .inl (fun _ => 0)) := (k200 q10 h742 (g_neAO h741 h193)).trans h741
  have h744 : q10 ∈ L197 := sb199 _ h742
  have h745 : f203 q10 = .inl (E.2.2 0, 800, .inl (fun _ => 0)) := ((congrFun ef203 q10).trans (va_up_ne _ _ (g_neAO h743 h201))).trans h743
  have h746 : f207 q10 = .inl (E.2.2 0, 800, .inl (fun _ => 0)) := ((congrFun ef207 q10).trans (va_up_ne _ _ (g_neL h744 n206))).trans h745
  have h747 : q10 ∈ L208 := sb209 _ h744
  have h748 : f214 q10 = .inl (E.2.2 0, 800, .inl (fun _ => 0)) := ((congrFun ef214 q10).trans (va_up_ne _ _ (g_neAO h746 h212))).trans h746
  have h749 : f218 q10 = .inl (E.2.2 0, 800, .inl (fun _ => 0)) := ((congrFun ef218 q10).trans (va_up_ne _ _ (g_neL h747 n217))).trans h748
  have h750 : q10 ∈ L219 := sb220 _ h747
  have h751 : f303 q10 = .inl (E.2.2 0, 800, .inl (fun _ => 0)) := (k309 q10 h750 (g_neAO h749 h302)).trans h749
  have h752 : q10 ∈ L304 := sb308 _ h750
  have h753 : f347 q10 = .inl (E.2.2 0, 800, .inl (fun _ => 0)) := ((congrFun ef347 q10).trans (va_up_ne _ _ (g_neP h751 h345))).trans h751
  have h754 : f356 q10 = .inl (E.2.2 0, 800, .inl (fun _ => 0)) := ((congrFun ef356 q10).trans (va_up_ne _ _ (g_neL h752 n355))).trans h753
  have h755 : q10 ∈ L357 := sb358 _ h752
  have h756 : f375 q10 = .inl (E.2.2 0, 800, .inl (fun _ => 0)) := (k381 q10 h755 (g_neAO h754 h374)).trans h754
  have h757 : q10 ∈ L376 := sb380 _ h755
  have h758 : f387 q10 = .inl (E.2.2 0, 800, .inl (fun _ => 0)) := ((congrFun ef387 q10).trans (va_up_ne _ _ (g_neP h756 h385))).trans h756
  have h759 : f396 q10 = .inl (E.2.2 0, 800, .inl (fun _ => 0)) := ((congrFun ef396 q10).trans (va_up_ne _ _ (g_neL h757 n395))).trans h758
  have h760 : q10 ∈ L397 := sb398 _ h757
  have h761 : f421 q10 = .inl (E.2.2 0, 800, .inl (fun _ => 0)) := (k427 q10 h760 (g_neAO h759 h420)).trans h759
  have h762 : q10 ∈ L422 := sb426 _ h760
  have h763 : f433 q10 = .inl (E.2.2 0, 800, .inl (fun _ => 0)) := ((congrFun ef433 q10).trans (va_up_ne _ _ (g_neP h761 h431))).trans h761
  have h764 : f442 q10 = .inl (E.2.2 0, 800, .inl (fun _ => 0)) := ((congrFun ef442 q10).trans (va_up_ne _ _ (g_neL h762 n441))).trans h763
  have h765 : q10 ∈ L443 := sb444 _ h762
  have h766 : f447 q10 = .inl (E.2.2 0, 800, .inl (fun _ => 0)) := (k454 q10 h765 (g_neAO h764 h446)).trans h764
  have h767 : q10 ∈ L448 := sb453 _ h765
  have h768 : f504 q10 = .inl (E.2.2 0, 800, .inl (fun _ => 0)) := ((congrFun ef504 q10).trans (va_up_ne _ _ (g_neP h766 h502))).trans h766
  have h769 : f513 q10 = .inl (E.2.2 0, 800, .inl (fun _ => 0)) := ((congrFun ef513 q10).trans (va_up_ne _ _ (g_neL h767 n512))).trans h768
  have h770 : q10 ∈ L514 := sb515 _ h767
  have h771 : f520 q10 = .inl (E.2.2 0, 800, .inl (fun _ => 0)) := (k527 q10 h770 (g_neAO h769 h519)).trans h769
  have h772 : q10 ∈ L521 := sb526 _ h770
  have h773 : f533 q10 = .inl (E.2.2 0, 800, .inl (fun _ => 0)) := ((congrFun ef533 q10).trans (va_up_ne _ _ (g_neP h771 h531))).trans h771
  have h774 : f542 q10 = .inl (E.2.2 0, 800, .inl (fun _ => 0)) := ((congrFun ef542 q10).trans (va_up_ne _ _ (g_neL h772 n541))).trans h773
  have h775 : q10 ∈ L543 := sb544 _ h772
  have h776 : f555 q10 = .inl (E.2.2 0, 800, .inl (fun _ => 0)) := (k562 q10 h775 (g_neAO h774 h554)).trans h774
  have h777 : q10 ∈ L556 := sb561 _ h775
  have h778 : f568 q10 = .inl (E.2.2 0, 800, .inl (fun _ => 0)) := ((congrFun ef568 q10).trans (va_up_ne _ _ (g_neP h776 h566))).trans h776
  have h779 : f577 q10 = .inl (E.2.2 0, 800, .inl (fun _ => 0)) := ((congrFun ef577 q10).trans (va_up_ne _ _ (g_neL h777 n576))).trans h778
  have h780 : q10 ∈ L578 := sb579 _ h777
  have h781 : f596 q10 = .inl (E.2.2 0, 800, .inl (fun _ => 0)) := (k603 q10 h780 (g_neAO h779 h595)).trans h779
  have h782 : q10 ∈ L597 := sb602 _ h780
  have h783 : f609 q10 = .inl (E.2.2 0, 800, .inl (fun _ => 0)) := ((congrFun ef609 q10).trans (va_up_ne _ _ (g_neP h781 h607))).trans h781
  have h784 : f396 q23 = .inr (3, [.int (0 : Int32), .int (0 : Int32), .int (0 : Int32), .int (0 : Int32), .int (0 : Int32), .int (0 : Int32), .int (0 : Int32), .int (0 : Int32), .int (0 : Int32), .int (0 : Int32), .ref (na32 0), .ref (na32 1), .ref (na32 2), .ref (na32 3), .ref (na32 4), .ref (na32 5), .ref (na32 6), .ref (na32 7), .ref (na32 8), .ref (na32 9)]) := ((congrFun ef396 q23).trans (va_up_ne _ _ (g_neL h402 n395))).trans h403
  have h785 : q23 ∈ L397 := sb398 _ h402
  have h786 : f421 q23 = .inr (3, [.int (0 : Int32), .int (0 : Int32), .int (0 : Int32), .int (0 : Int32), .int (0 : Int32), .int (0 : Int32), .int (0 : Int32), .int (0 : Int32), .int (0 : Int32), .int (0 : Int32), .ref (na32 0), .ref (na32 1), .ref (na32 2), .ref (na32 3), .ref (na32 4), .ref (na32 5), .ref (na32 6), .ref (na32 7), .ref (na32 8), .ref (na32 9)]) := (k427 q23 h785 h404).trans h784
  have h787 : q23 ∈ L422 := sb426 _ h785
  have h788 : f433 q23 = .inr (3, [.int (0 : Int32), .int (0 : Int32), .int (0 : Int32), .int (0 : Int32), .int (0 : Int32), .int (0 : Int32), .int (0 : Int32), .int (0 : Int32), .int (0 : Int32), .int (0 : Int32), .ref (na32 0), .ref (na32 1), .ref (na32 2), .ref (na32 3), .ref (na32 4), .ref (na32 5), .ref (na32 6), .ref (na32 7), .ref (na32 8), .ref (na32 9)]) := ((congrFun ef433 q23).trans (va_up_ne _ _ (g_neOA h786 h431))).trans h786
  have h789 : f442 q23 = .inr (3, [.int (0 : Int32), .int (0 : Int32), .int (0 : Int32), .int (0 : Int32), .int (0 : Int32), .int (0 : Int32), .int (0 : Int32), .int (0 : Int32), .int (0 : Int32), .int (0 : Int32), .ref (na32 0), .ref (na32 1), .ref (na32 2), .ref (na32 3), .ref (na32 4), .ref (na32 5), .ref (na32 6), .ref (na32 7), .ref (na32 8), .ref (na32 9)]) := ((congrFun ef442 q23).trans (va_up_ne _ _ (g_neL h787 n441))).trans h788
  have h790 : q23 ∈ L443 := sb444 _ h787
  have h791 : f447 q23 = .inr (3, [.int (0 : Int32), .int (0 : Int32), .int (0 : Int32), .int (0 : Int32), .int (0 : Int32), .int (0 : Int32), .int (0 : Int32), .int (0 : Int32), .int (0 : Int32), .int (0 : Int32), .ref (na32 0), .ref (na32 1), .ref (na32 2), .ref (na32 3), .ref (na32 4), .ref (na32 5), .ref (na32 6), .ref (na32 7), .ref (na32 8), .ref (na32 9)]) := (k454 q23 h790 (g_neO h789 h446 (by decide))).trans h789
  have h792 : q23 ∈ L448 := sb453 _ h790
  have h793 : f504 q23 = .inr (3, [.int (0 : Int32), .int (0 : Int32), .int (0 : Int32), .int (0 : Int32), .int (0 : Int32), .int (0 : Int32), .int (0 : Int32), .int (0 : Int32), .int (0 : Int32), .int (0 : Int32), .ref (na32 0), .ref (na32 1), .ref (na32 2), .ref (na32 3), .ref (na32 4), .ref (na32 5), .ref (na32 6), .ref (na32 7), .ref (na32 8), .ref (na32 9)]) := ((congrFun ef504 q23).trans (va_up_ne _ _ (g_neOA h791 h502))).trans h791
  have h794 : f513 q23 = .inr (3, [.int (0 : Int32), .int (0 : Int32), .int (0 : Int32), .int (0 : Int32), .int (0 : Int32), .int (0 : Int32), .int (0 : Int32), .int (0 : Int32), .int (0 : Int32), .int (0 : Int32), .ref (na32 0), .ref (na32 1), .ref (na32 2), .ref (na32 3), .ref (na32 4), .ref (na32 5), .ref (na32 6), .ref (na32 7), .ref (na32 8), .ref (na32 9)]) := ((congrFun ef513 q23).trans (va_up_ne _ _ (g_neL h792 n512))).trans h793
  have h795 : q23 ∈ L514 := sb515 _ h792
  have h796 : f520 q23 = .inr (3, [.int (0 : Int32), .int (0 : Int32), .int (0 : Int32), .int (0 : Int32), .int (0 : Int32), .int (0 : Int32), .int (0 : Int32), .int (0 : Int32), .int (0 : Int32), .int (0 : Int32), .ref (na32 0), .ref (na32 1), .ref (na32 2), .ref (na32 3), .ref (na32 4), .ref (na32 5), .ref (na32 6), .ref (na32 7), .ref (na32 8), .ref (na32 9)]) := (k527 q23 h795 (g_neO h794 h519 (by decide))).trans h794
  have h797 : q23 ∈ L521 := sb526 _ h795
  have h798 : f533 q23 = .inr (3, [.int (0 : Int32), .int (0 : Int32), .int (0 : Int32), .int (0 : Int32), .int (0 : Int32), .int (0 : Int32), .int (0 : Int32), .int (0 : Int32), .int (0 : Int32), .int (0 : Int32), .ref (na32 0), .ref (na32 1), .ref (na32 2), .ref (na32 3), .ref (na32 4), .ref (na32 5), .ref (na32 6), .ref (na32 7), .ref (na32 8), .ref (na32 9)]) := ((congrFun ef533 q23).trans (va_up_ne _ _ (g_neOA h796 h531))).trans h796
  have h799 : f542 q23 = .inr (3, [.int (0 : Int32), .int (0 : Int32), .int (0 : Int32), .int (0 : Int32), .int (0 : Int32), .int (0 : Int32), .int (0 : Int32), .int (0 : Int32), .int (0 : Int32), .int (0 : Int32), .ref (na32 0), .ref (na32 1), .ref (na32 2), .ref (na32 3), .ref (na32 4), .ref (na32 5), .ref (na32 6), .ref (na32 7), .ref (na32 8), .ref (na32 9)]) := ((congrFun ef542 q23).trans (va_up_ne _ _ (g_neL h797 n541))).trans h798
  have h800 : q23 ∈ L543 := sb544 _ h797
  have h801 : f555 q23 = .inr (3, [.int (0 : Int32), .int (0 : Int32), .int (0 : Int32), .int (0 : Int32), .int (0 : Int32), .int (0 : Int32), .int (0 : Int32), .int (0 : Int32), .int (0 : Int32), .int (0 : Int32), .ref (na32 0), .ref (na32 1), .ref (na32 2), .ref (na32 3), .ref (na32 4), .ref (na32 5), .ref (na32 6), .ref (na32 7), .ref (na32 8), .ref (na32 9)]) := (k562 q23 h800 (g_neO h799 h554 (by decide))).trans h799
  have h802 : q23 ∈ L556 := sb561 _ h800
  have h803 : f568 q23 = .inr (3, [.int (0 : Int32), .int (0 : Int32), .int (0 : Int32), .int (0 : Int32), .int (0 : Int32), .int (0 : Int32), .int (0 : Int32), .int (0 : Int32), .int (0 : Int32), .int (0 : Int32), .ref (na32 0), .ref (na32 1), .ref (na32 2), .ref (na32 3), .ref (na32 4), .ref (na32 5), .ref (na32 6), .ref (na32 7), .ref (na32 8), .ref (na32 9)]) := ((congrFun ef568 q23).trans (va_up_ne _ _ (g_neOA h801 h566))).trans h801
  have h804 : f577 q23 = .inr (3, [.int (0 : Int32), .int (0 : Int32), .int (0 : Int32), .int (0 : Int32), .int (0 : Int32), .int (0 : Int32), .int (0 : Int32), .int (0 : Int32), .int (0 : Int32), .int (0 : Int32), .ref (na32 0), .ref (na32 1), .ref (na32 2), .ref (na32 3), .ref (na32 4), .ref (na32 5), .ref (na32 6), .ref (na32 7), .ref (na32 8), .ref (na32 9)]) := ((congrFun ef577 q23).trans (va_up_ne _ _ (g_neL h802 n576))).trans h803
  have h805 : q23 ∈ L578 := sb579 _ h802
  have h806 : f596 q23 = .inr (3, [.int (0 : Int32), .int (0 : Int32), .int (0 : Int32), .int (0 : Int32), .int (0 : Int32), .int (0 : Int32), .int (0 : Int32), .int (0 : Int32), .int (0 : Int32), .int (0 : Int32), .ref (na32 0), .ref (na32 1), .ref (na32 2), .ref (na32 3), .ref (na32 4), .ref (na32 5), .ref (na32 6), .ref (na32 7), .ref (na32 8), .ref (na32 9)]) := (k603 q23 h805 (g_neO h804 h595 (by decide))).trans h804
  have h807 : q23 ∈ L597 := sb602 _ h805
  have h808 : f609 q23 = .inr (3, [.int (0 : Int32), .int (0 : Int32), .int (0 : Int32), .int (0 : Int32), .int (0 : Int32), .int (0 : Int32), .int (0 : Int32), .int (0 : Int32), .int (0 : Int32), .int (0 : Int32), .ref (na32 0), .ref (na32 1), .ref (na32 2), .ref (na32 3), .ref (na32 4), .ref (na32 5), .ref (na32 6), .ref (na32 7), .ref (na32 8), .ref (na32 9)]) := ((congrFun ef609 q23).trans (va_up_ne _ _ (g_neOA h806 h607))).trans h806
  have h809 : f88 q44 = .inr (5, [.ref q1, .ref q53, .int (0 : Int32), .int (0 : Int32), .int (0 : Int32), .int (0 : Int32), .int (-1 : Int32)]) := ((congrFun ef88 q44).trans (va_up_ne _ _ (g_neO h78 h86 (by decide)))).trans h78
  have h810 : f92 q44 = .inr (5, [.ref q1, .ref q53, .int (0 : Int32), .int (0 : Int32), .int (0 : Int32), .int (0 : Int32), .int (-1 : Int32)]) := ((congrFun ef92 q44).trans (va_up_ne _ _ (g_neL h81 n91))).trans h809
  have h811 : q44 ∈ L93 := sb94 _ h81
  have h812 : f99 q44 = .inr (5, [.ref q1, .ref q53, .int (0 : Int32), .int (0 : Int32), .int (0 : Int32), .int (0 : Int32), .int (-1 : Int32)]) := ((congrFun ef99 q44).trans (va_up_ne _ _ (g_neO h810 h97 (by decide)))).trans h810
  have h813 : f103 q44 = .inr (5, [.ref q1, .ref q53, .int (0 : Int32), .int (0 : Int32), .int (0 : Int32), .int (0 : Int32), .int (-1 : Int32)]) := ((congrFun ef103 q44).trans (va_up_ne _ _ (g_neL h811 n102))).trans h812
  have h814 : q44 ∈ L104 := sb105 _ h811
  have h815 : f110 q44 = .inr (5, [.ref q1, .ref q53, .int (0 : Int32), .int (0 : Int32), .int (0 : Int32), .int (0 : Int32), .int (-1 : Int32)]) := ((congrFun ef110 q44).trans (va_up_ne _ _ (g_neO h813 h108 (by decide)))).trans h813
  have h816 : f114 q44 = .inr (5, [.ref q1, .ref q53, .int (0 : Int32), .int (0 : Int32), .int (0 : Int32), .int (0 : Int32), .int (-1 : Int32)]) := ((congrFun ef114 q44).trans (va_up_ne _ _ (g_neL h814 n113))).trans h815
  have h817 : q44 ∈ L115 := sb116 _ h814
  have h818 : f121 q44 = .inr (5, [.ref q1, .ref q53, .int (0 : Int32), .int (0 : Int32), .int (0 : Int32), .int (0 : Int32), .int (-1 : Int32)]) := (k125 q44 h817 (g_neO h816 h118 (by decide))).trans h816
  have h819 : q44 ∈ L122 := sb124 _ h817
  have h820 : f128 q44 = .inr (5, [.ref q1, .ref q53, .int (0 : Int32), .int (0 : Int32), .int (0 : Int32), .int (0 : Int32), .int (-1 : Int32)]) := ((congrFun ef128 q44).trans (va_up_ne _ _ (g_neO h818 h126 (by decide)))).trans h818
  have h821 : f132 q44 = .inr (5, [.ref q1, .ref q53, .int (0 : Int32), .int (0 : Int32), .int (0 : Int32), .int (0 : Int32), .int (-1 : Int32)]) := ((congrFun ef132 q44).trans (va_up_ne _ _ (g_neL h819 n131))).trans h820
  have h822 : q44 ∈ L133 := sb134 _ h819
  have h823 : f139 q44 = .inr (5, [.ref q1, .ref q53, .int (0 : Int32), .int (0 : Int32), .int (0 : Int32), .int (0 : Int32), .int (-1 : Int32)]) := (k145 q44 h822 (g_neO h821 h136 (by decide))).trans h821
  have h824 : q44 ∈ L140 := sb144 _ h822
  have h825 : f149 q44 = .inr (5, [.ref q1, .ref q53, .int (0 : Int32), .int (0 : Int32), .int (0 : Int32), .int (0 : Int32), .int (-1 : Int32)]) := ((congrFun ef149 q44).trans (va_up_ne _ _ (g_neO h823 h147 (by decide)))).trans h823
  have h826 : f153 q44 = .inr (5, [.ref q1, .ref q53, .int (0 : Int32), .int (0 : Int32), .int (0 : Int32), .int (0 : Int32), .int (-1 : Int32)]) := ((congrFun ef153 q44).trans (va_up_ne _ _ (g_neL h824 n152))).trans h825
  have h827 : q44 ∈ L154 := sb155 _ h824
  have h828 : f160 q44 = .inr (5, [.ref q1, .ref q53, .int (0 : Int32), .int (0 : Int32), .int (0 : Int32), .int (0 : Int32), .int (-1 : Int32)]) := (k164 q44 h827 (g_neO h826 h157 (by decide))).trans h826
  have h829 : q44 ∈ L161 := sb163 _ h827
  have h830 : f167 q44 = .inr (5, [.ref q1, .ref q53, .int (0 : Int32), .int (0 : Int32), .int (0 : Int32), .int (0 : Int32), .int (-1 : Int32)]) := ((congrFun ef167 q44).trans (va_up_ne _ _ (g_neO h828 h165 (by decide)))).trans h828
  have h831 : f171 q44 = .inr (5, [.ref q1, .ref q53, .int (0 : Int32), .int (0 : Int32), .int (0 : Int32), .int (0 : Int32), .int (-1 : Int32)]) := ((congrFun ef171 q44).trans (va_up_ne _ _ (g_neL h829 n170))).trans h830
  have h832 : q44 ∈ L172 := sb173 _ h829
  have h833 : f178 q44 = .inr (5, [.ref q1, .ref q53, .int (0 : Int32), .int (0 : Int32), .int (0 : Int32), .int (0 : Int32), .int (-1 : Int32)]) := (k182 q44 h832 (g_neO h831 h175 (by decide))).trans h831
  have h834 : q44 ∈ L179 := sb181 _ h832
  have h835 : f185 q44 = .inr (5, [.ref q1, .ref q53, .int (0 : Int32), .int (0 : Int32), .int (0 : Int32), .int (0 : Int32), .int (-1 : Int32)]) := ((congrFun ef185 q44).trans (va_up_ne _ _ (g_neO h833 h183 (by decide)))).trans h833
  have h836 : f189 q44 = .inr (5, [.ref q1, .ref q53, .int (0 : Int32), .int (0 : Int32), .int (0 : Int32), .int (0 : Int32), .int (-1 : Int32)]) := ((congrFun ef189 q44).trans (va_up_ne _ _ (g_neL h834 n188))).trans h835
  have h837 : q44 ∈ L190 := sb191 _ h834
  have h838 : f196 q44 = .inr (5, [.ref q1, .ref q53, .int (0 : Int32), .int (0 : Int32), .int (0 : Int32), .int (0 : Int32), .int (-1 : Int32)]) := (k200 q44 h837 (g_neO h836 h193 (by decide))).trans h836
  have h839 : q44 ∈ L197 := sb199 _ h837
  have h840 : f203 q44 = .inr (5, [.ref q1, .ref q53, .int (0 : Int32), .int (0 : Int32), .int (0 : Int32), .int (0 : Int32), .int (-1 : Int32)]) := ((congrFun ef203 q44).trans (va_up_ne _ _ (g_neO h838 h201 (by decide)))).trans h838
  have h841 : f207 q44 = .inr (5, [.ref q1, .ref q53, .int (0 : Int32), .int (0 : Int32), .int (0 : Int32), .int (0 : Int32), .int (-1 : Int32)]) := ((congrFun ef207 q44).trans (va_up_ne _ _ (g_neL h839 n206))).trans h840
  have h842 : q44 ∈ L208 := sb209 _ h839
  have h843 : f214 q44 = .inr (5, [.ref q1, .ref q53, .int (0 : Int32), .int (0 : Int32), .int (0 : Int32), .int (0 : Int32), .int (-1 : Int32)]) := ((congrFun ef214 q44).trans (va_up_ne _ _ (g_neO h841 h212 (by decide)))).trans h841
  have h844 : f218 q44 = .inr (5, [.ref q1, .ref q53, .int (0 : Int32), .int (0 : Int32), .int (0 : Int32), .int (0 : Int32), .int (-1 : Int32)]) := ((congrFun ef218 q44).trans (va_up_ne _ _ (g_neL h842 n217))).trans h843
  have h845 : q44 ∈ L219 := sb220 _ h842
  have h846 : f303 q44 = .inr (5, [.ref q1, .ref q53, .int (0 : Int32), .int (0 : Int32), .int (0 : Int32), .int (0 : Int32), .int (-1 : Int32)]) := (k309 q44 h845 (g_neO h844 h302 (by decide))).trans h844
  have h847 : q44 ∈ L304 := sb308 _ h845
  have h848 : f347 q44 = .inr (5, [.ref q1, .ref q53, .int (0 : Int32), .int (0 : Int32), .int (0 : Int32), .int (0 : Int32), .int (-1 : Int32)]) := ((congrFun ef347 q44).trans (va_up_ne _ _ (g_neOA h846 h345))).trans h846
  have h849 : f356 q44 = .inr (5, [.ref q1, .ref q53, .int (0 : Int32), .int (0 : Int32), .int (0 : Int32), .int (0 : Int32), .int (-1 : Int32)]) := ((congrFun ef356 q44).trans (va_up_ne _ _ (g_neL h847 n355))).trans h848
  have h850 : q44 ∈ L357 := sb358 _ h847
  have h851 : f375 q44 = .inr (5, [.ref q1, .ref q53, .int (0 : Int32), .int (0 : Int32), .int (0 : Int32), .int (0 : Int32), .int (-1 : Int32)]) := (k381 q44 h850 (g_neO h849 h374 (by decide))).trans h849
  have h852 : q44 ∈ L376 := sb380 _ h850
  have h853 : f387 q44 = .inr (5, [.ref q1, .ref q53, .int (0 : Int32), .int (0 : Int32), .int (0 : Int32), .int (0 : Int32), .int (-1 : Int32)]) := ((congrFun ef387 q44).trans (va_up_ne _ _ (g_neOA h851 h385))).trans h851
  have h854 : f396 q44 = .inr (5, [.ref q1, .ref q53, .int (0 : Int32), .int (0 : Int32), .int (0 : Int32), .int (0 : Int32), .int (-1 : Int32)]) := ((congrFun ef396 q44).trans (va_up_ne _ _ (g_neL h852 n395))).trans h853
  have h855 : q44 ∈ L397 := sb398 _ h852
  have h856 : f421 q44 = .inr (5, [.ref q1, .ref q53, .int (0 : Int32), .int (0 : Int32), .int (0 : Int32), .int (0 : Int32), .int (-1 : Int32)]) := (k427 q44 h855 (g_neO h854 h420 (by decide))).trans h854
  have h857 : q44 ∈ L422 := sb426 _ h855
  have h858 : f433 q44 = .inr (5, [.ref q1, .ref q53, .int (0 : Int32), .int (0 : Int32), .int (0 : Int32), .int (0 : Int32), .int (-1 : Int32)]) := ((congrFun ef433 q44).trans (va_up_ne _ _ (g_neOA h856 h431))).trans h856
  have h859 : f442 q44 = .inr (5, [.ref q1, .ref q53, .int (0 : Int32), .int (0 : Int32), .int (0 : Int32), .int (0 : Int32), .int (-1 : Int32)]) := ((congrFun ef442 q44).trans (va_up_ne _ _ (g_neL h857 n441))).trans h858
  have h860 : q44 ∈ L443 := sb444 _ h857
  have h861 : f447 q44 = .inr (5, [.ref q1, .ref q53, .int (0 : Int32), .int (0 : Int32), .int (0 : Int32), .int (0 : Int32), .int (-1 : Int32)]) := (k454 q44 h860 (g_neO h859 h446 (by decide))).trans h859
  have h862 : q44 ∈ L448 := sb453 _ h860
  have h863 : f504 q44 = .inr (5, [.ref q1, .ref q53, .int (0 : Int32), .int (0 : Int32), .int (0 : Int32), .int (0 : Int32), .int (-1 : Int32)]) := ((congrFun ef504 q44).trans (va_up_ne _ _ (g_neOA h861 h502))).trans h861
  have h864 : f513 q44 = .inr (5, [.ref q1, .ref q53, .int (0 : Int32), .int (0 : Int32), .int (0 : Int32), .int (0 : Int32), .int (-1 : Int32)]) := ((congrFun ef513 q44).trans (va_up_ne _ _ (g_neL h862 n512))).trans h863
  have h865 : q44 ∈ L514 := sb515 _ h862
  have h866 : f520 q44 = .inr (5, [.ref q1, .ref q53, .int (0 : Int32), .int (0 : Int32), .int (0 : Int32), .int (0 : Int32), .int (-1 : Int32)]) := (k527 q44 h865 (g_neO h864 h519 (by decide))).trans h864
  have h867 : q44 ∈ L521 := sb526 _ h865
  have h868 : f533 q44 = .inr (5, [.ref q1, .ref q53, .int (0 : Int32), .int (0 : Int32), .int (0 : Int32), .int (0 : Int32), .int (-1 : Int32)]) := ((congrFun ef533 q44).trans (va_up_ne _ _ (g_neOA h866 h531))).trans h866
  have h869 : f542 q44 = .inr (5, [.ref q1, .ref q53, .int (0 : Int32), .int (0 : Int32), .int (0 : Int32), .int (0 : Int32), .int (-1 : Int32)]) := ((congrFun ef542 q44).trans (va_up_ne _ _ (g_neL h867 n541))).trans h868
  have h870 : q44 ∈ L543 := sb544 _ h867
  have h871 : f555 q44 = .inr (5, [.ref q1, .ref q53, .int (0 : Int32), .int (0 : Int32), .int (0 : Int32), .int (0 : Int32), .int (-1 : Int32)]) := (k562 q44 h870 (g_neO h869 h554 (by decide))).trans h869
  have h872 : q44 ∈ L556 := sb561 _ h870
  have h873 : f568 q44 = .inr (5, [.ref q1, .ref q53, .int (0 : Int32), .int (0 : Int32), .int (0 : Int32), .int (0 : Int32), .int (-1 : Int32)]) := ((congrFun ef568 q44).trans (va_up_ne _ _ (g_neOA h871 h566))).trans h871
  have h874 : f577 q44 = .inr (5, [.ref q1, .ref q53, .int (0 : Int32), .int (0 : Int32), .int (0 : Int32), .int (0 : Int32), .int (-1 : Int32)]) := ((congrFun ef577 q44).trans (va_up_ne _ _ (g_neL h872 n576))).trans h873
  have h875 : q44 ∈ L578 := sb579 _ h872
  have h876 : f596 q44 = .inr (5, [.ref q1, .ref q53, .int (0 : Int32), .int (0 : Int32), .int (0 : Int32), .int (0 : Int32), .int (-1 : Int32)]) := (k603 q44 h875 (g_neO h874 h595 (by decide))).trans h874
  have h877 : q44 ∈ L597 := sb602 _ h875
  have h878 : f609 q44 = .inr (5, [.ref q1, .ref q53, .int (0 : Int32), .int (0 : Int32), .int (0 : Int32), .int (0 : Int32), .int (-1 : Int32)]) := ((congrFun ef609 q44).trans (va_up_ne _ _ (g_neOA h876 h607))).trans h876
  have h879 : f396 q53 = .inr (3, [.int (0 : Int32), .int (0 : Int32), .int (0 : Int32), .int (0 : Int32), .int (0 : Int32), .int (0 : Int32), .int (0 : Int32), .int (0 : Int32), .int (0 : Int32), .int (0 : Int32), .ref (na66 0), .ref (na66 1), .ref (na66 2), .ref (na66 3), .ref (na66 4), .ref (na66 5), .ref (na66 6), .ref (na66 7), .ref (na66 8), .ref (na66 9)]) := ((congrFun ef396 q53).trans (va_up_ne _ _ (g_neL h408 n395))).trans h409
  have h880 : q53 ∈ L397 := sb398 _ h408
  have h881 : f421 q53 = .inr (3, [.int (0 : Int32), .int (0 : Int32), .int (0 : Int32), .int (0 : Int32), .int (0 : Int32), .int (0 : Int32), .int (0 : Int32), .int (0 : Int32), .int (0 : Int32), .int (0 : Int32), .ref (na66 0), .ref (na66 1), .ref (na66 2), .ref (na66 3), .ref (na66 4), .ref (na66 5), .ref (na66 6), .ref (na66 7), .ref (na66 8), .ref (na66 9)]) := (k427 q53 h880 h410).trans h879
  have h882 : q53 ∈ L422 := sb426 _ h880
  have h883 : f433 q53 = .inr (3, [.int (0 : Int32), .int (0 : Int32), .int (0 : Int32), .int (0 : Int32), .int (0 : Int32), .int (0 : Int32), .int (0 : Int32), .int (0 : Int32), .int (0 : Int32), .int (0 : Int32), .ref (na66 0), .ref (na66 1), .ref (na66 2), .ref (na66 3), .ref (na66 4), .ref (na66 5), .ref (na66 6), .ref (na66 7), .ref (na66 8), .ref (na66 9)]) := ((congrFun ef433 q53).trans (va_up_ne _ _ (g_neOA h881 h431))).trans h881
  have h884 : f442 q53 = .inr (3, [.int (0 : Int32), .int (0 : Int32), .int (0 : Int32), .int (0 : Int32), .int (0 : Int32), .int (0 : Int32), .int (0 : Int32), .int (0 : Int32), .int (0 : Int32), .int (0 : Int32), .ref (na66 0), .ref (na66 1), .ref (na66 2), .ref (na66 3), .ref (na66 4), .ref (na66 5), .ref (na66 6), .ref (na66 7), .ref (na66 8), .ref (na66 9)]) := ((congrFun ef442 q53).trans (va_up_ne _ _ (g_neL h882 n441))).trans h883
  have h885 : q53 ∈ L443 := sb444 _ h882
  have h886 : f447 q53 = .inr (3, [.int (0 : Int32), .int (0 : Int32), .int (0 : Int32), .int (0 : Int32), .int (0 : Int32), .int (0 : Int32), .int (0 : Int32), .int (0 : Int32), .int (0 : Int32), .int (0 : Int32), .ref (na66 0), .ref (na66 1), .ref (na66 2), .ref (na66 3), .ref (na66 4), .ref (na66 5), .ref (na66 6), .ref (na66 7), .ref (na66 8), .ref (na66 9)]) := (k454 q53 h885 (g_neO h884 h446 (by decide))).trans h884
  have h887 : q53 ∈ L448 := sb453 _ h885
  have h888 : f504 q53 = .inr (3, [.int (0 : Int32), .int (0 : Int32), .int (0 : Int32), .int (0 : Int32), .int (0 : Int32), .int (0 : Int32), .int (0 : Int32), .int (0 : Int32), .int (0 : Int32), .int (0 : Int32), .ref (na66 0), .ref (na66 1), .ref (na66 2), .ref (na66 3), .ref (na66 4), .ref (na66 5), .ref (na66 6), .ref (na66 7), .ref (na66 8), .ref (na66 9)]) := ((congrFun ef504 q53).trans (va_up_ne _ _ (g_neOA h886 h502))).trans h886
  have h889 : f513 q53 = .inr (3, [.int (0 : Int32), .int (0 : Int32), .int (0 : Int32), .int (0 : Int32), .int (0 : Int32), .int (0 : Int32), .int (0 : Int32), .int (0 : Int32), .int (0 : Int32), .int (0 : Int32), .ref (na66 0), .ref (na66 1), .ref (na66 2), .ref (na66 3), .ref (na66 4), .ref (na66 5), .ref (na66 6), .ref (na66 7), .ref (na66 8), .ref (na66 9)]) := ((congrFun ef513 q53).trans (va_up_ne _ _ (g_neL h887 n512))).trans h888
  have h890 : q53 ∈ L514 := sb515 _ h887
  have h891 : f520 q53 = .inr (3, [.int (0 : Int32), .int (0 : Int32), .int (0 : Int32), .int (0 : Int32), .int (0 : Int32), .int (0 : Int32), .int (0 : Int32), .int (0 : Int32), .int (0 : Int32), .int (0 : Int32), .ref (na66 0), .ref (na66 1), .ref (na66 2), .ref (na66 3), .ref (na66 4), .ref (na66 5), .ref (na66 6), .ref (na66 7), .ref (na66 8), .ref (na66 9)]) := (k527 q53 h890 (g_neO h889 h519 (by decide))).trans h889
  have h892 : q53 ∈ L521 := sb526 _ h890
  have h893 : f533 q53 = .inr (3, [.int (0 : Int32), .int (0 : Int32), .int (0 : Int32), .int (0 : Int32), .int (0 : Int32), .int (0 : Int32), .int (0 : Int32), .int (0 : Int32), .int (0 : Int32), .int (0 : Int32), .ref (na66 0), .ref (na66 1), .ref (na66 2), .ref (na66 3), .ref (na66 4), .ref (na66 5), .ref (na66 6), .ref (na66 7), .ref (na66 8), .ref (na66 9)]) := ((congrFun ef533 q53).trans (va_up_ne _ _ (g_neOA h891 h531))).trans h891
  have h894 : f542 q53 = .inr (3, [.int (0 : Int32), .int (0 : Int32), .int (0 : Int32), .int (0 : Int32), .int (0 : Int32), .int (0 : Int32), .int (0 : Int32), .int (0 : Int32), .int (0 : Int32), .int (0 : Int32), .ref (na66 0), .ref (na66 1), .ref (na66 2), .ref (na66 3), .ref (na66 4), .ref (na66 5), .ref (na66 6), .ref (na66 7), .ref (na66 8), .ref (na66 9)]) := ((congrFun ef542 q53).trans (va_up_ne _ _ (g_neL h892 n541))).trans h893
  have h895 : q53 ∈ L543 := sb544 _ h892
  have h896 : f555 q53 = .inr (3, [.int (0 : Int32), .int (0 : Int32), .int (0 : Int32), .int (0 : Int32), .int (0 : Int32), .int (0 : Int32), .int (0 : Int32), .int (0 : Int32), .int (0 : Int32), .int (0 : Int32), .ref (na66 0), .ref (na66 1), .ref (na66 2), .ref (na66 3), .ref (na66 4), .ref (na66 5), .ref (na66 6), .ref (na66 7), .ref (na66 8), .ref (na66 9)]) := (k562 q53 h895 (g_neO h894 h554 (by decide))).trans h894
  have h897 : q53 ∈ L556 := sb561 _ h895
  have h898 : f568 q53 = .inr (3, [.int (0 : Int32), .int (0 : Int32), .int (0 : Int32), .int (0 : Int32), .int (0 : Int32), .int (0 : Int32), .int (0 : Int32), .int (0 : Int32), .int (0 : Int32), .int (0 : Int32), .ref (na66 0), .ref (na66 1), .ref (na66 2), .ref (na66 3), .ref (na66 4), .ref (na66 5), .ref (na66 6), .ref (na66 7), .ref (na66 8), .ref (na66 9)]) := ((congrFun ef568 q53).trans (va_up_ne _ _ (g_neOA h896 h566))).trans h896
  have h899 : f577 q53 = .inr (3, [.int (0 : Int32), .int (0 : Int32), .int (0 : Int32), .int (0 : Int32), .int (0 : Int32), .int (0 : Int32), .int (0 : Int32), .int (0 : Int32), .int (0 : Int32), .int (0 : Int32), .ref (na66 0), .ref (na66 1), .ref (na66 2), .ref (na66 3), .ref (na66 4), .ref (na66 5), .ref (na66 6), .ref (na66 7), .ref (na66 8), .ref (na66 9)]) := ((congrFun ef577 q53).trans (va_up_ne _ _ (g_neL h897 n576))).trans h898
  have h900 : q53 ∈ L578 := sb579 _ h897
  have h901 : f596 q53 = .inr (3, [.int (0 : Int32), .int (0 : Int32), .int (0 : Int32), .int (0 : Int32), .int (0 : Int32), .int (0 : Int32), .int (0 : Int32), .int (0 : Int32), .int (0 : Int32), .int (0 : Int32), .ref (na66 0), .ref (na66 1), .ref (na66 2), .ref (na66 3), .ref (na66 4), .ref (na66 5), .ref (na66 6), .ref (na66 7), .ref (na66 8), .ref (na66 9)]) := (k603 q53 h900 (g_neO h899 h595 (by decide))).trans h899
  have h902 : q53 ∈ L597 := sb602 _ h900
  have h903 : f609 q53 = .inr (3, [.int (0 : Int32), .int (0 : Int32), .int (0 : Int32), .int (0 : Int32), .int (0 : Int32), .int (0 : Int32), .int (0 : Int32), .int (0 : Int32), .int (0 : Int32), .int (0 : Int32), .ref (na66 0), .ref (na66 1), .ref (na66 2), .ref (na66 3), .ref (na66 4), .ref (na66 5), .ref (na66 6), .ref (na66 7), .ref (na66 8), .ref (na66 9)]) := ((congrFun ef609 q53).trans (va_up_ne _ _ (g_neOA h901 h607))).trans h901
  have h904 : f149 q130 = .inr (4, [.ref q23, .ref q112, .ref q141, .ref q142, .int (0 : Int32)]) := ((congrFun ef149 q130).trans (va_up_ne _ _ (g_neO h143 h147 (by decide)))).trans h143
  have h905 : f153 q130 = .inr (4, [.ref q23, .ref q112, .ref q141, .ref q142, .int (0 : Int32)]) := ((congrFun ef153 q130).trans (va_up_ne _ _ (g_neL h146 n152))).trans h904
  have h906 : q130 ∈ L154 := sb155 _ h146
  have h907 : f160 q130 = .inr (4, [.ref q23, .ref q112, .ref q141, .ref q142, .int (0 : Int32)]) := (k164 q130 h906 (g_neO h905 h157 (by decide))).trans h905
  have h908 : q130 ∈ L161 := sb163 _ h906
  have h909 : f167 q130 = .inr (4, [.ref q23, .ref q112, .ref q141, .ref q142, .int (0 : Int32)]) := ((congrFun ef167 q130).trans (va_up_ne _ _ (g_neO h907 h165 (by decide)))).trans h907
  have h910 : f171 q130 = .inr (4, [.ref q23, .ref q112, .ref q141, .ref q142, .int (0 : Int32)]) := ((congrFun ef171 q130).trans (va_up_ne _ _ (g_neL h908 n170))).trans h909
  have h911 : q130 ∈ L172 := sb173 _ h908
  have h912 : f178 q130 = .inr (4, [.ref q23, .ref q112, .ref q141, .ref q142, .int (0 : Int32)]) := (k182 q130 h911 (g_neO h910 h175 (by decide))).trans h910
  have h913 : q130 ∈ L179 := sb181 _ h911
  have h914 : f185 q130 = .inr (4, [.ref q23, .ref q112, .ref q141, .ref q142, .int (0 : Int32)]) := ((congrFun ef185 q130).trans (va_up_ne _ _ (g_neO h912 h183 (by decide)))).trans h912
  have h915 : f189 q130 = .inr (4, [.ref q23, .ref q112, .ref q141, .ref q142, .int (0 : Int32)]) := ((congrFun ef189 q130).trans (va_up_ne _ _ (g_neL h913 n188))).trans h914
  have h916 : q130 ∈ L190 := sb191 _ h913
  have h917 : f196 q130 = .inr (4, [.ref q23, .ref q112, .ref q141, .ref q142, .int (0 : Int32)]) := (k200 q130 h916 (g_neO h915 h193 (by decide))).trans h915
  have h918 : q130 ∈ L197 := sb199 _ h916
  have h919 : f203 q130 = .inr (4, [.ref q23, .ref q112, .ref q141, .ref q142, .int (0 : Int32)]) := ((congrFun ef203 q130).trans (va_up_ne _ _ (g_neO h917 h201 (by decide)))).trans h917
  have h920 : f207 q130 = .inr (4, [.ref q23, .ref q112, .ref q141, .ref q142, .int (0 : Int32)]) := ((congrFun ef207 q130).trans (va_up_ne _ _ (g_neL h918 n206))).trans h919
  have h921 : q130 ∈ L208 := sb209 _ h918
  have h922 : f214 q130 = .inr (4, [.ref q23, .ref q112, .ref q141, .ref q142, .int (0 : Int32)]) := ((congrFun ef214 q130).trans (va_up_ne _ _ (g_neO h920 h212 (by decide)))).trans h920
  have h923 : f218 q130 = .inr (4, [.ref q23, .ref q112, .ref q141, .ref q142, .int (0 : Int32)]) := ((congrFun ef218 q130).trans (va_up_ne _ _ (g_neL h921 n217))).trans h922
  have h924 : q130 ∈ L219 := sb220 _ h921
  have h925 : f303 q130 = .inr (4, [.ref q23, .ref q112, .ref q141, .ref q142, .int (0 : Int32)]) := (k309 q130 h924 (g_neO h923 h302 (by decide))).trans h923
  have h926 : q130 ∈ L304 := sb308 _ h924
  have h927 : f347 q130 = .inr (4, [.ref q23, .ref q112, .ref q141, .ref q142, .int (0 : Int32)]) := ((congrFun ef347 q130).trans (va_up_ne _ _ (g_neOA h925 h345))).trans h925
  have h928 : f356 q130 = .inr (4, [.ref q23, .ref q112, .ref q141, .ref q142, .int (0 : Int32)]) := ((congrFun ef356 q130).trans (va_up_ne _ _ (g_neL h926 n355))).trans h927
  have h929 : q130 ∈ L357 := sb358 _ h926
  have h930 : f375 q130 = .inr (4, [.ref q23, .ref q112, .ref q141, .ref q142, .int (0 : Int32)]) := (k381 q130 h929 (g_neO h928 h374 (by decide))).trans h928
  have h931 : q130 ∈ L376 := sb380 _ h929
  have h932 : f387 q130 = .inr (4, [.ref q23, .ref q112, .ref q141, .ref q142, .int (0 : Int32)]) := ((congrFun ef387 q130).trans (va_up_ne _ _ (g_neOA h930 h385))).trans h930
  have h933 : f396 q130 = .inr (4, [.ref q23, .ref q112, .ref q141, .ref q142, .int (0 : Int32)]) := ((congrFun ef396 q130).trans (va_up_ne _ _ (g_neL h931 n395))).trans h932
  have h934 : q130 ∈ L397 := sb398 _ h931
  have h935 : f421 q130 = .inr (4, [.ref q23, .ref q112, .ref q141, .ref q142, .int (0 : Int32)]) := (k427 q130 h934 (g_neO h933 h420 (by decide))).trans h933
  have h936 : q130 ∈ L422 := sb426 _ h934
  have h937 : f433 q130 = .inr (4, [.ref q23, .ref q112, .ref q141, .ref q142, .int (0 : Int32)]) := ((congrFun ef433 q130).trans (va_up_ne _ _ (g_neOA h935 h431))).trans h935
  have h938 : f442 q130 = .inr (4, [.ref q23, .ref q112, .ref q141, .ref q142, .int (0 : Int32)]) := ((congrFun ef442 q130).trans (va_up_ne _ _ (g_neL h936 n441))).trans h937
  have h939 : q130 ∈ L443 := sb444 _ h936
  have h940 : f447 q130 = .inr (4, [.ref q23, .ref q112, .ref q141, .ref q142, .int (0 : Int32)]) := (k454 q130 h939 (g_neO h938 h446 (by decide))).trans h938
  have h941 : q130 ∈ L448 := sb453 _ h939
  have h942 : f504 q130 = .inr (4, [.ref q23, .ref q112, .ref q141, .ref q142, .int (0 : Int32)]) := ((congrFun ef504 q130).trans (va_up_ne _ _ (g_neOA h940 h502))).trans h940
  have h943 : f513 q130 = .inr (4, [.ref q23, .ref q112, .ref q141, .ref q142, .int (0 : Int32)]) := ((congrFun ef513 q130).trans (va_up_ne _ _ (g_neL h941 n512))).trans h942
  have h944 : q130 ∈ L514 := sb515 _ h941
  have h945 : f520 q130 = .inr (4, [.ref q23, .ref q112, .ref q141, .ref q142, .int (0 : Int32)]) := (k527 q130 h944 (g_neO h943 h519 (by decide))).trans h943
  have h946 : q130 ∈ L521 := sb526 _ h944
  have h947 : f533 q130 = .inr (4, [.ref q23, .ref q112, .ref q141, .ref q142, .int (0 : Int32)]) := ((congrFun ef533 q130).trans (va_up_ne _ _ (g_neOA h945 h531))).trans h945
  have h948 : f542 q130 = .inr (4, [.ref q23, .ref q112, .ref q141, .ref q142, .int (0 : Int32)]) := ((congrFun ef542 q130).trans (va_up_ne _ _ (g_neL h946 n541))).trans h947
  have h949 : q130 ∈ L543 := sb544 _ h946
  have h950 : f555 q130 = .inr (4, [.ref q23, .ref q112, .ref q141, .ref q142, .int (0 : Int32)]) := (k562 q130 h949 (g_neO h948 h554 (by decide))).trans h948
  have h951 : q130 ∈ L556 := sb561 _ h949
  have h952 : f568 q130 = .inr (4, [.ref q23, .ref q112, .ref q141, .ref q142, .int (0 : Int32)]) := ((congrFun ef568 q130).trans (va_up_ne _ _ (g_neOA h950 h566))).trans h950
  have h953 : f577 q130 = .inr (4, [.ref q23, .ref q112, .ref q141, .ref q142, .int (0 : Int32)]) := ((congrFun ef577 q130).trans (va_up_ne _ _ (g_neL h951 n576))).trans h952
  have h954 : q130 ∈ L578 := sb579 _ h951
  have h955 : f596 q130 = .inr (4, [.ref q23, .ref q112, .ref q141, .ref q142, .int (0 : Int32)]) := (k603 q130 h954 (g_neO h953 h595 (by decide))).trans h953
  have h956 : q130 ∈ L597 := sb602 _ h954
  have h957 : f609 q130 = .inr (4, [.ref q23, .ref q112, .ref q141, .ref q142, .int (0 : Int32)]) := ((congrFun ef609 q130).trans (va_up_ne _ _ (g_neOA h955 h607))).trans h955
  have h958 : f442 q90 = .inl (E.2.2 4, 3, .inr (.inr (.inr (.inr (va_up (va_up (va_up (fun _ => none) 0 (some q216)) 1 (some q354)) 2 (some q394)))))) := ((congrFun ef442 q90).trans (va_up_ne _ _ (g_neL h432 n441))).trans h434
  have h959 : q90 ∈ L443 := sb444 _ h432
  have h960 : f447 q90 = .inl (E.2.2 4, 3, .inr (.inr (.inr (.inr (va_up (va_up (va_up (fun _ => none) 0 (some q216)) 1 (some q354)) 2 (some q394)))))) := (k454 q90 h959 (g_neAO h958 h446)).trans h958
  have h961 : q90 ∈ L448 := sb453 _ h959
  have h962 : f504 q90 = .inl (E.2.2 4, 3, .inr (.inr (.inr (.inr (va_up (va_up (va_up (fun _ => none) 0 (some q216)) 1 (some q354)) 2 (some q394)))))) := ((congrFun ef504 q90).trans (va_up_ne _ _ (g_neN h960 h502 (by decide)))).trans h960
  have h963 : f513 q90 = .inl (E.2.2 4, 3, .inr (.inr (.inr (.inr (va_up (va_up (va_up (fun _ => none) 0 (some q216)) 1 (some q354)) 2 (some q394)))))) := ((congrFun ef513 q90).trans (va_up_ne _ _ (g_neL h961 n512))).trans h962
  have h964 : q90 ∈ L514 := sb515 _ h961
  have h965 : f520 q90 = .inl (E.2.2 4, 3, .inr (.inr (.inr (.inr (va_up (va_up (va_up (fun _ => none) 0 (some q216)) 1 (some q354)) 2 (some q394)))))) := (k527 q90 h964 (g_neAO h963 h519)).trans h963
  have h966 : q90 ∈ L521 := sb526 _ h964
  have h967 : f533 q90 = .inl (E.2.2 4, 3, .inr (.inr (.inr (.inr (va_up (va_up (va_up (fun _ => none) 0 (some q216)) 1 (some q354)) 2 (some q394)))))) := ((congrFun ef533 q90).trans (va_up_ne _ _ (g_neN h965 h531 (by decide)))).trans h965
  have h968 : f542 q90 = .inl (E.2.2 4, 3, .inr (.inr (.inr (.inr (va_up (va_up (va_up (fun _ => none) 0 (some q216)) 1 (some q354)) 2 (some q394)))))) := ((congrFun ef542 q90).trans (va_up_ne _ _ (g_neL h966 n541))).trans h967
  have h969 : q90 ∈ L543 := sb544 _ h966
  have h970 : f555 q90 = .inl (E.2.2 4, 3, .inr (.inr (.inr (.inr (va_up (va_up (va_up (fun _ => none) 0 (some q216)) 1 (some q354)) 2 (some q394)))))) := (k562 q90 h969 (g_neAO h968 h554)).trans h968
  have h971 : q90 ∈ L556 := sb561 _ h969
  have h972 : f568 q90 = .inl (E.2.2 4, 3, .inr (.inr (.inr (.inr (va_up (va_up (va_up (fun _ => none) 0 (some q216)) 1 (some q354)) 2 (some q394)))))) := ((congrFun ef568 q90).trans (va_up_ne _ _ (g_neN h970 h566 (by decide)))).trans h970
  have h973 : f577 q90 = .inl (E.2.2 4, 3, .inr (.inr (.inr (.inr (va_up (va_up (va_up (fun _ => none) 0 (some q216)) 1 (some q354)) 2 (some q394)))))) := ((congrFun ef577 q90).trans (va_up_ne _ _ (g_neL h971 n576))).trans h972
  have h974 : q90 ∈ L578 := sb579 _ h971
  have h975 : f596 q90 = .inl (E.2.2 4, 3, .inr (.inr (.inr (.inr (va_up (va_up (va_up (fun _ => none) 0 (some q216)) 1 (some q354)) 2 (some q394)))))) := (k603 q90 h974 (g_neAO h973 h595)).trans h973
  have h976 : q90 ∈ L597 := sb602 _ h974
  have h977 : f609 q90 = .inl (E.2.2 4, 3, .inr (.inr (.inr (.inr (va_up (va_up (va_up (fun _ => none) 0 (some q216)) 1 (some q354)) 2 (some q394)))))) := ((congrFun ef609 q90).trans (va_up_ne _ _ (g_neN h975 h607 (by decide)))).trans h975
  have h978 : f214 q205 = .inl (E.2.2 3, 3, .inl (fun _ => 0)) := ((congrFun ef214 q205).trans (va_up_ne _ _ (g_neAO h211 h212))).trans h211
  have h979 : f218 q205 = .inl (E.2.2 3, 3, .inl (fun _ => 0)) := ((congrFun ef218 q205).trans (va_up_ne _ _ (g_neL h210 n217))).trans h978
  have h980 : q205 ∈ L219 := sb220 _ h210
  have h981 : f303 q205 = .inl (E.2.2 3, 3, .inl (fun _ => 0)) := (k309 q205 h980 (g_neAO h979 h302)).trans h979
  have h982 : q205 ∈ L304 := sb308 _ h980
  have h983 : f347 q205 = .inl (E.2.2 3, 3, .inl (fun _ => 0)) := ((congrFun ef347 q205).trans (va_up_ne _ _ (g_neP h981 h345))).trans h981
  have h984 : f356 q205 = .inl (E.2.2 3, 3, .inl (fun _ => 0)) := ((congrFun ef356 q205).trans (va_up_ne _ _ (g_neL h982 n355))).trans h983
  have h985 : q205 ∈ L357 := sb358 _ h982
  have h986 : f375 q205 = .inl (E.2.2 3, 3, .inl (fun _ => 0)) := (k381 q205 h985 (g_neAO h984 h374)).trans h984
  have h987 : q205 ∈ L376 := sb380 _ h985
  have h988 : f387 q205 = .inl (E.2.2 3, 3, .inl (fun _ => 0)) := ((congrFun ef387 q205).trans (va_up_ne _ _ (g_neP h986 h385))).trans h986
  have h989 : f396 q205 = .inl (E.2.2 3, 3, .inl (fun _ => 0)) := ((congrFun ef396 q205).trans (va_up_ne _ _ (g_neL h987 n395))).trans h988
  have h990 : q205 ∈ L397 := sb398 _ h987
  have h991 : f421 q205 = .inl (E.2.2 3, 3, .inl (fun _ => 0)) := (k427 q205 h990 (g_neAO h989 h420)).trans h989
  have h992 : q205 ∈ L422 := sb426 _ h990
  have h993 : f433 q205 = .inl (E.2.2 3, 3, .inl (fun _ => 0)) := ((congrFun ef433 q205).trans (va_up_ne _ _ (g_neP h991 h431))).trans h991
  have h994 : f442 q205 = .inl (E.2.2 3, 3, .inl (fun _ => 0)) := ((congrFun ef442 q205).trans (va_up_ne _ _ (g_neL h992 n441))).trans h993
  have h995 : q205 ∈ L443 := sb444 _ h992
  have h996 : f447 q205 = .inl (E.2.2 3, 3, .inl (fun _ => 0)) := (k454 q205 h995 (g_neAO h994 h446)).trans h994
  have h997 : q205 ∈ L448 := sb453 _ h995
  have h998 : f504 q205 = .inl (E.2.2 3, 3, .inl (fun _ => 0)) := ((congrFun ef504 q205).trans (va_up_ne _ _ (g_neP h996 h502))).trans h996
  have h999 : f513 q205 = .inl (E.2.2 3, 3, .inl (fun _ => 0)) := ((congrFun ef513 q205).trans (va_up_ne _ _ (g_neL h997 n512))).trans h998
  have h1000 : q205 ∈ L514 := sb515 _ h997
  have h1001 : f520 q205 = .inl (E.2.2 3, 3, .inl (fun _ => 0)) := (k527 q205 h1000 (g_neAO h999 h519)).trans h999
  have h1002 : q205 ∈ L521 := sb526 _ h1000
  have h1003 : f533 q205 = .inl (E.2.2 3, 3, .inl (fun _ => 0)) := ((congrFun ef533 q205).trans (va_up_ne _ _ (g_neP h1001 h531))).trans h1001
  have h1004 : f542 q205 = .inl (E.2.2 3, 3, .inl (fun _ => 0)) := ((congrFun ef542 q205).trans (va_up_ne _ _ (g_neL h1002 n541))).trans h1003
  have h1005 : q205 ∈ L543 := sb544 _ h1002
  have h1006 : f555 q205 = .inl (E.2.2 3, 3, .inl (fun _ => 0)) := (k562 q205 h1005 (g_neAO h1004 h554)).trans h1004
  have h1007 : q205 ∈ L556 := sb561 _ h1005
  have h1008 : f568 q205 = .inl (E.2.2 3, 3, .inl (fun _ => 0)) := ((congrFun ef568 q205).trans (va_up_ne _ _ (g_neP h1006 h566))).trans h1006
  have h1009 : f577 q205 = .inl (E.2.2 3, 3, .inl (fun _ => 0)) := ((congrFun ef577 q205).trans (va_up_ne _ _ (g_neL h1007 n576))).trans h1008
  have h1010 : q205 ∈ L578 := sb579 _ h1007
  have h1011 : f596 q205 = .inl (E.2.2 3, 3, .inl (fun _ => 0)) := (k603 q205 h1010 (g_neAO h1009 h595)).trans h1009
  have h1012 : q205 ∈ L597 := sb602 _ h1010
  have h1013 : f609 q205 = .inl (E.2.2 3, 3, .inl (fun _ => 0)) := ((congrFun ef609 q205).trans (va_up_ne _ _ (g_neP h1011 h607))).trans h1011
  have h1014 := gArrs_upO ef42 h40 h34
  have h1015 := gArrs_grow ef46 eL47 n45 h1014
  have h1016 := gArrs_grow ef55 eL56 n54 h1015
  have h1017 := gArrs_sub sb69 k70 h63 h1016
  have h1018 := gArrs_sub sb79 k80 h74 h1017
  have h1019 := gArrs_upO ef88 h86 h1018
  have h1020 := gArrs_grow ef92 eL93 n91 h1019
  have h1021 := gArrs_upO ef99 h97 h1020
  have h1022 := gArrs_grow ef103 eL104 n102 h1021
  have h1023 := gArrs_upO ef110 h108 h1022
  have h1024 := gArrs_grow ef114 eL115 n113 h1023
  have h1025 := gArrs_sub sb124 k125 h118 h1024
  have h1026 := gArrs_upO ef128 h126 h1025
  have h1027 := gArrs_grow ef132 eL133 n131 h1026
  have h1028 := gArrs_sub sb144 k145 h136 h1027
  have h1029 := gArrs_upO ef149 h147 h1028
  have h1030 := gArrs_grow ef153 eL154 n152 h1029
  have h1031 := gArrs_sub sb163 k164 h157 h1030
  have h1032 := gArrs_upO ef167 h165 h1031
  have h1033 := gArrs_grow ef171 eL172 n170 h1032
  have h1034 := gArrs_sub sb181 k182 h175 h1033
  have h1035 := gArrs_upO ef185 h183 h1034
  have h1036 := gArrs_grow ef189 eL190 n188 h1035
  have h1037 := gArrs_sub sb199 k200 h193 h1036
  have h1038 := gArrs_upO ef203 h201 h1037
  have h1039 := gArrs_grow ef207 eL208 n206 h1038
  have h1040 := gArrs_upO ef214 h212 h1039
  have h1041 := gArrs_grow ef218 eL219 n217 h1040
  have h1042 := gArrs_sub sb308 k309 h302 h1041
  have h1043 := gArrs_upQ ef347 h345 h1042
  have h1044 := gArrs_grow ef356 eL357 n355 h1043
  have h1045 := gArrs_sub sb380 k381 h374 h1044
  have h1046 := gArrs_upQ ef387 h385 h1045
  have h1047 := gArrs_grow ef396 eL397 n395 h1046
  have h1048 := gArrs_sub sb426 k427 h420 h1047
  have h1049 := gArrs_upQ ef433 h431 h1048
  have h1050 := gArrs_grow ef442 eL443 n441 h1049
  have h1051 := gArrs_sub sb453 k454 h446 h1050
  have h1052 := gArrs_upQ ef504 h502 h1051
  have h1053 := gArrs_grow ef513 eL514 n512 h1052
  have h1054 := gArrs_sub sb526 k527 h519 h1053
  have h1055 := gArrs_upQ ef533 h531 h1054
  have h1056 := gArrs_grow ef542 eL543 n541 h1055
  have h1057 := gArrs_sub sb561 k562 h554 h1056
  have h1058 := gArrs_upQ ef568 h566 h1057
  have h1059 := gArrs_grow ef577 eL578 n576 h1058
  have h1060 := gArrs_sub sb602 k603 h595 h1059
  have h1061 := gArrs_upQ ef609 h607 h1060
  have h1062 := gArrs_sub sb79 k80 h74 h68
  have h1063 := gArrs_upO ef88 h86 h1062
  have h1064 := gArrs_grow ef92 eL93 n91 h1063
  have h1065 := gArrs_upO ef99 h97 h1064
  have h1066 := gArrs_grow ef103 eL104 n102 h1065
  have h1067 := gArrs_upO ef110 h108 h1066
  have h1068 := gArrs_grow ef114 eL115 n113 h1067
  have h1069 := gArrs_sub sb124 k125 h118 h1068
  have h1070 := gArrs_upO ef128 h126 h1069
  have h1071 := gArrs_grow ef132 eL133 n131 h1070
  have h1072 := gArrs_sub sb144 k145 h136 h1071
  have h1073 := gArrs_upO ef149 h147 h1072
  have h1074 := gArrs_grow ef153 eL154 n152 h1073
  have h1075 := gArrs_sub sb163 k164 h157 h1074
  have h1076 := gArrs_upO ef167 h165 h1075
  have h1077 := gArrs_grow ef171 eL172 n170 h1076
  have h1078 := gArrs_sub sb181 k182 h175 h1077
  have h1079 := gArrs_upO ef185 h183 h1078
  have h1080 := gArrs_grow ef189 eL190 n188 h1079
  have h1081 := gArrs_sub sb199 k200 h193 h1080
  have h1082 := gArrs_upO ef203 h201 h1081
  have h1083 := gArrs_grow ef207 eL208 n206 h1082
  have h1084 := gArrs_upO ef214 h212 h1083
  have h1085 := gArrs_grow ef218 eL219 n217 h1084
  have h1086 := gArrs_sub sb308 k309 h302 h1085
  have h1087 := gArrs_upQ ef347 h345 h1086
  have h1088 := gArrs_grow ef356 eL357 n355 h1087
  have h1089 := gArrs_sub sb380 k381 h374 h1088
  have h1090 := gArrs_upQ ef387 h385 h1089
  have h1091 := gArrs_grow ef396 eL397 n395 h1090
  have h1092 := gArrs_sub sb426 k427 h420 h1091
  have h1093 := gArrs_upQ ef433 h431 h1092
  have h1094 := gArrs_grow ef442 eL443 n441 h1093
  have h1095 := gArrs_sub sb453 k454 h446 h1094
  have h1096 := gArrs_upQ ef504 h502 h1095
  have h1097 := gArrs_grow ef513 eL514 n512 h1096
  have h1098 := gArrs_sub sb526 k527 h519 h1097
  have h1099 := gArrs_upQ ef533 h531 h1098
  have h1100 := gArrs_grow ef542 eL543 n541 h1099
  have h1101 := gArrs_sub sb561 k562 h554 h1100
  have h1102 := gArrs_upQ ef568 h566 h1101
  have h1103 := gArrs_grow ef577 eL578 n576 h1102
  have h1104 := gArrs_sub sb602 k603 h595 h1103
  have h1105 := gArrs_upQ ef609 h607 h1104
  have h1106 : f577 q440 = .inr (6, [.ref q449, .int (-1 : Int32), .int (0 : Int32)]) := ((congrFun ef577 q440).trans (va_up_ne _ _ (g_neL h583 n576))).trans h584
  have h1107 : q440 ∈ L578 := sb579 _ h583
  have h1108 : f596 q440 = .inr (6, [.ref q449, .int (-1 : Int32), .int (0 : Int32)]) := (k603 q440 h1107 h585).trans h1106
  have h1109 : q440 ∈ L597 := sb602 _ h1107
  have h1110 : f609 q440 = .inr (6, [.ref q449, .int (-1 : Int32), .int (0 : Int32)]) := ((congrFun ef609 q440).trans (va_up_ne _ _ (g_neOA h1108 h607))).trans h1108
  have h1111 : f504 q449 = .inl (E.2.2 2, 60, .inr (.inl (fun _ => 0))) := ((congrFun ef504 q449).trans (va_up_ne _ _ (g_neN h452 h502 (by decide)))).trans h452
  have h1112 : f513 q449 = .inl (E.2.2 2, 60, .inr (.inl (fun _ => 0))) := ((congrFun ef513 q449).trans (va_up_ne _ _ (g_neL h451 n512))).trans h1111
  have h1113 : q449 ∈ L514 := sb515 _ h451
  have h1114 : f520 q449 = .inl (E.2.2 2, 60, .inr (.inl (fun _ => 0))) := (k527 q449 h1113 (g_neAO h1112 h519)).trans h1112
  have h1115 : q449 ∈ L521 := sb526 _ h1113
  have h1116 : f533 q449 = .inl (E.2.2 2, 60, .inr (.inl (fun _ => 0))) := ((congrFun ef533 q449).trans (va_up_ne _ _ (g_neN h1114 h531 (by decide)))).trans h1114
  have h1117 : f542 q449 = .inl (E.2.2 2, 60, .inr (.inl (fun _ => 0))) := ((congrFun ef542 q449).trans (va_up_ne _ _ (g_neL h1115 n541))).trans h1116
  have h1118 : q449 ∈ L543 := sb544 _ h1115
  have h1119 : f555 q449 = .inl (E.2.2 2, 60, .inr (.inl (fun _ => 0))) := (k562 q449 h1118 (g_neAO h1117 h554)).trans h1117
  have h1120 : q449 ∈ L556 := sb561 _ h1118
  have h1121 : f568 q449 = .inl (E.2.2 2, 60, .inr (.inl (fun _ => 0))) := ((congrFun ef568 q449).trans (va_up_ne _ _ (g_neN h1119 h566 (by decide)))).trans h1119
  have h1122 : f577 q449 = .inl (E.2.2 2, 60, .inr (.inl (fun _ => 0))) := ((congrFun ef577 q449).trans (va_up_ne _ _ (g_neL h1120 n576))).trans h1121
  have h1123 : q449 ∈ L578 := sb579 _ h1120
  have h1124 : f596 q449 = .inl (E.2.2 2, 60, .inr (.inl (fun _ => 0))) := (k603 q449 h1123 (g_neAO h1122 h595)).trans h1122
  have h1125 : q449 ∈ L597 := sb602 _ h1123
  have h1126 : f609 q449 = .inl (E.2.2 2, 60, .inr (.inl (fun _ => 0))) := ((congrFun ef609 q449).trans (va_up_ne _ _ (g_neN h1124 h607 (by decide)))).trans h1124
  have h1127 : f577 q511 = .inr (6, [.ref q522, .int (-1 : Int32), .int (0 : Int32)]) := ((congrFun ef577 q511).trans (va_up_ne _ _ (g_neL h589 n576))).trans h590
  have h1128 : q511 ∈ L578 := sb579 _ h589
  have h1129 : f596 q511 = .inr (6, [.ref q522, .int (-1 : Int32), .int (0 : Int32)]) := (k603 q511 h1128 h591).trans h1127
  have h1130 : q511 ∈ L597 := sb602 _ h1128
  have h1131 : f609 q511 = .inr (6, [.ref q522, .int (-1 : Int32), .int (0 : Int32)]) := ((congrFun ef609 q511).trans (va_up_ne _ _ (g_neOA h1129 h607))).trans h1129
  have h1132 : f533 q522 = .inl (E.2.2 2, 60, .inr (.inl (fun _ => 0))) := ((congrFun ef533 q522).trans (va_up_ne _ _ (g_neN h525 h531 (by decide)))).trans h525
  have h1133 : f542 q522 = .inl (E.2.2 2, 60, .inr (.inl (fun _ => 0))) := ((congrFun ef542 q522).trans (va_up_ne _ _ (g_neL h524 n541))).trans h1132
  have h1134 : q522 ∈ L543 := sb544 _ h524
  have h1135 : f555 q522 = .inl (E.2.2 2, 60, .inr (.inl (fun _ => 0))) := (k562 q522 h1134 (g_neAO h1133 h554)).trans h1133
  have h1136 : q522 ∈ L556 := sb561 _ h1134
  have h1137 : f568 q522 = .inl (E.2.2 2, 60, .inr (.inl (fun _ => 0))) := ((congrFun ef568 q522).trans (va_up_ne _ _ (g_neN h1135 h566 (by decide)))).trans h1135
  have h1138 : f577 q522 = .inl (E.2.2 2, 60, .inr (.inl (fun _ => 0))) := ((congrFun ef577 q522).trans (va_up_ne _ _ (g_neL h1136 n576))).trans h1137
  have h1139 : q522 ∈ L578 := sb579 _ h1136
  have h1140 : f596 q522 = .inl (E.2.2 2, 60, .inr (.inl (fun _ => 0))) := (k603 q522 h1139 (g_neAO h1138 h595)).trans h1138
  have h1141 : q522 ∈ L597 := sb602 _ h1139
  have h1142 : f609 q522 = .inl (E.2.2 2, 60, .inr (.inl (fun _ => 0))) := ((congrFun ef609 q522).trans (va_up_ne _ _ (g_neN h1140 h607 (by decide)))).trans h1140
  have h1143 : f577 q540 = .inr (6, [.ref q557, .int (-1 : Int32), .int (0 : Int32)]) := ((congrFun ef577 q540).trans (va_up_ne _ _ (g_neL h563 n576))).trans h592
  have h1144 : q540 ∈ L578 := sb579 _ h563
  have h1145 : f596 q540 = .inr (6, [.ref q557, .int (-1 : Int32), .int (0 : Int32)]) := (k603 q540 h1144 h593).trans h1143
  have h1146 : q540 ∈ L597 := sb602 _ h1144
  have h1147 : f609 q540 = .inr (6, [.ref q557, .int (-1 : Int32), .int (0 : Int32)]) := ((congrFun ef609 q540).trans (va_up_ne _ _ (g_neOA h1145 h607))).trans h1145
  have h1148 : f568 q557 = .inl (E.2.2 2, 60, .inr (.inl (fun _ => 0))) := ((congrFun ef568 q557).trans (va_up_ne _ _ (g_neN h560 h566 (by decide)))).trans h560
  have h1149 : f577 q557 = .inl (E.2.2 2, 60, .inr (.inl (fun _ => 0))) := ((congrFun ef577 q557).trans (va_up_ne _ _ (g_neL h559 n576))).trans h1148
  have h1150 : q557 ∈ L578 := sb579 _ h559
  have h1151 : f596 q557 = .inl (E.2.2 2, 60, .inr (.inl (fun _ => 0))) := (k603 q557 h1150 (g_neAO h1149 h595)).trans h1149
  have h1152 : q557 ∈ L597 := sb602 _ h1150
  have h1153 : f609 q557 = .inl (E.2.2 2, 60, .inr (.inl (fun _ => 0))) := ((congrFun ef609 q557).trans (va_up_ne _ _ (g_neN h1151 h607 (by decide)))).trans h1151
  have h1154 : f609 q575 = .inr (6, [.ref q598, .int (-1 : Int32), .int (0 : Int32)]) := ((congrFun ef609 q575).trans (va_up_ne _ _ (g_neOA h599 h607))).trans h599
  have h1155 : f609 q598 = .inl (E.2.2 2, 60, .inr (.inl (fun _ => 0))) := ((congrFun ef609 q598).trans (va_up_ne _ _ (g_neN h601 h607 (by decide)))).trans h601
  have h1156 : f396 q216 = .inr (3, [.int (0 : Int32), .int (0 : Int32), .int (0 : Int32), .int (0 : Int32), .int (0 : Int32), .int (0 : Int32), .int (0 : Int32), .int (0 : Int32), .int (0 : Int32), .int (0 : Int32), .ref (na305 0), .ref (na305 1), .ref (na305 2), .ref (na305 3), .ref (na305 4), .ref (na305 5), .ref (na305 6), .ref (na305 7), .ref (na305 8), .ref (na305 9)]) := ((congrFun ef396 q216).trans (va_up_ne _ _ (g_neL h414 n395))).trans h415
  have h1157 : q216 ∈ L397 := sb398 _ h414
  have h1158 : f421 q216 = .inr (3, [.int (0 : Int32), .int (0 : Int32), .int (0 : Int32), .int (0 : Int32), .int (0 : Int32), .int (0 : Int32), .int (0 : Int32), .int (0 : Int32), .int (0 : Int32), .int (0 : Int32), .ref (na305 0), .ref (na305 1), .ref (na305 2), .ref (na305 3), .ref (na305 4), .ref (na305 5), .ref (na305 6), .ref (na305 7), .ref (na305 8), .ref (na305 9)]) := (k427 q216 h1157 h416).trans h1156
  have h1159 : q216 ∈ L422 := sb426 _ h1157
  have h1160 : f433 q216 = .inr (3, [.int (0 : Int32), .int (0 : Int32), .int (0 : Int32), .int (0 : Int32), .int (0 : Int32), .int (0 : Int32), .int (0 : Int32), .int (0 : Int32), .int (0 : Int32), .int (0 : Int32), .ref (na305 0), .ref (na305 1), .ref (na305 2), .ref (na305 3), .ref (na305 4), .ref (na305 5), .ref (na305 6), .ref (na305 7), .ref (na305 8), .ref (na305 9)]) := ((congrFun ef433 q216).trans (va_up_ne _ _ (g_neOA h1158 h431))).trans h1158
  have h1161 : f442 q216 = .inr (3, [.int (0 : Int32), .int (0 : Int32), .int (0 : Int32), .int (0 : Int32), .int (0 : Int32), .int (0 : Int32), .int (0 : Int32), .int (0 : Int32), .int (0 : Int32), .int (0 : Int32), .ref (na305 0), .ref (na305 1), .ref (na305 2), .ref (na305 3), .ref (na305 4), .ref (na305 5), .ref (na305 6), .ref (na305 7), .ref (na305 8), .ref (na305 9)]) := ((congrFun ef442 q216).trans (va_up_ne _ _ (g_neL h1159 n441))).trans h1160
  have h1162 : q216 ∈ L443 := sb444 _ h1159
  have h1163 : f447 q216 = .inr (3, [.int (0 : Int32), .int (0 : Int32), .int (0 : Int32), .int (0 : Int32), .int (0 : Int32), .int (0 : Int32), .int (0 : Int32), .int (0 : Int32), .int (0 : Int32), .int (0 : Int32), .ref (na305 0), .ref (na305 1), .ref (na305 2), .ref (na305 3), .ref (na305 4), .ref (na305 5), .ref (na305 6), .ref (na305 7), .ref (na305 8), .ref (na305 9)]) := (k454 q216 h1162 (g_neO h1161 h446 (by decide))).trans h1161
  have h1164 : q216 ∈ L448 := sb453 _ h1162
  have h1165 : f504 q216 = .inr (3, [.int (0 : Int32), .int (0 : Int32), .int (0 : Int32), .int (0 : Int32), .int (0 : Int32), .int (0 : Int32), .int (0 : Int32), .int (0 : Int32), .int (0 : Int32), .int (0 : Int32), .ref (na305 0), .ref (na305 1), .ref (na305 2), .ref (na305 3), .ref (na305 4), .ref (na305 5), .ref (na305 6), .ref (na305 7), .ref (na305 8), .ref (na305 9)]) := ((congrFun ef504 q216).trans (va_up_ne _ _ (g_neOA h1163 h502))).trans h1163
  have h1166 : f513 q216 = .inr (3, [.int (0 : Int32), .int (0 : Int32), .int (0 : Int32), .int (0 : Int32), .int (0 : Int32), .int (0 : Int32), .int (0 : Int32), .int (0 : Int32), .int (0 : Int32), .int (0 : Int32), .ref (na305 0), .ref (na305 1), .ref (na305 2), .ref (na305 3), .ref (na305 4), .ref (na305 5), .ref (na305 6), .ref (na305 7), .ref (na305 8), .ref (na305 9)]) := ((congrFun ef513 q216).trans (va_up_ne _ _ (g_neL h1164 n512))).trans h1165
  have h1167 : q216 ∈ L514 := sb515 _ h1164
  have h1168 : f520 q216 = .inr (3, [.int (0 : Int32), .int (0 : Int32), .int (0 : Int32), .int (0 : Int32), .int (0 : Int32), .int (0 : Int32), .int (0 : Int32), .int (0 : Int32), .int (0 : Int32), .int (0 : Int32), .ref (na305 0), .ref (na305 1), .ref (na305 2), .ref (na305 3), .ref (na305 4), .ref (na305 5), .ref (na305 6), .ref (na305 7), .ref (na305 8), .ref (na305 9)]) := (k527 q216 h1167 (g_neO h1166 h519 (by decide))).trans h1166
  have h1169 : q216 ∈ L521 := sb526 _ h1167
  have h1170 : f533 q216 = .inr (3, [.int (0 : Int32), .int (0 : Int32), .int (0 : Int32), .int (0 : Int32), .int (0 : Int32), .int (0 : Int32), .int (0 : Int32), .int (0 : Int32), .int (0 : Int32), .int (0 : Int32), .ref (na305 0), .ref (na305 1), .ref (na305 2), .ref (na305 3), .ref (na305 4), .ref (na305 5), .ref (na305 6), .ref (na305 7), .ref (na305 8), .ref (na305 9)]) := ((congrFun ef533 q216).trans (va_up_ne _ _ (g_neOA h1168 h531))).trans h1168
  have h1171 : f542 q216 = .inr (3, [.int (0 : Int32), .int (0 : Int32), .int (0 : Int32), .int (0 : Int32), .int (0 : Int32), .int (0 : Int32), .int (0 : Int32), .int (0 : Int32), .int (0 : Int32), .int (0 : Int32), .ref (na305 0), .ref (na305 1), .ref (na305 2), .ref (na305 3), .ref (na305 4), .ref (na305 5), .ref (na305 6), .ref (na305 7), .ref (na305 8), .ref (na305 9)]) := ((congrFun ef542 q216).trans (va_up_ne _ _ (g_neL h1169 n541))).trans h1170
  have h1172 : q216 ∈ L543 := sb544 _ h1169
  have h1173 : f555 q216 = .inr (3, [.int (0 : Int32), .int (0 : Int32), .int (0 : Int32), .int (0 : Int32), .int (0 : Int32), .int (0 : Int32), .int (0 : Int32), .int (0 : Int32), .int (0 : Int32), .int (0 : Int32), .ref (na305 0), .ref (na305 1), .ref (na305 2), .ref (na305 3), .ref (na305 4), .ref (na305 5), .ref (na305 6), .ref (na305 7), .ref (na305 8), .ref (na305 9)]) := (k562 q216 h1172 (g_neO h1171 h554 (by decide))).trans h1171
  have h1174 : q216 ∈ L556 := sb561 _ h1172
  have h1175 : f568 q216 = .inr (3, [.int (0 : Int32), .int (0 : Int32), .int (0 : Int32), .int (0 : Int32), .int (0 : Int32), .int (0 : Int32), .int (0 : Int32), .int (0 : Int32), .int (0 : Int32), .int (0 : Int32), .ref (na305 0), .ref (na305 1), .ref (na305 2), .ref (na305 3), .ref (na305 4), .ref (na305 5), .ref (na305 6), .ref (na305 7), .ref (na305 8), .ref (na305 9)]) := ((congrFun ef568 q216).trans (va_up_ne _ _ (g_neOA h1173 h566))).trans h1173
  have h1176 : f577 q216 = .inr (3, [.int (0 : Int32), .int (0 : Int32), .int (0 : Int32), .int (0 : Int32), .int (0 : Int32), .int (0 : Int32), .int (0 : Int32), .int (0 : Int32), .int (0 : Int32), .int (0 : Int32), .ref (na305 0), .ref (na305 1), .ref (na305 2), .ref (na305 3), .ref (na305 4), .ref (na305 5), .ref (na305 6), .ref (na305 7), .ref (na305 8), .ref (na305 9)]) := ((congrFun ef577 q216).trans (va_up_ne _ _ (g_neL h1174 n576))).trans h1175
  have h1177 : q216 ∈ L578 := sb579 _ h1174
  have h1178 : f596 q216 = .inr (3, [.int (0 : Int32), .int (0 : Int32), .int (0 : Int32), .int (0 : Int32), .int (0 : Int32), .int (0 : Int32), .int (0 : Int32), .int (0 : Int32), .int (0 : Int32), .int (0 : Int32), .ref (na305 0), .ref (na305 1), .ref (na305 2), .ref (na305 3), .ref (na305 4), .ref (na305 5), .ref (na305 6), .ref (na305 7), .ref (na305 8), .ref (na305 9)]) := (k603 q216 h1177 (g_neO h1176 h595 (by decide))).trans h1176
  have h1179 : q216 ∈ L597 := sb602 _ h1177
  have h1180 : f609 q216 = .inr (3, [.int (0 : Int32), .int (0 : Int32), .int (0 : Int32), .int (0 : Int32), .int (0 : Int32), .int (0 : Int32), .int (0 : Int32), .int (0 : Int32), .int (0 : Int32), .int (0 : Int32), .ref (na305 0), .ref (na305 1), .ref (na305 2), .ref (na305 3), .ref (na305 4), .ref (na305 5), .ref (na305 6), .ref (na305 7), .ref (na305 8), .ref (na305 9)]) := ((congrFun ef609 q216).trans (va_up_ne _ _ (g_neOA h1178 h607))).trans h1178
  have h1181 := gArrs_upQ ef347 h345 h307
  have h1182 := gArrs_grow ef356 eL357 n355 h1181
  have h1183 := gArrs_sub sb380 k381 h374 h1182
  have h1184 := gArrs_upQ ef387 h385 h1183
  have h1185 := gArrs_grow ef396 eL397 n395 h1184
  have h1186 := gArrs_sub sb426 k427 h420 h1185
  have h1187 := gArrs_upQ ef433 h431 h1186
  have h1188 := gArrs_grow ef442 eL443 n441 h1187
  have h1189 := gArrs_sub sb453 k454 h446 h1188
  have h1190 := gArrs_upQ ef504 h502 h1189
  have h1191 := gArrs_grow ef513 eL514 n512 h1190
  have h1192 := gArrs_sub sb526 k527 h519 h1191
  have h1193 := gArrs_upQ ef533 h531 h1192
  have h1194 := gArrs_grow ef542 eL543 n541 h1193
  have h1195 := gArrs_sub sb561 k562 h554 h1194
  have h1196 := gArrs_upQ ef568 h566 h1195
  have h1197 := gArrs_grow ef577 eL578 n576 h1196
  have h1198 := gArrs_sub sb602 k603 h595 h1197
  have h1199 := gArrs_upQ ef609 h607 h1198
  have h1200 : f396 q354 = .inr (3, [.int (0 : Int32), .int (0 : Int32), .int (0 : Int32), .int (0 : Int32), .int (0 : Int32), .int (0 : Int32), .int (0 : Int32), .int (0 : Int32), .int (0 : Int32), .int (0 : Int32), .ref (na377 0), .ref (na377 1), .ref (na377 2), .ref (na377 3), .ref (na377 4), .ref (na377 5), .ref (na377 6), .ref (na377 7), .ref (na377 8), .ref (na377 9)]) := ((congrFun ef396 q354).trans (va_up_ne _ _ (g_neL h382 n395))).trans h417
  have h1201 : q354 ∈ L397 := sb398 _ h382
  have h1202 : f421 q354 = .inr (3, [.int (0 : Int32), .int (0 : Int32), .int (0 : Int32), .int (0 : Int32), .int (0 : Int32), .int (0 : Int32), .int (0 : Int32), .int (0 : Int32), .int (0 : Int32), .int (0 : Int32), .ref (na377 0), .ref (na377 1), .ref (na377 2), .ref (na377 3), .ref (na377 4), .ref (na377 5), .ref (na377 6), .ref (na377 7), .ref (na377 8), .ref (na377 9)]) := (k427 q354 h1201 h418).trans h1200
  have h1203 : q354 ∈ L422 := sb426 _ h1201
  have h1204 : f433 q354 = .inr (3, [.int (0 : Int32), .int (0 : Int32), .int (0 : Int32), .int (0 : Int32), .int (0 : Int32), .int (0 : Int32), .int (0 : Int32), .int (0 : Int32), .int (0 : Int32), .int (0 : Int32), .ref (na377 0), .ref (na377 1), .ref (na377 2), .ref (na377 3), .ref (na377 4), .ref (na377 5), .ref (na377 6), .ref (na377 7), .ref (na377 8), .ref (na377 9)]) := ((congrFun ef433 q354).trans (va_up_ne _ _ (g_neOA h1202 h431))).trans h1202
  have h1205 : f442 q354 = .inr (3, [.int (0 : Int32), .int (0 : Int32), .int (0 : Int32), .int (0 : Int32), .int (0 : Int32), .int (0 : Int32), .int (0 : Int32), .int (0 : Int32), .int (0 : Int32), .int (0 : Int32), .ref (na377 0), .ref (na377 1), .ref (na377 2), .ref (na377 3), .ref (na377 4), .ref (na377 5), .ref (na377 6), .ref (na377 7), .ref (na377 8), .ref (na377 9)]) := ((congrFun ef442 q354).trans (va_up_ne _ _ (g_neL h1203 n441))).trans h1204
  have h1206 : q354 ∈ L443 := sb444 _ h1203
  have h1207 : f447 q354 = .inr (3, [.int (0 : Int32), .int (0 : Int32), .int (0 : Int32), .int (0 : Int32), .int (0 : Int32), .int (0 : Int32), .int (0 : Int32), .int (0 : Int32), .int (0 : Int32), .int (0 : Int32), .ref (na377 0), .ref (na377 1), .ref (na377 2), .ref (na377 3), .ref (na377 4), .ref (na377 5), .ref (na377 6), .ref (na377 7), .ref (na377 8), .ref (na377 9)]) := (k454 q354 h1206 (g_neO h1205 h446 (by decide))).trans h1205
  have h1208 : q354 ∈ L448 := sb453 _ h1206
  have h1209 : f504 q354 = .inr (3, [.int (0 : Int32), .int (0 : Int32), .int (0 : Int32), .int (0 : Int32), .int (0 : Int32), .int (0 : Int32), .int (0 : Int32), .int (0 : Int32), .int (0 : Int32), .int (0 : Int32), .ref (na377 0), .ref (na377 1), .ref (na377 2), .ref (na377 3), .ref (na377 4), .ref (na377 5), .ref (na377 6), .ref (na377 7), .ref (na377 8), .ref (na377 9)]) := ((congrFun ef504 q354).trans (va_up_ne _ _ (g_neOA h1207 h502))).trans h1207
  have h1210 : f513 q354 = .inr (3, [.int (0 : Int32), .int (0 : Int32), .int (0 : Int32), .int (0 : Int32), .int (0 : Int32), .int (0 : Int32), .int (0 : Int32), .int (0 : Int32), .int (0 : Int32), .int (0 : Int32), .ref (na377 0), .ref (na377 1), .ref (na377 2), .ref (na377 3), .ref (na377 4), .ref (na377 5), .ref (na377 6), .ref (na377 7), .ref (na377 8), .ref (na377 9)]) := ((congrFun ef513 q354).trans (va_up_ne _ _ (g_neL h1208 n512))).trans h1209
  have h1211 : q354 ∈ L514 := sb515 _ h1208
  have h1212 : f520 q354 = .inr (3, [.int (0 : Int32), .int (0 : Int32), .int (0 : Int32), .int (0 : Int32), .int (0 : Int32), .int (0 : Int32), .int (0 : Int32), .int (0 : Int32), .int (0 : Int32), .int (0 : Int32), .ref (na377 0), .ref (na377 1), .ref (na377 2), .ref (na377 3), .ref (na377 4), .ref (na377 5), .ref (na377 6), .ref (na377 7), .ref (na377 8), .ref (na377 9)]) := (k527 q354 h1211 (g_neO h1210 h519 (by decide))).trans h1210
  have h1213 : q354 ∈ L521 := sb526 _ h1211
  have h1214 : f533 q354 = .inr (3, [.int (0 : Int32), .int (0 : Int32), .int (0 : Int32), .int (0 : Int32), .int (0 : Int32), .int (0 : Int32), .int (0 : Int32), .int (0 : Int32), .int (0 : Int32), .int (0 : Int32), .ref (na377 0), .ref (na377 1), .ref (na377 2), .ref (na377 3), .ref (na377 4), .ref (na377 5), .ref (na377 6), .ref (na377 7), .ref (na377 8), .ref (na377 9)]) := ((congrFun ef533 q354).trans (va_up_ne _ _ (g_neOA h1212 h531))).trans h1212
  have h1215 : f542 q354 = .inr (3, [.int (0 : Int32), .int (0 : Int32), .int (0 : Int32), .int (0 : Int32), .int (0 : Int32), .int (0 : Int32), .int (0 : Int32), .int (0 : Int32), .int (0 : Int32), .int (0 : Int32), .ref (na377 0), .ref (na377 1), .ref (na377 2), .ref (na377 3), .ref (na377 4), .ref (na377 5), .ref (na377 6), .ref (na377 7), .ref (na377 8), .ref (na377 9)]) := ((congrFun ef542 q354).trans (va_up_ne _ _ (g_neL h1213 n541))).trans h1214
  have h1216 : q354 ∈ L543 := sb544 _ h1213
  have h1217 : f555 q354 = .inr (3, [.int (0 : Int32), .int (0 : Int32), .int (0 : Int32), .int (0 : Int32), .int (0 : Int32), .int (0 : Int32), .int (0 : Int32), .int (0 : Int32), .int (0 : Int32), .int (0 : Int32), .ref (na377 0), .ref (na377 1), .ref (na377 2), .ref (na377 3), .ref (na377 4), .ref (na377 5), .ref (na377 6), .ref (na377 7), .ref (na377 8), .ref (na377 9)]) := (k562 q354 h1216 (g_neO h1215 h554 (by decide))).trans h1215
  have h1218 : q354 ∈ L556 := sb561 _ h1216
  have h1219 : f568 q354 = .inr (3, [.int (0 : Int32), .int (0 : Int32), .int (0 : Int32), .int (0 : Int32), .int (0 : Int32), .int (0 : Int32), .int (0 : Int32), .int (0 : Int32), .int (0 : Int32), .int (0 : Int32), .ref (na377 0), .ref (na377 1), .ref (na377 2), .ref (na377 3), .ref (na377 4), .ref (na377 5), .ref (na377 6), .ref (na377 7), .ref (na377 8), .ref (na377 9)]) := ((congrFun ef568 q354).trans (va_up_ne _ _ (g_neOA h1217 h566))).trans h1217
  have h1220 : f577 q354 = .inr (3, [.int (0 : Int32), .int (0 : Int32), .int (0 : Int32), .int (0 : Int32), .int (0 : Int32), .int (0 : Int32), .int (0 : Int32), .int (0 : Int32), .int (0 : Int32), .int (0 : Int32), .ref (na377 0), .ref (na377 1), .ref (na377 2), .ref (na377 3), .ref (na377 4), .ref (na377 5), .ref (na377 6), .ref (na377 7), .ref (na377 8), .ref (na377 9)]) := ((congrFun ef577 q354).trans (va_up_ne _ _ (g_neL h1218 n576))).trans h1219
  have h1221 : q354 ∈ L578 := sb579 _ h1218
  have h1222 : f596 q354 = .inr (3, [.int (0 : Int32), .int (0 : Int32), .int (0 : Int32), .int (0 : Int32), .int (0 : Int32), .int (0 : Int32), .int (0 : Int32), .int (0 : Int32), .int (0 : Int32), .int (0 : Int32), .ref (na377 0), .ref (na377 1), .ref (na377 2), .ref (na377 3), .ref (na377 4), .ref (na377 5), .ref (na377 6), .ref (na377 7), .ref (na377 8), .ref (na377 9)]) := (k603 q354 h1221 (g_neO h1220 h595 (by decide))).trans h1220
  have h1223 : q354 ∈ L597 := sb602 _ h1221
  have h1224 : f609 q354 = .inr (3, [.int (0 : Int32), .int (0 : Int32), .int (0 : Int32), .int (0 : Int32), .int (0 : Int32), .int (0 : Int32), .int (0 : Int32), .int (0 : Int32), .int (0 : Int32), .int (0 : Int32), .ref (na377 0), .ref (na377 1), .ref (na377 2), .ref (na377 3), .ref (na377 4), .ref (na377 5), .ref (na377 6), .ref (na377 7), .ref (na377 8), .ref (na377 9)]) := ((congrFun ef609 q354).trans (va_up_ne _ _ (g_neOA h1222 h607))).trans h1222
  have h1225 := gArrs_upQ ef387 h385 h379
  have h1226 := gArrs_grow ef396 eL397 n395 h1225
  have h1227 := gArrs_sub sb426 k427 h420 h1226
  have h1228 := gArrs_upQ ef433 h431 h1227
  have h1229 := gArrs_grow ef442 eL443 n441 h1228
  have h1230 := gArrs_sub sb453 k454 h446 h1229
  have h1231 := gArrs_upQ ef504 h502 h1230
  have h1232 := gArrs_grow ef513 eL514 n512 h1231
  have h1233 := gArrs_sub sb526 k527 h519 h1232
  have h1234 := gArrs_upQ ef533 h531 h1233
  have h1235 := gArrs_grow ef542 eL543 n541 h1234
  have h1236 := gArrs_sub sb561 k562 h554 h1235
  have h1237 := gArrs_upQ ef568 h566 h1236
  have h1238 := gArrs_grow ef577 eL578 n576 h1237
  have h1239 := gArrs_sub sb602 k603 h595 h1238
  have h1240 := gArrs_upQ ef609 h607 h1239
  have h1241 : f433 q394 = .inr (3, [.int (0 : Int32), .int (0 : Int32), .int (0 : Int32), .int (0 : Int32), .int (0 : Int32), .int (0 : Int32), .int (0 : Int32), .int (0 : Int32), .int (0 : Int32), .int (0 : Int32), .ref (na423 0), .ref (na423 1), .ref (na423 2), .ref (na423 3), .ref (na423 4), .ref (na423 5), .ref (na423 6), .ref (na423 7), .ref (na423 8), .ref (na423 9)]) := ((congrFun ef433 q394).trans (va_up_ne _ _ (g_neOA h424 h431))).trans h424
  have h1242 : f442 q394 = .inr (3, [.int (0 : Int32), .int (0 : Int32), .int (0 : Int32), .int (0 : Int32), .int (0 : Int32), .int (0 : Int32), .int (0 : Int32), .int (0 : Int32), .int (0 : Int32), .int (0 : Int32), .ref (na423 0), .ref (na423 1), .ref (na423 2), .ref (na423 3), .ref (na423 4), .ref (na423 5), .ref (na423 6), .ref (na423 7), .ref (na423 8), .ref (na423 9)]) := ((congrFun ef442 q394).trans (va_up_ne _ _ (g_neL h428 n441))).trans h1241
  have h1243 : q394 ∈ L443 := sb444 _ h428
  have h1244 : f447 q394 = .inr (3, [.int (0 : Int32), .int (0 : Int32), .int (0 : Int32), .int (0 : Int32), .int (0 : Int32), .int (0 : Int32), .int (0 : Int32), .int (0 : Int32), .int (0 : Int32), .int (0 : Int32), .ref (na423 0), .ref (na423 1), .ref (na423 2), .ref (na423 3), .ref (na423 4), .ref (na423 5), .ref (na423 6), .ref (na423 7), .ref (na423 8), .ref (na423 9)]) := (k454 q394 h1243 (g_neO h1242 h446 (by decide))).trans h1242
  have h1245 : q394 ∈ L448 := sb453 _ h1243
  have h1246 : f504 q394 = .inr (3, [.int (0 : Int32), .int (0 : Int32), .int (0 : Int32), .int (0 : Int32), .int (0 : Int32), .int (0 : Int32), .int (0 : Int32), .int (0 : Int32), .int (0 : Int32), .int (0 : Int32), .ref (na423 0), .ref (na423 1), .ref (na423 2), .ref (na423 3), .ref (na423 4), .ref (na423 5), .ref (na423 6), .ref (na423 7), .ref (na423 8), .ref (na423 9)]) := ((congrFun ef504 q394).trans (va_up_ne _ _ (g_neOA h1244 h502))).trans h1244
  have h1247 : f513 q394 = .inr (3, [.int (0 : Int32), .int (0 : Int32), .int (0 : Int32), .int (0 : Int32), .int (0 : Int32), .int (0 : Int32), .int (0 : Int32), .int (0 : Int32), .int (0 : Int32), .int (0 : Int32), .ref (na423 0), .ref (na423 1), .ref (na423 2), .ref (na423 3), .ref (na423 4), .ref (na423 5), .ref (na423 6), .ref (na423 7), .ref (na423 8), .ref (na423 9)]) := ((congrFun ef513 q394).trans (va_up_ne _ _ (g_neL h1245 n512))).trans h1246
  have h1248 : q394 ∈ L514 := sb515 _ h1245
  have h1249 : f520 q394 = .inr (3, [.int (0 : Int32), .int (0 : Int32), .int (0 : Int32), .int (0 : Int32), .int (0 : Int32), .int (0 : Int32), .int (0 : Int32), .int (0 : Int32), .int (0 : Int32), .int (0 : Int32), .ref (na423 0), .ref (na423 1), .ref (na423 2), .ref (na423 3), .ref (na423 4), .ref (na423 5), .ref (na423 6), .ref (na423 7), .ref (na423 8), .ref (na423 9)]) := (k527 q394 h1248 (g_neO h1247 h519 (by decide))).trans h1247
  have h1250 : q394 ∈ L521 := sb526 _ h1248
  have h1251 : f533 q394 = .inr (3, [.int (0 : Int32), .int (0 : Int32), .int (0 : Int32), .int (0 : Int32), .int (0 : Int32), .int (0 : Int32), .int (0 : Int32), .int (0 : Int32), .int (0 : Int32), .int (0 : Int32), .ref (na423 0), .ref (na423 1), .ref (na423 2), .ref (na423 3), .ref (na423 4), .ref (na423 5), .ref (na423 6), .ref (na423 7), .ref (na423 8), .ref (na423 9)]) := ((congrFun ef533 q394).trans (va_up_ne _ _ (g_neOA h1249 h531))).trans h1249
  have h1252 : f542 q394 = .inr (3, [.int (0 : Int32), .int (0 : Int32), .int (0 : Int32), .int (0 : Int32), .int (0 : Int32), .int (0 : Int32), .int (0 : Int32), .int (0 : Int32), .int (0 : Int32), .int (0 : Int32), .ref (na423 0), .ref (na423 1), .ref (na423 2), .ref (na423 3), .ref (na423 4), .ref (na423 5), .ref (na423 6), .ref (na423 7), .ref (na423 8), .ref (na423 9)]) := ((congrFun ef542 q394).trans (va_up_ne _ _ (g_neL h1250 n541))).trans h1251
  have h1253 : q394 ∈ L543 := sb544 _ h1250
  have h1254 : f555 q394 = .inr (3, [.int (0 : Int32), .int (0 : Int32), .int (0 : Int32), .int (0 : Int32), .int (0 : Int32), .int (0 : Int32), .int (0 : Int32), .int (0 : Int32), .int (0 : Int32), .int (0 : Int32), .ref (na423 0), .ref (na423 1), .ref (na423 2), .ref (na423 3), .ref (na423 4), .ref (na423 5), .ref (na423 6), .ref (na423 7), .ref (na423 8), .ref (na423 9)]) := (k562 q394 h1253 (g_neO h1252 h554 (by decide))).trans h1252
  have h1255 : q394 ∈ L556 := sb561 _ h1253
  have h1256 : f568 q394 = .inr (3, [.int (0 : Int32), .int (0 : Int32), .int (0 : Int32), .int (0 : Int32), .int (0 : Int32), .int (0 : Int32), .int (0 : Int32), .int (0 : Int32), .int (0 : Int32), .int (0 : Int32), .ref (na423 0), .ref (na423 1), .ref (na423 2), .ref (na423 3), .ref (na423 4), .ref (na423 5), .ref (na423 6), .ref (na423 7), .ref (na423 8), .ref (na423 9)]) := ((congrFun ef568 q394).trans (va_up_ne _ _ (g_neOA h1254 h566))).trans h1254
  have h1257 : f577 q394 = .inr (3, [.int (0 : Int32), .int (0 : Int32), .int (0 : Int32), .int (0 : Int32), .int (0 : Int32), .int (0 : Int32), .int (0 : Int32), .int (0 : Int32), .int (0 : Int32), .int (0 : Int32), .ref (na423 0), .ref (na423 1), .ref (na423 2), .ref (na423 3), .ref (na423 4), .ref (na423 5), .ref (na423 6), .ref (na423 7), .ref (na423 8), .ref (na423 9)]) := ((congrFun ef577 q394).trans (va_up_ne _ _ (g_neL h1255 n576))).trans h1256
  have h1258 : q394 ∈ L578 := sb579 _ h1255
  have h1259 : f596 q394 = .inr (3, [.int (0 : Int32), .int (0 : Int32), .int (0 : Int32), .int (0 : Int32), .int (0 : Int32), .int (0 : Int32), .int (0 : Int32), .int (0 : Int32), .int (0 : Int32), .int (0 : Int32), .ref (na423 0), .ref (na423 1), .ref (na423 2), .ref (na423 3), .ref (na423 4), .ref (na423 5), .ref (na423 6), .ref (na423 7), .ref (na423 8), .ref (na423 9)]) := (k603 q394 h1258 (g_neO h1257 h595 (by decide))).trans h1257
  have h1260 : q394 ∈ L597 := sb602 _ h1258
  have h1261 : f609 q394 = .inr (3, [.int (0 : Int32), .int (0 : Int32), .int (0 : Int32), .int (0 : Int32), .int (0 : Int32), .int (0 : Int32), .int (0 : Int32), .int (0 : Int32), .int (0 : Int32), .int (0 : Int32), .ref (na423 0), .ref (na423 1), .ref (na423 2), .ref (na423 3), .ref (na423 4), .ref (na423 5), .ref (na423 6), .ref (na423 7), .ref (na423 8), .ref (na423 9)]) := ((congrFun ef609 q394).trans (va_up_ne _ _ (g_neOA h1259 h607))).trans h1259
  have h1262 := gArrs_upQ ef433 h431 h425
  have h1263 := gArrs_grow ef442 eL443 n441 h1262
  have h1264 := gArrs_sub sb453 k454 h446 h1263
  have h1265 := gArrs_upQ ef504 h502 h1264
  have h1266 := gArrs_grow ef513 eL514 n512 h1265
  have h1267 := gArrs_sub sb526 k527 h519 h1266
  have h1268 := gArrs_upQ ef533 h531 h1267
  have h1269 := gArrs_grow ef542 eL543 n541 h1268
  have h1270 := gArrs_sub sb561 k562 h554 h1269
  have h1271 := gArrs_upQ ef568 h566 h1270
  have h1272 := gArrs_grow ef577 eL578 n576 h1271
  have h1273 := gArrs_sub sb602 k603 h595 h1272
  have h1274 := gArrs_upQ ef609 h607 h1273
  refine ⟨⟨q1, q23, q44, q90, q101, q112, q130, q151, q169, q187, q205, q10, q53, q141, q142, na32, na66, _, _, h614, h615, h698, h699, h782, h783, h807, h808, h877, h878, h902, h903, h956, h957, h608, h610, h976, h977, h1012, h1013, h1061, h1105, h61, ?_, ?_⟩, ?_, ?_⟩
  · intro k hk
    rcases (show k = 0 ∨ k = 1 ∨ k = 2 ∨ k = 3 by omega) with rfl | rfl | rfl | rfl
    · exact ⟨q440, q449, _, rfl, h1109, h1110, h1125, h1126⟩
    · exact ⟨q511, q522, _, rfl, h1130, h1131, h1141, h1142⟩
    · exact ⟨q540, q557, _, rfl, h1146, h1147, h1152, h1153⟩
    · exact ⟨q575, q598, _, rfl, h604, h1154, h600, h1155⟩
  · intro k hk
    rcases (show k = 0 ∨ k = 1 ∨ k = 2 by omega) with rfl | rfl | rfl
    · exact ⟨q216, na305, rfl, h1179, h1180, h1199, Ne.symm h262⟩
    · exact ⟨q354, na377, rfl, h1223, h1224, h1240, Ne.symm h364⟩
    · exact ⟨q394, na423, rfl, h1260, h1261, h1274, Ne.symm h404⟩
  · exact fun b hb => (sb602 _ (sb579 _ (sb561 _ (sb544 _ (sb526 _ (sb515 _ (sb453 _ (sb444 _ (sb426 _ (sb398 _ (sb380 _ (sb358 _ (sb308 _ (sb220 _ (sb209 _ (sb199 _ (sb191 _ (sb181 _ (sb173 _ (sb163 _ (sb155 _ (sb144 _ (sb134 _ (sb124 _ (sb116 _ (sb105 _ (sb94 _ (sb79 _ (sb69 _ (sb57 _ (sb48 _ (sb35 _ (sb27 _ (sb14 _ (sb5 _ hb)))))))))))))))))))))))))))))))))))
  · intro b hb hbq
    have h1275 : b ≠ q1 := g_neL hb n2
    have h1276 : f3 b = f b := ((congrFun ef3 b).trans (va_up_ne _ _ (g_neL hb n2))).trans rfl
    have h1277 : b ∈ L4 := sb5 _ hb
    have h1278 : f8 b = f b := (k15 b h1277 h1275).trans h1276
    have h1279 : b ∈ L9 := sb14 _ h1277
    have h1280 : f21 b = f b := ((congrFun ef21 b).trans (va_up_ne _ _ hbq)).trans h1278
    have h1281 : b ≠ q23 := g_neL h1279 n24
    have h1282 : f25 b = f b := ((congrFun ef25 b).trans (va_up_ne _ _ (g_neL h1279 n24))).trans h1280
    have h1283 : b ∈ L26 := sb27 _ h1279
    have h1284 : f30 b = f b := (k36 b h1283 h1281).trans h1282
    have h1285 : b ∈ L31 := sb35 _ h1283
    have h1286 : f42 b = f b := ((congrFun ef42 b).trans (va_up_ne _ _ hbq)).trans h1284
    have h1287 : b ≠ q44 := g_neL h1285 n45
    have h1288 : f46 b = f b := ((congrFun ef46 b).trans (va_up_ne _ _ (g_neL h1285 n45))).trans h1286
    have h1289 : b ∈ L47 := sb48 _ h1285
    have h1290 : b ≠ q53 := g_neL h1289 n54
    have h1291 : f55 b = f b := ((congrFun ef55 b).trans (va_up_ne _ _ (g_neL h1289 n54))).trans h1288
    have h1292 : b ∈ L56 := sb57 _ h1289
    have h1293 : f64 b = f b := (k70 b h1292 h1290).trans h1291
    have h1294 : b ∈ L65 := sb69 _ h1292
    have h1295 : f76 b = f b := (k80 b h1294 h1287).trans h1293
    have h1296 : b ∈ L77 := sb79 _ h1294
    have h1297 : f88 b = f b := ((congrFun ef88 b).trans (va_up_ne _ _ hbq)).trans h1295
    have h1298 : b ≠ q90 := g_neL h1296 n91
    have h1299 : f92 b = f b := ((congrFun ef92 b).trans (va_up_ne _ _ (g_neL h1296 n91))).trans h1297
    have h1300 : b ∈ L93 := sb94 _ h1296
    have h1301 : f99 b = f b := ((congrFun ef99 b).trans (va_up_ne _ _ hbq)).trans h1299
    have h1302 : b ≠ q101 := g_neL h1300 n102
    have h1303 : f103 b = f b := ((congrFun ef103 b).trans (va_up_ne _ _ (g_neL h1300 n102))).trans h1301
    have h1304 : b ∈ L104 := sb105 _ h1300
    have h1305 : f110 b = f b := ((congrFun ef110 b).trans (va_up_ne _ _ hbq)).trans h1303
    have h1306 : b ≠ q112 := g_neL h1304 n113
    have h1307 : f114 b = f b := ((congrFun ef114 b).trans (va_up_ne _ _ (g_neL h1304 n113))).trans h1305
    have h1308 : b ∈ L115 := sb116 _ h1304
    have h1309 : f121 b = f b := (k125 b h1308 h1306).trans h1307
    have h1310 : b ∈ L122 := sb124 _ h1308
    have h1311 : f128 b = f b := ((congrFun ef128 b).trans (va_up_ne _ _ hbq)).trans h1309
    have h1312 : b ≠ q130 := g_neL h1310 n131
    have h1313 : f132 b = f b := ((congrFun ef132 b).trans (va_up_ne _ _ (g_neL h1310 n131))).trans h1311
    have h1314 : b ∈ L133 := sb134 _ h1310
    have h1315 : f139 b = f b := (k145 b h1314 h1312).trans h1313
    have h1316 : b ∈ L140 := sb144 _ h1314
    have h1317 : f149 b = f b := ((congrFun ef149 b).trans (va_up_ne _ _ hbq)).trans h1315
    have h1318 : b ≠ q151 := g_neL h1316 n152
    have h1319 : f153 b = f b := ((congrFun ef153 b).trans (va_up_ne _ _ (g_neL h1316 n152))).trans h1317
    have h1320 : b ∈ L154 := sb155 _ h1316
    have h1321 : f160 b = f b := (k164 b h1320 h1318).trans h1319
    have h1322 : b ∈ L161 := sb163 _ h1320
    have h1323 : f167 b = f b := ((congrFun ef167 b).trans (va_up_ne _ _ hbq)).trans h1321
    have h1324 : b ≠ q169 := g_neL h1322 n170
    have h1325 : f171 b = f b := ((congrFun ef171 b).trans (va_up_ne _ _ (g_neL h1322 n170))).trans h1323
    have h1326 : b ∈ L172 := sb173 _ h1322
    have h1327 : f178 b = f b := (k182 b h1326 h1324).trans h1325
    have h1328 : b ∈ L179 := sb181 _ h1326
    have h1329 : f185 b = f b := ((congrFun ef185 b).trans (va_up_ne _ _ hbq)).trans h1327
    have h1330 : b ≠ q187 := g_neL h1328 n188
    have h1331 : f189 b = f b := ((congrFun ef189 b).trans (va_up_ne _ _ (g_neL h1328 n188))).trans h1329
    have h1332 : b ∈ L190 := sb191 _ h1328
    have h1333 : f196 b = f b := (k200 b h1332 h1330).trans h1331
    have h1334 : b ∈ L197 := sb199 _ h1332
    have h1335 : f203 b = f b := ((congrFun ef203 b).trans (va_up_ne _ _ hbq)).trans h1333
    have h1336 : b ≠ q205 := g_neL h1334 n206
    have h1337 : f207 b = f b := ((congrFun ef207 b).trans (va_up_ne _ _ (g_neL h1334 n206))).trans h1335
    have h1338 : b ∈ L208 := sb209 _ h1334
    have h1339 : f214 b = f b := ((congrFun ef214 b).trans (va_up_ne _ _ hbq)).trans h1337
    have h1340 : b ≠ q216 := g_neL h1338 n217
    have h1341 : f218 b = f b := ((congrFun ef218 b).trans (va_up_ne _ _ (g_neL h1338 n217))).trans h1339
    have h1342 : b ∈ L219 := sb220 _ h1338
    have h1343 : f303 b = f b := (k309 b h1342 h1340).trans h1341
    have h1344 : b ∈ L304 := sb308 _ h1342
    have h1345 : f347 b = f b := ((congrFun ef347 b).trans (va_up_ne _ _ h1298)).trans h1343
    have h1346 : b ≠ q354 := g_neL h1344 n355
    have h1347 : f356 b = f b := ((congrFun ef356 b).trans (va_up_ne _ _ (g_neL h1344 n355))).trans h1345
    have h1348 : b ∈ L357 := sb358 _ h1344
    have h1349 : f375 b = f b := (k381 b h1348 h1346).trans h1347
    have h1350 : b ∈ L376 := sb380 _ h1348
    have h1351 : f387 b = f b := ((congrFun ef387 b).trans (va_up_ne _ _ h1298)).trans h1349
    have h1352 : b ≠ q394 := g_neL h1350 n395
    have h1353 : f396 b = f b := ((congrFun ef396 b).trans (va_up_ne _ _ (g_neL h1350 n395))).trans h1351
    have h1354 : b ∈ L397 := sb398 _ h1350
    have h1355 : f421 b = f b := (k427 b h1354 h1352).trans h1353
    have h1356 : b ∈ L422 := sb426 _ h1354
    have h1357 : f433 b = f b := ((congrFun ef433 b).trans (va_up_ne _ _ h1298)).trans h1355
    have h1358 : b ≠ q440 := g_neL h1356 n441
    have h1359 : f442 b = f b := ((congrFun ef442 b).trans (va_up_ne _ _ (g_neL h1356 n441))).trans h1357
    have h1360 : b ∈ L443 := sb444 _ h1356
    have h1361 : f447 b = f b := (k454 b h1360 h1358).trans h1359
    have h1362 : b ∈ L448 := sb453 _ h1360
    have h1363 : f504 b = f b := ((congrFun ef504 b).trans (va_up_ne _ _ h1302)).trans h1361
    have h1364 : b ≠ q511 := g_neL h1362 n512
    have h1365 : f513 b = f b := ((congrFun ef513 b).trans (va_up_ne _ _ (g_neL h1362 n512))).trans h1363
    have h1366 : b ∈ L514 := sb515 _ h1362
    have h1367 : f520 b = f b := (k527 b h1366 h1364).trans h1365
    have h1368 : b ∈ L521 := sb526 _ h1366
    have h1369 : f533 b = f b := ((congrFun ef533 b).trans (va_up_ne _ _ h1302)).trans h1367
    have h1370 : b ≠ q540 := g_neL h1368 n541
    have h1371 : f542 b = f b := ((congrFun ef542 b).trans (va_up_ne _ _ (g_neL h1368 n541))).trans h1369
    have h1372 : b ∈ L543 := sb544 _ h1368
    have h1373 : f555 b = f b := (k562 b h1372 h1370).trans h1371
    have h1374 : b ∈ L556 := sb561 _ h1372
    have h1375 : f568 b = f b := ((congrFun ef568 b).trans (va_up_ne _ _ h1302)).trans h1373
    have h1376 : b ≠ q575 := g_neL h1374 n576
    have h1377 : f577 b = f b := ((congrFun ef577 b).trans (va_up_ne _ _ (g_neL h1374 n576))).trans h1375
    have h1378 : b ∈ L578 := sb579 _ h1374
    have h1379 : f596 b = f b := (k603 b h1378 h1376).trans h1377
    have h1380 : b ∈ L597 := sb602 _ h1378
    have h1381 : f609 b = f b := ((congrFun ef609 b).trans (va_up_ne _ _ h1302)).trans h1379
    exact h1381
end
