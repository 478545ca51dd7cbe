section
-- ===== PART A: goes FIRST, ahead of the names: the tables' words, and 'selects' of the private methods out of them =====
/-- a private method of a class that the tables say can be made, by its rows of tables_1 -/
def lw_okq (q : MethodName × Nat) : Prop := (q.1.cls ≠ "java/lang/invoke/MethodHandle" ∧ q.1.cls ≠ "java/lang/invoke/VarHandle") ∧ Cond.instantiable q.1.cls q.2 ∈ tables_1 ∧ Cond.privateMethod q.1 ∈ tables_1 ∧ Cond.instanceMethod q.1 ∈ tables_1
theorem lw_p0 : lw_okq (⟨"GooseShares", "followNow", "(I)V"⟩, 11) := ⟨⟨by decide +kernel, by decide +kernel⟩, List.mem_of_getElem? (i := 21) (by decide +kernel), List.mem_of_getElem? (i := 571) (by decide +kernel), List.mem_of_getElem? (i := 572) (by decide +kernel)⟩
theorem lw_p1 : lw_okq (⟨"GooseShares", "flightsOver", "(I)I"⟩, 11) := ⟨⟨by decide +kernel, by decide +kernel⟩, List.mem_of_getElem? (i := 21) (by decide +kernel), List.mem_of_getElem? (i := 634) (by decide +kernel), List.mem_of_getElem? (i := 635) (by decide +kernel)⟩
theorem lw_p2 : lw_okq (⟨"GooseShares", "geeseWithin", "(II)I"⟩, 11) := ⟨⟨by decide +kernel, by decide +kernel⟩, List.mem_of_getElem? (i := 21) (by decide +kernel), List.mem_of_getElem? (i := 642) (by decide +kernel), List.mem_of_getElem? (i := 643) (by decide +kernel)⟩
theorem lw_p3 : lw_okq (⟨"GooseShares", "passNow", "()V"⟩, 11) := ⟨⟨by decide +kernel, by decide +kernel⟩, List.mem_of_getElem? (i := 21) (by decide +kernel), List.mem_of_getElem? (i := 663) (by decide +kernel), List.mem_of_getElem? (i := 664) (by decide +kernel)⟩
theorem lw_p4 : lw_okq (⟨"GooseShares", "servedUnder", "(II)I"⟩, 11) := ⟨⟨by decide +kernel, by decide +kernel⟩, List.mem_of_getElem? (i := 21) (by decide +kernel), List.mem_of_getElem? (i := 696) (by decide +kernel), List.mem_of_getElem? (i := 697) (by decide +kernel)⟩
theorem lw_p5 : lw_okq (⟨"GooseShares", "incomeUnder", "(II)I"⟩, 11) := ⟨⟨by decide +kernel, by decide +kernel⟩, List.mem_of_getElem? (i := 21) (by decide +kernel), List.mem_of_getElem? (i := 713) (by decide +kernel), List.mem_of_getElem? (i := 714) (by decide +kernel)⟩
theorem lw_p6 : lw_okq (⟨"GooseShares", "unpaidBits", "()I"⟩, 11) := ⟨⟨by decide +kernel, by decide +kernel⟩, List.mem_of_getElem? (i := 21) (by decide +kernel), List.mem_of_getElem? (i := 726) (by decide +kernel), List.mem_of_getElem? (i := 727) (by decide +kernel)⟩
theorem lw_p7 : lw_okq (⟨"GooseShares", "earshotOfUnpaid", "()I"⟩, 11) := ⟨⟨by decide +kernel, by decide +kernel⟩, List.mem_of_getElem? (i := 21) (by decide +kernel), List.mem_of_getElem? (i := 746) (by decide +kernel), List.mem_of_getElem? (i := 747) (by decide +kernel)⟩
theorem lw_p8 : lw_okq (⟨"GooseShares", "bestChange", "(I)I"⟩, 11) := ⟨⟨by decide +kernel, by decide +kernel⟩, List.mem_of_getElem? (i := 21) (by decide +kernel), List.mem_of_getElem? (i := 872) (by decide +kernel), List.mem_of_getElem? (i := 873) (by decide +kernel)⟩
theorem lw_p9 : lw_okq (⟨"GooseShares", "sightRefusal", "(I)I"⟩, 11) := ⟨⟨by decide +kernel, by decide +kernel⟩, List.mem_of_getElem? (i := 21) (by decide +kernel), List.mem_of_getElem? (i := 892) (by decide +kernel), List.mem_of_getElem? (i := 893) (by decide +kernel)⟩
theorem lw_p10 : lw_okq (⟨"GooseShares", "rowRefusal", "(I)I"⟩, 11) := ⟨⟨by decide +kernel, by decide +kernel⟩, List.mem_of_getElem? (i := 21) (by decide +kernel), List.mem_of_getElem? (i := 896) (by decide +kernel), List.mem_of_getElem? (i := 897) (by decide +kernel)⟩
theorem lw_p11 : lw_okq (⟨"GooseShares", "reportRefusal", "(I)I"⟩, 11) := ⟨⟨by decide +kernel, by decide +kernel⟩, List.mem_of_getElem? (i := 21) (by decide +kernel), List.mem_of_getElem? (i := 946) (by decide +kernel), List.mem_of_getElem? (i := 947) (by decide +kernel)⟩
theorem lw_p12 : lw_okq (⟨"GooseShares", "areTwo", "(II)Z"⟩, 11) := ⟨⟨by decide +kernel, by decide +kernel⟩, List.mem_of_getElem? (i := 21) (by decide +kernel), List.mem_of_getElem? (i := 1111) (by decide +kernel), List.mem_of_getElem? (i := 1112) (by decide +kernel)⟩
theorem lw_p13 : lw_okq (⟨"GooseShares", "atRest", "(IIII)Z"⟩, 11) := ⟨⟨by decide +kernel, by decide +kernel⟩, List.mem_of_getElem? (i := 21) (by decide +kernel), List.mem_of_getElem? (i := 1115) (by decide +kernel), List.mem_of_getElem? (i := 1116) (by decide +kernel)⟩
theorem lw_p14 : lw_okq (⟨"GooseShares", "gain", "(IIII)I"⟩, 11) := ⟨⟨by decide +kernel, by decide +kernel⟩, List.mem_of_getElem? (i := 21) (by decide +kernel), List.mem_of_getElem? (i := 1119) (by decide +kernel), List.mem_of_getElem? (i := 1120) (by decide +kernel)⟩
theorem lw_p15 : lw_okq (⟨"GooseShares", "rowsHad", "()I"⟩, 11) := ⟨⟨by decide +kernel, by decide +kernel⟩, List.mem_of_getElem? (i := 21) (by decide +kernel), List.mem_of_getElem? (i := 1238) (by decide +kernel), List.mem_of_getElem? (i := 1239) (by decide +kernel)⟩
def lw_privs_1 : List (MethodName × Nat) := [(⟨"GooseShares", "followNow", "(I)V"⟩, 11), (⟨"GooseShares", "flightsOver", "(I)I"⟩, 11), (⟨"GooseShares", "geeseWithin", "(II)I"⟩, 11), (⟨"GooseShares", "passNow", "()V"⟩, 11), (⟨"GooseShares", "servedUnder", "(II)I"⟩, 11), (⟨"GooseShares", "incomeUnder", "(II)I"⟩, 11), (⟨"GooseShares", "unpaidBits", "()I"⟩, 11), (⟨"GooseShares", "earshotOfUnpaid", "()I"⟩, 11), (⟨"GooseShares", "bestChange", "(I)I"⟩, 11), (⟨"GooseShares", "sightRefusal", "(I)I"⟩, 11), (⟨"GooseShares", "rowRefusal", "(I)I"⟩, 11), (⟨"GooseShares", "reportRefusal", "(I)I"⟩, 11), (⟨"GooseShares", "areTwo", "(II)Z"⟩, 11), (⟨"GooseShares", "atRest", "(IIII)Z"⟩, 11), (⟨"GooseShares", "gain", "(IIII)I"⟩, 11), (⟨"GooseShares", "rowsHad", "()I"⟩, 11)]
theorem lw_r1 : ∀ q ∈ lw_privs_1, lw_okq q := List.forall_mem_cons.mpr ⟨lw_p0, List.forall_mem_cons.mpr ⟨lw_p1, List.forall_mem_cons.mpr ⟨lw_p2, List.forall_mem_cons.mpr ⟨lw_p3, List.forall_mem_cons.mpr ⟨lw_p4, List.forall_mem_cons.mpr ⟨lw_p5, List.forall_mem_cons.mpr ⟨lw_p6, List.forall_mem_cons.mpr ⟨lw_p7, List.forall_mem_cons.mpr ⟨lw_p8, List.forall_mem_cons.mpr ⟨lw_p9, List.forall_mem_cons.mpr ⟨lw_p10, List.forall_mem_cons.mpr ⟨lw_p11, List.forall_mem_cons.mpr ⟨lw_p12, List.forall_mem_cons.mpr ⟨lw_p13, List.forall_mem_cons.mpr ⟨lw_p14, List.forall_mem_cons.mpr ⟨lw_p15, fun _ h => absurd h List.not_mem_nil⟩⟩⟩⟩⟩⟩⟩⟩⟩⟩⟩⟩⟩⟩⟩⟩
theorem lw_p16 : lw_okq (⟨"GooseSharesModel", "four", "(I)V"⟩, 48) := ⟨⟨by decide +kernel, by decide +kernel⟩, List.mem_of_getElem? (i := 1278) (by decide +kernel), List.mem_of_getElem? (i := 1455) (by decide +kernel), List.mem_of_getElem? (i := 1456) (by decide +kernel)⟩
theorem lw_p17 : lw_okq (⟨"GooseSharesModel", "clears", "()V"⟩, 48) := ⟨⟨by decide +kernel, by decide +kernel⟩, List.mem_of_getElem? (i := 1278) (by decide +kernel), List.mem_of_getElem? (i := 1471) (by decide +kernel), List.mem_of_getElem? (i := 1472) (by decide +kernel)⟩
theorem lw_p18 : lw_okq (⟨"GooseSharesModel", "tells", "(II)V"⟩, 48) := ⟨⟨by decide +kernel, by decide +kernel⟩, List.mem_of_getElem? (i := 1278) (by decide +kernel), List.mem_of_getElem? (i := 1475) (by decide +kernel), List.mem_of_getElem? (i := 1476) (by decide +kernel)⟩
theorem lw_p19 : lw_okq (⟨"GooseSharesModel", "begins", "()V"⟩, 48) := ⟨⟨by decide +kernel, by decide +kernel⟩, List.mem_of_getElem? (i := 1278) (by decide +kernel), List.mem_of_getElem? (i := 1479) (by decide +kernel), List.mem_of_getElem? (i := 1480) (by decide +kernel)⟩
theorem lw_p20 : lw_okq (⟨"GooseSharesModel", "next", "()V"⟩, 48) := ⟨⟨by decide +kernel, by decide +kernel⟩, List.mem_of_getElem? (i := 1278) (by decide +kernel), List.mem_of_getElem? (i := 1483) (by decide +kernel), List.mem_of_getElem? (i := 1484) (by decide +kernel)⟩
theorem lw_p21 : lw_okq (⟨"GooseSharesModel", "isByte", "(III)Z"⟩, 48) := ⟨⟨by decide +kernel, by decide +kernel⟩, List.mem_of_getElem? (i := 1278) (by decide +kernel), List.mem_of_getElem? (i := 1487) (by decide +kernel), List.mem_of_getElem? (i := 1488) (by decide +kernel)⟩
theorem lw_p22 : lw_okq (⟨"GooseSharesModel", "isGood", "()Z"⟩, 48) := ⟨⟨by decide +kernel, by decide +kernel⟩, List.mem_of_getElem? (i := 1278) (by decide +kernel), List.mem_of_getElem? (i := 1496) (by decide +kernel), List.mem_of_getElem? (i := 1497) (by decide +kernel)⟩
theorem lw_p23 : lw_okq (⟨"GooseSharesModel", "landLine", "()V"⟩, 48) := ⟨⟨by decide +kernel, by decide +kernel⟩, List.mem_of_getElem? (i := 1278) (by decide +kernel), List.mem_of_getElem? (i := 1500) (by decide +kernel), List.mem_of_getElem? (i := 1501) (by decide +kernel)⟩
theorem lw_p24 : lw_okq (⟨"GooseSharesModel", "asks", "(J)V"⟩, 48) := ⟨⟨by decide +kernel, by decide +kernel⟩, List.mem_of_getElem? (i := 1278) (by decide +kernel), List.mem_of_getElem? (i := 1505) (by decide +kernel), List.mem_of_getElem? (i := 1506) (by decide +kernel)⟩
theorem lw_p25 : lw_okq (⟨"GooseSharesModel", "takes", "(J)Z"⟩, 48) := ⟨⟨by decide +kernel, by decide +kernel⟩, List.mem_of_getElem? (i := 1278) (by decide +kernel), List.mem_of_getElem? (i := 1509) (by decide +kernel), List.mem_of_getElem? (i := 1510) (by decide +kernel)⟩
theorem lw_p26 : lw_okq (⟨"GooseSharesModel", "is", "(J)Z"⟩, 48) := ⟨⟨by decide +kernel, by decide +kernel⟩, List.mem_of_getElem? (i := 1278) (by decide +kernel), List.mem_of_getElem? (i := 1513) (by decide +kernel), List.mem_of_getElem? (i := 1514) (by decide +kernel)⟩
theorem lw_p27 : lw_okq (⟨"GooseSharesModel", "fails", "(I)V"⟩, 48) := ⟨⟨by decide +kernel, by decide +kernel⟩, List.mem_of_getElem? (i := 1278) (by decide +kernel), List.mem_of_getElem? (i := 1517) (by decide +kernel), List.mem_of_getElem? (i := 1518) (by decide +kernel)⟩
theorem lw_p28 : lw_okq (⟨"GooseSharesModel", "number", "(JII)I"⟩, 48) := ⟨⟨by decide +kernel, by decide +kernel⟩, List.mem_of_getElem? (i := 1278) (by decide +kernel), List.mem_of_getElem? (i := 1522) (by decide +kernel), List.mem_of_getElem? (i := 1523) (by decide +kernel)⟩
theorem lw_p29 : lw_okq (⟨"GooseSharesModel", "number", "(II)I"⟩, 48) := ⟨⟨by decide +kernel, by decide +kernel⟩, List.mem_of_getElem? (i := 1278) (by decide +kernel), List.mem_of_getElem? (i := 1526) (by decide +kernel), List.mem_of_getElem? (i := 1527) (by decide +kernel)⟩
theorem lw_p30 : lw_okq (⟨"GooseSharesModel", "line", "()V"⟩, 48) := ⟨⟨by decide +kernel, by decide +kernel⟩, List.mem_of_getElem? (i := 1278) (by decide +kernel), List.mem_of_getElem? (i := 1534) (by decide +kernel), List.mem_of_getElem? (i := 1535) (by decide +kernel)⟩
theorem lw_p31 : lw_okq (⟨"GooseSharesModel", "isRoom", "(ZII)Z"⟩, 48) := ⟨⟨by decide +kernel, by decide +kernel⟩, List.mem_of_getElem? (i := 1278) (by decide +kernel), List.mem_of_getElem? (i := 1539) (by decide +kernel), List.mem_of_getElem? (i := 1540) (by decide +kernel)⟩
def lw_privs_2 : List (MethodName × Nat) := [(⟨"GooseSharesModel", "four", "(I)V"⟩, 48), (⟨"GooseSharesModel", "clears", "()V"⟩, 48), (⟨"GooseSharesModel", "tells", "(II)V"⟩, 48), (⟨"GooseSharesModel", "begins", "()V"⟩, 48), (⟨"GooseSharesModel", "next", "()V"⟩, 48), (⟨"GooseSharesModel", "isByte", "(III)Z"⟩, 48), (⟨"GooseSharesModel", "isGood", "()Z"⟩, 48), (⟨"GooseSharesModel", "landLine", "()V"⟩, 48), (⟨"GooseSharesModel", "asks", "(J)V"⟩, 48), (⟨"GooseSharesModel", "takes", "(J)Z"⟩, 48), (⟨"GooseSharesModel", "is", "(J)Z"⟩, 48), (⟨"GooseSharesModel", "fails", "(I)V"⟩, 48), (⟨"GooseSharesModel", "number", "(JII)I"⟩, 48), (⟨"GooseSharesModel", "number", "(II)I"⟩, 48), (⟨"GooseSharesModel", "line", "()V"⟩, 48), (⟨"GooseSharesModel", "isRoom", "(ZII)Z"⟩, 48)]
theorem lw_r2 : ∀ q ∈ lw_privs_2, lw_okq q := List.forall_mem_cons.mpr ⟨lw_p16, List.forall_mem_cons.mpr ⟨lw_p17, List.forall_mem_cons.mpr ⟨lw_p18, List.forall_mem_cons.mpr ⟨lw_p19, List.forall_mem_cons.mpr ⟨lw_p20, List.forall_mem_cons.mpr ⟨lw_p21, List.forall_mem_cons.mpr ⟨lw_p22, List.forall_mem_cons.mpr ⟨lw_p23, List.forall_mem_cons.mpr ⟨lw_p24, List.forall_mem_cons.mpr ⟨lw_p25, List.forall_mem_cons.mpr ⟨lw_p26, List.forall_mem_cons.mpr ⟨lw_p27, List.forall_mem_cons.mpr ⟨lw_p28, List.forall_mem_cons.mpr ⟨lw_p29, List.forall_mem_cons.mpr ⟨lw_p30, List.forall_mem_cons.mpr ⟨lw_p31, fun _ h => absurd h List.not_mem_nil⟩⟩⟩⟩⟩⟩⟩⟩⟩⟩⟩⟩⟩⟩⟩⟩
theorem lw_p32 : lw_okq (⟨"GooseSharesModel", "hasRead", "(I)I"⟩, 48) := ⟨⟨by decide +kernel, by decide +kernel⟩, List.mem_of_getElem? (i := 1278) (by decide +kernel), List.mem_of_getElem? (i := 1543) (by decide +kernel), List.mem_of_getElem? (i := 1544) (by decide +kernel)⟩
theorem lw_p33 : lw_okq (⟨"GooseSharesModel", "flightLine", "()V"⟩, 48) := ⟨⟨by decide +kernel, by decide +kernel⟩, List.mem_of_getElem? (i := 1278) (by decide +kernel), List.mem_of_getElem? (i := 1547) (by decide +kernel), List.mem_of_getElem? (i := 1548) (by decide +kernel)⟩
theorem lw_p34 : lw_okq (⟨"GooseSharesModel", "cellHere", "()I"⟩, 48) := ⟨⟨by decide +kernel, by decide +kernel⟩, List.mem_of_getElem? (i := 1278) (by decide +kernel), List.mem_of_getElem? (i := 1551) (by decide +kernel), List.mem_of_getElem? (i := 1552) (by decide +kernel)⟩
theorem lw_p35 : lw_okq (⟨"GooseSharesModel", "memberLine", "()V"⟩, 48) := ⟨⟨by decide +kernel, by decide +kernel⟩, List.mem_of_getElem? (i := 1278) (by decide +kernel), List.mem_of_getElem? (i := 1559) (by decide +kernel), List.mem_of_getElem? (i := 1560) (by decide +kernel)⟩
theorem lw_p36 : lw_okq (⟨"GooseSharesModel", "ends", "()V"⟩, 48) := ⟨⟨by decide +kernel, by decide +kernel⟩, List.mem_of_getElem? (i := 1278) (by decide +kernel), List.mem_of_getElem? (i := 1566) (by decide +kernel), List.mem_of_getElem? (i := 1567) (by decide +kernel)⟩
theorem lw_p37 : lw_okq (⟨"GooseSharesModel", "isOver", "()V"⟩, 48) := ⟨⟨by decide +kernel, by decide +kernel⟩, List.mem_of_getElem? (i := 1278) (by decide +kernel), List.mem_of_getElem? (i := 1570) (by decide +kernel), List.mem_of_getElem? (i := 1571) (by decide +kernel)⟩
theorem lw_p38 : lw_okq (⟨"GooseSharesModel", "copyLand", "(II)V"⟩, 48) := ⟨⟨by decide +kernel, by decide +kernel⟩, List.mem_of_getElem? (i := 1278) (by decide +kernel), List.mem_of_getElem? (i := 1574) (by decide +kernel), List.mem_of_getElem? (i := 1575) (by decide +kernel)⟩
theorem lw_p39 : lw_okq (⟨"GooseSharesModel", "isFlight", "(J)Z"⟩, 48) := ⟨⟨by decide +kernel, by decide +kernel⟩, List.mem_of_getElem? (i := 1278) (by decide +kernel), List.mem_of_getElem? (i := 1585) (by decide +kernel), List.mem_of_getElem? (i := 1586) (by decide +kernel)⟩
theorem lw_p40 : lw_okq (⟨"GooseSharesModel", "flights", "()I"⟩, 48) := ⟨⟨by decide +kernel, by decide +kernel⟩, List.mem_of_getElem? (i := 1278) (by decide +kernel), List.mem_of_getElem? (i := 1589) (by decide +kernel), List.mem_of_getElem? (i := 1590) (by decide +kernel)⟩
theorem lw_p41 : lw_okq (⟨"GooseSharesModel", "lays", "()V"⟩, 48) := ⟨⟨by decide +kernel, by decide +kernel⟩, List.mem_of_getElem? (i := 1278) (by decide +kernel), List.mem_of_getElem? (i := 1594) (by decide +kernel), List.mem_of_getElem? (i := 1595) (by decide +kernel)⟩
theorem lw_p42 : lw_okq (⟨"GooseSharesModel", "isMember", "(J)Z"⟩, 48) := ⟨⟨by decide +kernel, by decide +kernel⟩, List.mem_of_getElem? (i := 1278) (by decide +kernel), List.mem_of_getElem? (i := 1602) (by decide +kernel), List.mem_of_getElem? (i := 1603) (by decide +kernel)⟩
theorem lw_p43 : lw_okq (⟨"GooseSharesModel", "members", "()I"⟩, 48) := ⟨⟨by decide +kernel, by decide +kernel⟩, List.mem_of_getElem? (i := 1278) (by decide +kernel), List.mem_of_getElem? (i := 1606) (by decide +kernel), List.mem_of_getElem? (i := 1607) (by decide +kernel)⟩
theorem lw_p44 : lw_okq (⟨"GooseSharesModel", "isLand", "()Z"⟩, 48) := ⟨⟨by decide +kernel, by decide +kernel⟩, List.mem_of_getElem? (i := 1278) (by decide +kernel), List.mem_of_getElem? (i := 1614) (by decide +kernel), List.mem_of_getElem? (i := 1615) (by decide +kernel)⟩
theorem lw_p45 : lw_okq (⟨"GooseSharesModel", "laysNow", "()V"⟩, 48) := ⟨⟨by decide +kernel, by decide +kernel⟩, List.mem_of_getElem? (i := 1278) (by decide +kernel), List.mem_of_getElem? (i := 1626) (by decide +kernel), List.mem_of_getElem? (i := 1627) (by decide +kernel)⟩
theorem lw_p46 : lw_okq (⟨"GooseSharesModel", "runs", "()V"⟩, 48) := ⟨⟨by decide +kernel, by decide +kernel⟩, List.mem_of_getElem? (i := 1278) (by decide +kernel), List.mem_of_getElem? (i := 1630) (by decide +kernel), List.mem_of_getElem? (i := 1631) (by decide +kernel)⟩
theorem lw_p47 : lw_okq (⟨"GooseSharesModel", "flies", "(III)V"⟩, 48) := ⟨⟨by decide +kernel, by decide +kernel⟩, List.mem_of_getElem? (i := 1278) (by decide +kernel), List.mem_of_getElem? (i := 1634) (by decide +kernel), List.mem_of_getElem? (i := 1635) (by decide +kernel)⟩
def lw_privs_3 : List (MethodName × Nat) := [(⟨"GooseSharesModel", "hasRead", "(I)I"⟩, 48), (⟨"GooseSharesModel", "flightLine", "()V"⟩, 48), (⟨"GooseSharesModel", "cellHere", "()I"⟩, 48), (⟨"GooseSharesModel", "memberLine", "()V"⟩, 48), (⟨"GooseSharesModel", "ends", "()V"⟩, 48), (⟨"GooseSharesModel", "isOver", "()V"⟩, 48), (⟨"GooseSharesModel", "copyLand", "(II)V"⟩, 48), (⟨"GooseSharesModel", "isFlight", "(J)Z"⟩, 48), (⟨"GooseSharesModel", "flights", "()I"⟩, 48), (⟨"GooseSharesModel", "lays", "()V"⟩, 48), (⟨"GooseSharesModel", "isMember", "(J)Z"⟩, 48), (⟨"GooseSharesModel", "members", "()I"⟩, 48), (⟨"GooseSharesModel", "isLand", "()Z"⟩, 48), (⟨"GooseSharesModel", "laysNow", "()V"⟩, 48), (⟨"GooseSharesModel", "runs", "()V"⟩, 48), (⟨"GooseSharesModel", "flies", "(III)V"⟩, 48)]
theorem lw_r3 : ∀ q ∈ lw_privs_3, lw_okq q := List.forall_mem_cons.mpr ⟨lw_p32, List.forall_mem_cons.mpr ⟨lw_p33, List.forall_mem_cons.mpr ⟨lw_p34, List.forall_mem_cons.mpr ⟨lw_p35, List.forall_mem_cons.mpr ⟨lw_p36, List.forall_mem_cons.mpr ⟨lw_p37, List.forall_mem_cons.mpr ⟨lw_p38, List.forall_mem_cons.mpr ⟨lw_p39, List.forall_mem_cons.mpr ⟨lw_p40, List.forall_mem_cons.mpr ⟨lw_p41, List.forall_mem_cons.mpr ⟨lw_p42, List.forall_mem_cons.mpr ⟨lw_p43, List.forall_mem_cons.mpr ⟨lw_p44, List.forall_mem_cons.mpr ⟨lw_p45, List.forall_mem_cons.mpr ⟨lw_p46, List.forall_mem_cons.mpr ⟨lw_p47, fun _ h => absurd h List.not_mem_nil⟩⟩⟩⟩⟩⟩⟩⟩⟩⟩⟩⟩⟩⟩⟩⟩
theorem lw_p48 : lw_okq (⟨"GooseSharesModel", "turned", "(II)I"⟩, 48) := ⟨⟨by decide +kernel, by decide +kernel⟩, List.mem_of_getElem? (i := 1278) (by decide +kernel), List.mem_of_getElem? (i := 1641) (by decide +kernel), List.mem_of_getElem? (i := 1642) (by decide +kernel)⟩
theorem lw_p49 : lw_okq (⟨"GooseSharesModel", "beside", "(II)I"⟩, 48) := ⟨⟨by decide +kernel, by decide +kernel⟩, List.mem_of_getElem? (i := 1278) (by decide +kernel), List.mem_of_getElem? (i := 1645) (by decide +kernel), List.mem_of_getElem? (i := 1646) (by decide +kernel)⟩
theorem lw_p50 : lw_okq (⟨"GooseSharesModel", "hearsAll", "()V"⟩, 48) := ⟨⟨by decide +kernel, by decide +kernel⟩, List.mem_of_getElem? (i := 1278) (by decide +kernel), List.mem_of_getElem? (i := 1649) (by decide +kernel), List.mem_of_getElem? (i := 1650) (by decide +kernel)⟩
theorem lw_p51 : lw_okq (⟨"GooseSharesModel", "cellsAll", "()I"⟩, 48) := ⟨⟨by decide +kernel, by decide +kernel⟩, List.mem_of_getElem? (i := 1278) (by decide +kernel), List.mem_of_getElem? (i := 1653) (by decide +kernel), List.mem_of_getElem? (i := 1654) (by decide +kernel)⟩
theorem lw_p52 : lw_okq (⟨"GooseSharesModel", "hearsOf", "(II)I"⟩, 48) := ⟨⟨by decide +kernel, by decide +kernel⟩, List.mem_of_getElem? (i := 1278) (by decide +kernel), List.mem_of_getElem? (i := 1657) (by decide +kernel), List.mem_of_getElem? (i := 1658) (by decide +kernel)⟩
theorem lw_p53 : lw_okq (⟨"GooseSharesModel", "isHeard", "(III)Z"⟩, 48) := ⟨⟨by decide +kernel, by decide +kernel⟩, List.mem_of_getElem? (i := 1278) (by decide +kernel), List.mem_of_getElem? (i := 1661) (by decide +kernel), List.mem_of_getElem? (i := 1662) (by decide +kernel)⟩
theorem lw_p54 : lw_okq (⟨"GooseSharesModel", "far", "(II)I"⟩, 48) := ⟨⟨by decide +kernel, by decide +kernel⟩, List.mem_of_getElem? (i := 1278) (by decide +kernel), List.mem_of_getElem? (i := 1665) (by decide +kernel), List.mem_of_getElem? (i := 1666) (by decide +kernel)⟩
theorem lw_p55 : lw_okq (⟨"GooseSharesModel", "outOf", "(I)I"⟩, 48) := ⟨⟨by decide +kernel, by decide +kernel⟩, List.mem_of_getElem? (i := 1278) (by decide +kernel), List.mem_of_getElem? (i := 1677) (by decide +kernel), List.mem_of_getElem? (i := 1678) (by decide +kernel)⟩
theorem lw_p56 : lw_okq (⟨"GooseSharesModel", "wayOf", "(I)I"⟩, 48) := ⟨⟨by decide +kernel, by decide +kernel⟩, List.mem_of_getElem? (i := 1278) (by decide +kernel), List.mem_of_getElem? (i := 1689) (by decide +kernel), List.mem_of_getElem? (i := 1690) (by decide +kernel)⟩
theorem lw_p57 : lw_okq (⟨"GooseSharesModel", "isCell", "(J)Z"⟩, 48) := ⟨⟨by decide +kernel, by decide +kernel⟩, List.mem_of_getElem? (i := 1278) (by decide +kernel), List.mem_of_getElem? (i := 1697) (by decide +kernel), List.mem_of_getElem? (i := 1698) (by decide +kernel)⟩
theorem lw_p58 : lw_okq (⟨"GooseSharesModel", "heardOf", "(I)I"⟩, 48) := ⟨⟨by decide +kernel, by decide +kernel⟩, List.mem_of_getElem? (i := 1278) (by decide +kernel), List.mem_of_getElem? (i := 1713) (by decide +kernel), List.mem_of_getElem? (i := 1714) (by decide +kernel)⟩
theorem lw_p59 : lw_okq (⟨"GooseSharesModel", "servedNow", "()I"⟩, 48) := ⟨⟨by decide +kernel, by decide +kernel⟩, List.mem_of_getElem? (i := 1278) (by decide +kernel), List.mem_of_getElem? (i := 1733) (by decide +kernel), List.mem_of_getElem? (i := 1734) (by decide +kernel)⟩
theorem lw_p60 : lw_okq (⟨"GooseSharesModel", "isServedIn", "(II)Z"⟩, 48) := ⟨⟨by decide +kernel, by decide +kernel⟩, List.mem_of_getElem? (i := 1278) (by decide +kernel), List.mem_of_getElem? (i := 1737) (by decide +kernel), List.mem_of_getElem? (i := 1738) (by decide +kernel)⟩
theorem lw_p61 : lw_okq (⟨"GooseSharesModel", "wantsOf", "(I)I"⟩, 48) := ⟨⟨by decide +kernel, by decide +kernel⟩, List.mem_of_getElem? (i := 1278) (by decide +kernel), List.mem_of_getElem? (i := 1741) (by decide +kernel), List.mem_of_getElem? (i := 1742) (by decide +kernel)⟩
theorem lw_p62 : lw_okq (⟨"GooseSharesModel", "incomeNow", "()I"⟩, 48) := ⟨⟨by decide +kernel, by decide +kernel⟩, List.mem_of_getElem? (i := 1278) (by decide +kernel), List.mem_of_getElem? (i := 1749) (by decide +kernel), List.mem_of_getElem? (i := 1750) (by decide +kernel)⟩
theorem lw_p63 : lw_okq (⟨"GooseSharesModel", "paysOf", "(I)I"⟩, 48) := ⟨⟨by decide +kernel, by decide +kernel⟩, List.mem_of_getElem? (i := 1278) (by decide +kernel), List.mem_of_getElem? (i := 1753) (by decide +kernel), List.mem_of_getElem? (i := 1754) (by decide +kernel)⟩
def lw_privs_4 : List (MethodName × Nat) := [(⟨"GooseSharesModel", "turned", "(II)I"⟩, 48), (⟨"GooseSharesModel", "beside", "(II)I"⟩, 48), (⟨"GooseSharesModel", "hearsAll", "()V"⟩, 48), (⟨"GooseSharesModel", "cellsAll", "()I"⟩, 48), (⟨"GooseSharesModel", "hearsOf", "(II)I"⟩, 48), (⟨"GooseSharesModel", "isHeard", "(III)Z"⟩, 48), (⟨"GooseSharesModel", "far", "(II)I"⟩, 48), (⟨"GooseSharesModel", "outOf", "(I)I"⟩, 48), (⟨"GooseSharesModel", "wayOf", "(I)I"⟩, 48), (⟨"GooseSharesModel", "isCell", "(J)Z"⟩, 48), (⟨"GooseSharesModel", "heardOf", "(I)I"⟩, 48), (⟨"GooseSharesModel", "servedNow", "()I"⟩, 48), (⟨"GooseSharesModel", "isServedIn", "(II)Z"⟩, 48), (⟨"GooseSharesModel", "wantsOf", "(I)I"⟩, 48), (⟨"GooseSharesModel", "incomeNow", "()I"⟩, 48), (⟨"GooseSharesModel", "paysOf", "(I)I"⟩, 48)]
theorem lw_r4 : ∀ q ∈ lw_privs_4, lw_okq q := List.forall_mem_cons.mpr ⟨lw_p48, List.forall_mem_cons.mpr ⟨lw_p49, List.forall_mem_cons.mpr ⟨lw_p50, List.forall_mem_cons.mpr ⟨lw_p51, List.forall_mem_cons.mpr ⟨lw_p52, List.forall_mem_cons.mpr ⟨lw_p53, List.forall_mem_cons.mpr ⟨lw_p54, List.forall_mem_cons.mpr ⟨lw_p55, List.forall_mem_cons.mpr ⟨lw_p56, List.forall_mem_cons.mpr ⟨lw_p57, List.forall_mem_cons.mpr ⟨lw_p58, List.forall_mem_cons.mpr ⟨lw_p59, List.forall_mem_cons.mpr ⟨lw_p60, List.forall_mem_cons.mpr ⟨lw_p61, List.forall_mem_cons.mpr ⟨lw_p62, List.forall_mem_cons.mpr ⟨lw_p63, fun _ h => absurd h List.not_mem_nil⟩⟩⟩⟩⟩⟩⟩⟩⟩⟩⟩⟩⟩⟩⟩⟩
theorem lw_p64 : lw_okq (⟨"GooseSharesModel", "unpaidNow", "()I"⟩, 48) := ⟨⟨by decide +kernel, by decide +kernel⟩, List.mem_of_getElem? (i := 1278) (by decide +kernel), List.mem_of_getElem? (i := 1761) (by decide +kernel), List.mem_of_getElem? (i := 1762) (by decide +kernel)⟩
theorem lw_p65 : lw_okq (⟨"GooseSharesModel", "isSet", "(I)Z"⟩, 48) := ⟨⟨by decide +kernel, by decide +kernel⟩, List.mem_of_getElem? (i := 1278) (by decide +kernel), List.mem_of_getElem? (i := 1801) (by decide +kernel), List.mem_of_getElem? (i := 1802) (by decide +kernel)⟩
theorem lw_p66 : lw_okq (⟨"GooseSharesModel", "laysLamps", "()V"⟩, 48) := ⟨⟨by decide +kernel, by decide +kernel⟩, List.mem_of_getElem? (i := 1278) (by decide +kernel), List.mem_of_getElem? (i := 1805) (by decide +kernel), List.mem_of_getElem? (i := 1806) (by decide +kernel)⟩
theorem lw_p67 : lw_okq (⟨"GooseSharesModel", "lampsFrom", "(II)V"⟩, 48) := ⟨⟨by decide +kernel, by decide +kernel⟩, List.mem_of_getElem? (i := 1278) (by decide +kernel), List.mem_of_getElem? (i := 1809) (by decide +kernel), List.mem_of_getElem? (i := 1810) (by decide +kernel)⟩
theorem lw_p68 : lw_okq (⟨"GooseSharesModel", "lampsAre", "(I)V"⟩, 48) := ⟨⟨by decide +kernel, by decide +kernel⟩, List.mem_of_getElem? (i := 1278) (by decide +kernel), List.mem_of_getElem? (i := 1813) (by decide +kernel), List.mem_of_getElem? (i := 1814) (by decide +kernel)⟩
theorem lw_p69 : lw_okq (⟨"GooseSharesModel", "isMany", "(I)Z"⟩, 48) := ⟨⟨by decide +kernel, by decide +kernel⟩, List.mem_of_getElem? (i := 1278) (by decide +kernel), List.mem_of_getElem? (i := 1828) (by decide +kernel), List.mem_of_getElem? (i := 1829) (by decide +kernel)⟩
theorem lw_p70 : lw_okq (⟨"GooseSharesModel", "otherwise", "(Z)I"⟩, 48) := ⟨⟨by decide +kernel, by decide +kernel⟩, List.mem_of_getElem? (i := 1278) (by decide +kernel), List.mem_of_getElem? (i := 1844) (by decide +kernel), List.mem_of_getElem? (i := 1845) (by decide +kernel)⟩
theorem lw_p71 : lw_okq (⟨"GooseSharesModel", "isLaw", "(I)Z"⟩, 48) := ⟨⟨by decide +kernel, by decide +kernel⟩, List.mem_of_getElem? (i := 1278) (by decide +kernel), List.mem_of_getElem? (i := 1856) (by decide +kernel), List.mem_of_getElem? (i := 1857) (by decide +kernel)⟩
theorem lw_p72 : lw_okq (⟨"GooseSharesModel", "incomeBy", "(I)I"⟩, 48) := ⟨⟨by decide +kernel, by decide +kernel⟩, List.mem_of_getElem? (i := 1278) (by decide +kernel), List.mem_of_getElem? (i := 1860) (by decide +kernel), List.mem_of_getElem? (i := 1861) (by decide +kernel)⟩
theorem lw_p73 : lw_okq (⟨"GooseSharesModel", "whyNotLaws", "(I)I"⟩, 48) := ⟨⟨by decide +kernel, by decide +kernel⟩, List.mem_of_getElem? (i := 1278) (by decide +kernel), List.mem_of_getElem? (i := 1872) (by decide +kernel), List.mem_of_getElem? (i := 1873) (by decide +kernel)⟩
theorem lw_p74 : lw_okq (⟨"GooseSharesModel", "lawsOf", "(I)I"⟩, 48) := ⟨⟨by decide +kernel, by decide +kernel⟩, List.mem_of_getElem? (i := 1278) (by decide +kernel), List.mem_of_getElem? (i := 1876) (by decide +kernel), List.mem_of_getElem? (i := 1877) (by decide +kernel)⟩
theorem lw_p75 : lw_okq (⟨"GooseSharesModel", "isByLaw", "(II)Z"⟩, 48) := ⟨⟨by decide +kernel, by decide +kernel⟩, List.mem_of_getElem? (i := 1278) (by decide +kernel), List.mem_of_getElem? (i := 1880) (by decide +kernel), List.mem_of_getElem? (i := 1881) (by decide +kernel)⟩
theorem lw_p76 : lw_okq (⟨"GooseSharesModel", "whyNotBegan", "(I)I"⟩, 48) := ⟨⟨by decide +kernel, by decide +kernel⟩, List.mem_of_getElem? (i := 1278) (by decide +kernel), List.mem_of_getElem? (i := 1892) (by decide +kernel), List.mem_of_getElem? (i := 1893) (by decide +kernel)⟩
theorem lw_p77 : lw_okq (⟨"GooseSharesModel", "laysBegan", "(I)V"⟩, 48) := ⟨⟨by decide +kernel, by decide +kernel⟩, List.mem_of_getElem? (i := 1278) (by decide +kernel), List.mem_of_getElem? (i := 1896) (by decide +kernel), List.mem_of_getElem? (i := 1897) (by decide +kernel)⟩
theorem lw_p78 : lw_okq (⟨"GooseSharesModel", "hasHeard", "(I)Z"⟩, 48) := ⟨⟨by decide +kernel, by decide +kernel⟩, List.mem_of_getElem? (i := 1278) (by decide +kernel), List.mem_of_getElem? (i := 1900) (by decide +kernel), List.mem_of_getElem? (i := 1901) (by decide +kernel)⟩
theorem lw_p79 : lw_okq (⟨"GooseSharesModel", "laysWho", "(I)V"⟩, 48) := ⟨⟨by decide +kernel, by decide +kernel⟩, List.mem_of_getElem? (i := 1278) (by decide +kernel), List.mem_of_getElem? (i := 1912) (by decide +kernel), List.mem_of_getElem? (i := 1913) (by decide +kernel)⟩
def lw_privs_5 : List (MethodName × Nat) := [(⟨"GooseSharesModel", "unpaidNow", "()I"⟩, 48), (⟨"GooseSharesModel", "isSet", "(I)Z"⟩, 48), (⟨"GooseSharesModel", "laysLamps", "()V"⟩, 48), (⟨"GooseSharesModel", "lampsFrom", "(II)V"⟩, 48), (⟨"GooseSharesModel", "lampsAre", "(I)V"⟩, 48), (⟨"GooseSharesModel", "isMany", "(I)Z"⟩, 48), (⟨"GooseSharesModel", "otherwise", "(Z)I"⟩, 48), (⟨"GooseSharesModel", "isLaw", "(I)Z"⟩, 48), (⟨"GooseSharesModel", "incomeBy", "(I)I"⟩, 48), (⟨"GooseSharesModel", "whyNotLaws", "(I)I"⟩, 48), (⟨"GooseSharesModel", "lawsOf", "(I)I"⟩, 48), (⟨"GooseSharesModel", "isByLaw", "(II)Z"⟩, 48), (⟨"GooseSharesModel", "whyNotBegan", "(I)I"⟩, 48), (⟨"GooseSharesModel", "laysBegan", "(I)V"⟩, 48), (⟨"GooseSharesModel", "hasHeard", "(I)Z"⟩, 48), (⟨"GooseSharesModel", "laysWho", "(I)V"⟩, 48)]
theorem lw_r5 : ∀ q ∈ lw_privs_5, lw_okq q := List.forall_mem_cons.mpr ⟨lw_p64, List.forall_mem_cons.mpr ⟨lw_p65, List.forall_mem_cons.mpr ⟨lw_p66, List.forall_mem_cons.mpr ⟨lw_p67, List.forall_mem_cons.mpr ⟨lw_p68, List.forall_mem_cons.mpr ⟨lw_p69, List.forall_mem_cons.mpr ⟨lw_p70, List.forall_mem_cons.mpr ⟨lw_p71, List.forall_mem_cons.mpr ⟨lw_p72, List.forall_mem_cons.mpr ⟨lw_p73, List.forall_mem_cons.mpr ⟨lw_p74, List.forall_mem_cons.mpr ⟨lw_p75, List.forall_mem_cons.mpr ⟨lw_p76, List.forall_mem_cons.mpr ⟨lw_p77, List.forall_mem_cons.mpr ⟨lw_p78, List.forall_mem_cons.mpr ⟨lw_p79, fun _ h => absurd h List.not_mem_nil⟩⟩⟩⟩⟩⟩⟩⟩⟩⟩⟩⟩⟩⟩⟩⟩
theorem lw_p80 : lw_okq (⟨"GooseSharesModel", "laysHomes", "()V"⟩, 48) := ⟨⟨by decide +kernel, by decide +kernel⟩, List.mem_of_getElem? (i := 1278) (by decide +kernel), List.mem_of_getElem? (i := 1937) (by decide +kernel), List.mem_of_getElem? (i := 1938) (by decide +kernel)⟩
theorem lw_p81 : lw_okq (⟨"GooseSharesModel", "homesFrom", "(III)V"⟩, 48) := ⟨⟨by decide +kernel, by decide +kernel⟩, List.mem_of_getElem? (i := 1278) (by decide +kernel), List.mem_of_getElem? (i := 1941) (by decide +kernel), List.mem_of_getElem? (i := 1942) (by decide +kernel)⟩
theorem lw_p82 : lw_okq (⟨"GooseSharesModel", "isLess", "()Z"⟩, 48) := ⟨⟨by decide +kernel, by decide +kernel⟩, List.mem_of_getElem? (i := 1278) (by decide +kernel), List.mem_of_getElem? (i := 1945) (by decide +kernel), List.mem_of_getElem? (i := 1946) (by decide +kernel)⟩
theorem lw_p83 : lw_okq (⟨"GooseSharesModel", "swapsOf", "()I"⟩, 48) := ⟨⟨by decide +kernel, by decide +kernel⟩, List.mem_of_getElem? (i := 1278) (by decide +kernel), List.mem_of_getElem? (i := 1957) (by decide +kernel), List.mem_of_getElem? (i := 1958) (by decide +kernel)⟩
theorem lw_p84 : lw_okq (⟨"GooseSharesModel", "wantedAt", "(I)I"⟩, 48) := ⟨⟨by decide +kernel, by decide +kernel⟩, List.mem_of_getElem? (i := 1278) (by decide +kernel), List.mem_of_getElem? (i := 1970) (by decide +kernel), List.mem_of_getElem? (i := 1971) (by decide +kernel)⟩
theorem lw_p85 : lw_okq (⟨"GooseSharesModel", "cutsFrom", "(III)V"⟩, 48) := ⟨⟨by decide +kernel, by decide +kernel⟩, List.mem_of_getElem? (i := 1278) (by decide +kernel), List.mem_of_getElem? (i := 1978) (by decide +kernel), List.mem_of_getElem? (i := 1979) (by decide +kernel)⟩
theorem lw_p86 : lw_okq (⟨"GooseSharesModel", "areTwo", "(II)Z"⟩, 48) := ⟨⟨by decide +kernel, by decide +kernel⟩, List.mem_of_getElem? (i := 1278) (by decide +kernel), List.mem_of_getElem? (i := 1989) (by decide +kernel), List.mem_of_getElem? (i := 1990) (by decide +kernel)⟩
theorem lw_p87 : lw_okq (⟨"GooseSharesModel", "hasBy", "(IIIII)I"⟩, 48) := ⟨⟨by decide +kernel, by decide +kernel⟩, List.mem_of_getElem? (i := 1278) (by decide +kernel), List.mem_of_getElem? (i := 1993) (by decide +kernel), List.mem_of_getElem? (i := 1994) (by decide +kernel)⟩
theorem lw_p88 : lw_okq (⟨"GooseSharesModel", "fogs", "(I)I"⟩, 48) := ⟨⟨by decide +kernel, by decide +kernel⟩, List.mem_of_getElem? (i := 1278) (by decide +kernel), List.mem_of_getElem? (i := 2005) (by decide +kernel), List.mem_of_getElem? (i := 2006) (by decide +kernel)⟩
theorem lw_p89 : lw_okq (⟨"GooseSharesModel", "fogWeight", "(I)I"⟩, 48) := ⟨⟨by decide +kernel, by decide +kernel⟩, List.mem_of_getElem? (i := 1278) (by decide +kernel), List.mem_of_getElem? (i := 2009) (by decide +kernel), List.mem_of_getElem? (i := 2010) (by decide +kernel)⟩
theorem lw_p90 : lw_okq (⟨"GooseSharesModel", "fogAll", "()I"⟩, 48) := ⟨⟨by decide +kernel, by decide +kernel⟩, List.mem_of_getElem? (i := 1278) (by decide +kernel), List.mem_of_getElem? (i := 2013) (by decide +kernel), List.mem_of_getElem? (i := 2014) (by decide +kernel)⟩
theorem lw_p91 : lw_okq (⟨"GooseSharesModel", "laysDrawn", "(J)V"⟩, 48) := ⟨⟨by decide +kernel, by decide +kernel⟩, List.mem_of_getElem? (i := 1278) (by decide +kernel), List.mem_of_getElem? (i := 2034) (by decide +kernel), List.mem_of_getElem? (i := 2035) (by decide +kernel)⟩
theorem lw_p92 : lw_okq (⟨"GooseSharesModel", "drawnFog", "(J)I"⟩, 48) := ⟨⟨by decide +kernel, by decide +kernel⟩, List.mem_of_getElem? (i := 1278) (by decide +kernel), List.mem_of_getElem? (i := 2038) (by decide +kernel), List.mem_of_getElem? (i := 2039) (by decide +kernel)⟩
theorem lw_p93 : lw_okq (⟨"GooseSharesModel", "acts", "(III)V"⟩, 48) := ⟨⟨by decide +kernel, by decide +kernel⟩, List.mem_of_getElem? (i := 1278) (by decide +kernel), List.mem_of_getElem? (i := 2056) (by decide +kernel), List.mem_of_getElem? (i := 2057) (by decide +kernel)⟩
def lw_privs_6 : List (MethodName × Nat) := [(⟨"GooseSharesModel", "laysHomes", "()V"⟩, 48), (⟨"GooseSharesModel", "homesFrom", "(III)V"⟩, 48), (⟨"GooseSharesModel", "isLess", "()Z"⟩, 48), (⟨"GooseSharesModel", "swapsOf", "()I"⟩, 48), (⟨"GooseSharesModel", "wantedAt", "(I)I"⟩, 48), (⟨"GooseSharesModel", "cutsFrom", "(III)V"⟩, 48), (⟨"GooseSharesModel", "areTwo", "(II)Z"⟩, 48), (⟨"GooseSharesModel", "hasBy", "(IIIII)I"⟩, 48), (⟨"GooseSharesModel", "fogs", "(I)I"⟩, 48), (⟨"GooseSharesModel", "fogWeight", "(I)I"⟩, 48), (⟨"GooseSharesModel", "fogAll", "()I"⟩, 48), (⟨"GooseSharesModel", "laysDrawn", "(J)V"⟩, 48), (⟨"GooseSharesModel", "drawnFog", "(J)I"⟩, 48), (⟨"GooseSharesModel", "acts", "(III)V"⟩, 48)]
theorem lw_r6 : ∀ q ∈ lw_privs_6, lw_okq q := List.forall_mem_cons.mpr ⟨lw_p80, List.forall_mem_cons.mpr ⟨lw_p81, List.forall_mem_cons.mpr ⟨lw_p82, List.forall_mem_cons.mpr ⟨lw_p83, List.forall_mem_cons.mpr ⟨lw_p84, List.forall_mem_cons.mpr ⟨lw_p85, List.forall_mem_cons.mpr ⟨lw_p86, List.forall_mem_cons.mpr ⟨lw_p87, List.forall_mem_cons.mpr ⟨lw_p88, List.forall_mem_cons.mpr ⟨lw_p89, List.forall_mem_cons.mpr ⟨lw_p90, List.forall_mem_cons.mpr ⟨lw_p91, List.forall_mem_cons.mpr ⟨lw_p92, List.forall_mem_cons.mpr ⟨lw_p93, fun _ h => absurd h List.not_mem_nil⟩⟩⟩⟩⟩⟩⟩⟩⟩⟩⟩⟩⟩⟩
def lw_privs : List (MethodName × Nat) := lw_privs_1 ++ (lw_privs_2 ++ (lw_privs_3 ++ (lw_privs_4 ++ (lw_privs_5 ++ (lw_privs_6)))))
def lw_tbl : List Cond := k2_sels lw_privs ++ tables_1
theorem lw_privs_ok : ∀ q ∈ lw_privs, lw_okq q := by
  show ∀ q ∈ lw_privs_1 ++ (lw_privs_2 ++ (lw_privs_3 ++ (lw_privs_4 ++ (lw_privs_5 ++ (lw_privs_6))))), lw_okq q
  exact List.forall_mem_append.mpr ⟨lw_r1, List.forall_mem_append.mpr ⟨lw_r2, List.forall_mem_append.mpr ⟨lw_r3, List.forall_mem_append.mpr ⟨lw_r4, List.forall_mem_append.mpr ⟨lw_r5, lw_r6⟩⟩⟩⟩⟩
end
section
/-! names: printed by TURN, those that are used; the words of the tables by their places -/
def RX0 : String := "GooseShares$Clues"
def TX0 : u_T := fun k => match k with
  | 0 => ("GooseShares$Clues", "land", "LGooseShares$Land;", true)
  | 1 => ("GooseShares$Clues", "sky", "LGooseShares$Sky;", true)
  | 2 => ("GooseShares$Clues", "hearers", "[I", true)
  | _ => ("GooseShares$Clues", "outs", "[I", true)
def tyX0 : Nat → FieldType := fun k => match k with
  | 0 => .object "GooseShares$Land"
  | 1 => .object "GooseShares$Sky"
  | 2 => .array .int
  | _ => .array .int
theorem nmX0 : ∀ a, a < 4 → ∀ b, b < 4 → a ≠ b → (TX0 a).2.1 ≠ (TX0 b).2.1 := by decide +kernel
theorem tyX0_ok : ∀ k, k < 4 → parseFieldDescriptor (TX0 k).2.2.1 = some (tyX0 k) := by decide +kernel
abbrev cX0_init : ByteArray := prog_2_method_1_code
def yX0_init : MethodName := ⟨RX0, "<init>", "(LGooseShares$Land;LGooseShares$Sky;)V"⟩
abbrev cX0_areSights : ByteArray := prog_2_method_2_code
def yX0_areSights : MethodName := ⟨RX0, "areSights", "(LGooseShares$Row;)Z"⟩
abbrev cX0_areReports : ByteArray := prog_2_method_3_code
def yX0_areReports : MethodName := ⟨RX0, "areReports", "(LGooseShares$Row;)Z"⟩
abbrev cX0_isWithin : ByteArray := prog_2_method_4_code
def yX0_isWithin : MethodName := ⟨RX0, "isWithin", "(JII)Z"⟩
abbrev cX0_lawsFitting : ByteArray := prog_2_method_5_code
def yX0_lawsFitting : MethodName := ⟨RX0, "lawsFitting", "(LGooseShares$Row;)I"⟩
abbrev cX0_allSeen : ByteArray := prog_2_method_6_code
def yX0_allSeen : MethodName := ⟨RX0, "allSeen", "(LGooseShares$Row;)Z"⟩
abbrev cX0_flightToAsk : ByteArray := prog_2_method_7_code
def yX0_flightToAsk : MethodName := ⟨RX0, "flightToAsk", "(I)I"⟩
abbrev cX0_worstLaws : ByteArray := prog_2_method_8_code
def yX0_worstLaws : MethodName := ⟨RX0, "worstLaws", "(II)I"⟩
abbrev cX0_sift : ByteArray := prog_2_method_9_code
def yX0_sift : MethodName := ⟨RX0, "sift", "(LGooseShares$Row;)I"⟩
abbrev cX0_pairs : ByteArray := prog_2_method_10_code
def yX0_pairs : MethodName := ⟨RX0, "pairs", "()I"⟩
abbrev cX0_hearersOf : ByteArray := prog_2_method_11_code
def yX0_hearersOf : MethodName := ⟨RX0, "hearersOf", "(I)I"⟩
abbrev cX0_allReported : ByteArray := prog_2_method_12_code
def yX0_allReported : MethodName := ⟨RX0, "allReported", "(LGooseShares$Row;I)Z"⟩
abbrev cX0_cellBits : ByteArray := prog_2_method_13_code
def yX0_cellBits : MethodName := ⟨RX0, "cellBits", "()I"⟩
abbrev cX0_heardOf : ByteArray := prog_2_method_14_code
def yX0_heardOf : MethodName := ⟨RX0, "heardOf", "(I)I"⟩
abbrev cX0_worstLeft : ByteArray := prog_2_method_15_code
def yX0_worstLeft : MethodName := ⟨RX0, "worstLeft", "(II)I"⟩
abbrev cX0_memberToAsk : ByteArray := prog_2_method_16_code
def yX0_memberToAsk : MethodName := ⟨RX0, "memberToAsk", "(I)I"⟩
def RX1 : String := "GooseShares$Fog"
def TX1 : u_T := fun k => match k with
  | 0 => ("GooseShares$Fog", "land", "LGooseShares$Land;", true)
  | _ => ("GooseShares$Fog", "sky", "LGooseShares$Sky;", true)
def tyX1 : Nat → FieldType := fun k => match k with
  | 0 => .object "GooseShares$Land"
  | _ => .object "GooseShares$Sky"
theorem nmX1 : ∀ a, a < 2 → ∀ b, b < 2 → a ≠ b → (TX1 a).2.1 ≠ (TX1 b).2.1 := by decide +kernel
theorem tyX1_ok : ∀ k, k < 2 → parseFieldDescriptor (TX1 k).2.2.1 = some (tyX1 k) := by decide +kernel
abbrev cX1_init : ByteArray := prog_3_method_1_code
def yX1_init : MethodName := ⟨RX1, "<init>", "(LGooseShares$Land;LGooseShares$Sky;)V"⟩
abbrev cX1_allWeight : ByteArray := prog_3_method_2_code
def yX1_allWeight : MethodName := ⟨RX1, "allWeight", "()I"⟩
abbrev cX1_weightOf : ByteArray := prog_3_method_3_code
def yX1_weightOf : MethodName := ⟨RX1, "weightOf", "(I)I"⟩
abbrev cX1_servedIn : ByteArray := prog_3_method_4_code
def yX1_servedIn : MethodName := ⟨RX1, "servedIn", "(I)I"⟩
abbrev cX1_servedWeight : ByteArray := prog_3_method_5_code
def yX1_servedWeight : MethodName := ⟨RX1, "servedWeight", "(I)I"⟩
abbrev cX1_paidWeight : ByteArray := prog_3_method_6_code
def yX1_paidWeight : MethodName := ⟨RX1, "paidWeight", "()I"⟩
abbrev cX1_clearWeight : ByteArray := prog_3_method_7_code
def yX1_clearWeight : MethodName := ⟨RX1, "clearWeight", "(I)I"⟩
abbrev cX1_drawFrom : ByteArray := prog_3_method_8_code
def yX1_drawFrom : MethodName := ⟨RX1, "drawFrom", "(I)I"⟩
def RX2 : String := "GooseShares$Houses"
def TX2 : u_T := fun k => match k with
  | 0 => ("GooseShares$Houses", "land", "LGooseShares$Land;", true)
  | 1 => ("GooseShares$Houses", "sky", "LGooseShares$Sky;", true)
  | 2 => ("GooseShares$Houses", "loudness", "[I", true)
  | _ => ("GooseShares$Houses", "greatest", "[I", true)
def tyX2 : Nat → FieldType := fun k => match k with
  | 0 => .object "GooseShares$Land"
  | 1 => .object "GooseShares$Sky"
  | 2 => .array .int
  | _ => .array .int
theorem nmX2 : ∀ a, a < 4 → ∀ b, b < 4 → a ≠ b → (TX2 a).2.1 ≠ (TX2 b).2.1 := by decide +kernel
theorem tyX2_ok : ∀ k, k < 4 → parseFieldDescriptor (TX2 k).2.2.1 = some (tyX2 k) := by decide +kernel
abbrev cX2_init : ByteArray := prog_4_method_1_code
def yX2_init : MethodName := ⟨RX2, "<init>", "(LGooseShares$Land;LGooseShares$Sky;)V"⟩
abbrev cX2_listen : ByteArray := prog_4_method_2_code
def yX2_listen : MethodName := ⟨RX2, "listen", "()V"⟩
abbrev cX2_isServed : ByteArray := prog_4_method_3_code
def yX2_isServed : MethodName := ⟨RX2, "isServed", "(II)Z"⟩
abbrev cX2_weigh : ByteArray := prog_4_method_4_code
def yX2_weigh : MethodName := ⟨RX2, "weigh", "()V"⟩
abbrev cX2_paidWith : ByteArray := prog_4_method_5_code
def yX2_paidWith : MethodName := ⟨RX2, "paidWith", "(II)I"⟩
abbrev cX2_cellOf : ByteArray := prog_4_method_6_code
def yX2_cellOf : MethodName := ⟨RX2, "cellOf", "(I)I"⟩
abbrev cX2_leastHouse : ByteArray := prog_4_method_7_code
def yX2_leastHouse : MethodName := ⟨RX2, "leastHouse", "(I)I"⟩
abbrev cX2_isGoodSwap : ByteArray := prog_4_method_8_code
def yX2_isGoodSwap : MethodName := ⟨RX2, "isGoodSwap", "(II)Z"⟩
abbrev cX2_goodSwaps : ByteArray := prog_4_method_9_code
def yX2_goodSwaps : MethodName := ⟨RX2, "goodSwaps", "()I"⟩
abbrev cX2_firstSwap : ByteArray := prog_4_method_10_code
def yX2_firstSwap : MethodName := ⟨RX2, "firstSwap", "()I"⟩
def RX3 : String := "GooseShares$Land"
def TX3 : u_T := fun k => match k with
  | 0 => ("GooseShares$Land", "lines", "I", false)
  | 1 => ("GooseShares$Land", "wide", "I", false)
  | 2 => ("GooseShares$Land", "high", "I", false)
  | 3 => ("GooseShares$Land", "law", "I", false)
  | 4 => ("GooseShares$Land", "ear", "I", false)
  | 5 => ("GooseShares$Land", "odds", "I", false)
  | 6 => ("GooseShares$Land", "flights", "I", false)
  | 7 => ("GooseShares$Land", "members", "I", false)
  | 8 => ("GooseShares$Land", "lit", "I", false)
  | 9 => ("GooseShares$Land", "acts", "I", false)
  | 10 => ("GooseShares$Land", "starts", "[I", true)
  | 11 => ("GooseShares$Land", "headings", "[I", true)
  | 12 => ("GooseShares$Land", "flocks", "[I", true)
  | 13 => ("GooseShares$Land", "houses", "[I", true)
  | 14 => ("GooseShares$Land", "wants", "[I", true)
  | 15 => ("GooseShares$Land", "pays", "[I", true)
  | 16 => ("GooseShares$Land", "actPlaces", "[I", true)
  | 17 => ("GooseShares$Land", "actWere", "[I", true)
  | 18 => ("GooseShares$Land", "within", "[I", true)
  | _ => ("GooseShares$Land", "beside", "[I", true)
def tyX3 : Nat → FieldType := fun k => match k with
  | 0 => .int
  | 1 => .int
  | 2 => .int
  | 3 => .int
  | 4 => .int
  | 5 => .int
  | 6 => .int
  | 7 => .int
  | 8 => .int
  | 9 => .int
  | 10 => .array .int
  | 11 => .array .int
  | 12 => .array .int
  | 13 => .array .int
  | 14 => .array .int
  | 15 => .array .int
  | 16 => .array .int
  | 17 => .array .int
  | 18 => .array .int
  | _ => .array .int
theorem nmX3 : ∀ a, a < 20 → ∀ b, b < 20 → a ≠ b → (TX3 a).2.1 ≠ (TX3 b).2.1 := by decide +kernel
theorem tyX3_ok : ∀ k, k < 20 → parseFieldDescriptor (TX3 k).2.2.1 = some (tyX3 k) := by decide +kernel
abbrev cX3_init : ByteArray := prog_5_method_1_code
def yX3_init : MethodName := ⟨RX3, "<init>", "()V"⟩
abbrev cX3_clear : ByteArray := prog_5_method_2_code
def yX3_clear : MethodName := ⟨RX3, "clear", "()V"⟩
abbrev cX3_become : ByteArray := prog_5_method_3_code
def yX3_become : MethodName := ⟨RX3, "become", "(LGooseShares$Land;)V"⟩
abbrev cX3_survey : ByteArray := prog_5_method_4_code
def yX3_survey : MethodName := ⟨RX3, "survey", "()V"⟩
abbrev cX3_neighbour : ByteArray := prog_5_method_5_code
def yX3_neighbour : MethodName := ⟨RX3, "neighbour", "(II)I"⟩
abbrev cX3_rowOf : ByteArray := prog_5_method_6_code
def yX3_rowOf : MethodName := ⟨RX3, "rowOf", "(I)I"⟩
abbrev cX3_distance : ByteArray := prog_5_method_7_code
def yX3_distance : MethodName := ⟨RX3, "distance", "(II)I"⟩
abbrev cX3_isNone : ByteArray := prog_5_method_8_code
def yX3_isNone : MethodName := ⟨RX3, "isNone", "()Z"⟩
abbrev cX3_cells : ByteArray := prog_5_method_9_code
def yX3_cells : MethodName := ⟨RX3, "cells", "()I"⟩
abbrev cX3_allCells : ByteArray := prog_5_method_10_code
def yX3_allCells : MethodName := ⟨RX3, "allCells", "()I"⟩
abbrev cX3_allMembers : ByteArray := prog_5_method_11_code
def yX3_allMembers : MethodName := ⟨RX3, "allMembers", "()I"⟩
abbrev cX3_hasFlight : ByteArray := prog_5_method_12_code
def yX3_hasFlight : MethodName := ⟨RX3, "hasFlight", "(I)Z"⟩
abbrev cX3_hasMember : ByteArray := prog_5_method_13_code
def yX3_hasMember : MethodName := ⟨RX3, "hasMember", "(I)Z"⟩
abbrev cX3_hasCell : ByteArray := prog_5_method_14_code
def yX3_hasCell : MethodName := ⟨RX3, "hasCell", "(I)Z"⟩
abbrev cX3_hasSet : ByteArray := prog_5_method_15_code
def yX3_hasSet : MethodName := ⟨RX3, "hasSet", "(I)Z"⟩
abbrev cX3_earshot : ByteArray := prog_5_method_16_code
def yX3_earshot : MethodName := ⟨RX3, "earshot", "(I)I"⟩
abbrev cX3_wanters : ByteArray := prog_5_method_17_code
def yX3_wanters : MethodName := ⟨RX3, "wanters", "()I"⟩
abbrev cX3_paidBy : ByteArray := prog_5_method_18_code
def yX3_paidBy : MethodName := ⟨RX3, "paidBy", "(I)I"⟩
abbrev cX3_wantedAt : ByteArray := prog_5_method_19_code
def yX3_wantedAt : MethodName := ⟨RX3, "wantedAt", "(I)I"⟩
abbrev cX3_putLamp : ByteArray := prog_5_method_20_code
def yX3_putLamp : MethodName := ⟨RX3, "putLamp", "(II)I"⟩
abbrev cX3_putHeading : ByteArray := prog_5_method_21_code
def yX3_putHeading : MethodName := ⟨RX3, "putHeading", "(II)I"⟩
abbrev cX3_keepAct : ByteArray := prog_5_method_22_code
def yX3_keepAct : MethodName := ⟨RX3, "keepAct", "(II)V"⟩
abbrev cX3_setLamp : ByteArray := prog_5_method_23_code
def yX3_setLamp : MethodName := ⟨RX3, "setLamp", "(II)V"⟩
abbrev cX3_takeBack : ByteArray := prog_5_method_24_code
def yX3_takeBack : MethodName := ⟨RX3, "takeBack", "()V"⟩
def RX4 : String := "GooseShares$Lanterns"
def TX4 : u_T := fun k => match k with
  | 0 => ("GooseShares$Lanterns", "land", "LGooseShares$Land;", true)
  | 1 => ("GooseShares$Lanterns", "sky", "LGooseShares$Sky;", true)
  | 2 => ("GooseShares$Lanterns", "fewestFor", "[I", true)
  | 3 => ("GooseShares$Lanterns", "leastFor", "[I", true)
  | _ => ("GooseShares$Lanterns", "known", "Z", false)
def tyX4 : Nat → FieldType := fun k => match k with
  | 0 => .object "GooseShares$Land"
  | 1 => .object "GooseShares$Sky"
  | 2 => .array .int
  | 3 => .array .int
  | _ => .boolean
theorem nmX4 : ∀ a, a < 5 → ∀ b, b < 5 → a ≠ b → (TX4 a).2.1 ≠ (TX4 b).2.1 := by decide +kernel
theorem tyX4_ok : ∀ k, k < 5 → parseFieldDescriptor (TX4 k).2.2.1 = some (tyX4 k) := by decide +kernel
abbrev cX4_init : ByteArray := prog_6_method_1_code
def yX4_init : MethodName := ⟨RX4, "<init>", "(LGooseShares$Land;LGooseShares$Sky;)V"⟩
abbrev cX4_forget : ByteArray := prog_6_method_2_code
def yX4_forget : MethodName := ⟨RX4, "forget", "()V"⟩
abbrev cX4_learn : ByteArray := prog_6_method_3_code
def yX4_learn : MethodName := ⟨RX4, "learn", "()V"⟩
abbrev cX4_tryLamps : ByteArray := prog_6_method_4_code
def yX4_tryLamps : MethodName := ⟨RX4, "tryLamps", "(II)V"⟩
abbrev cX4_isCheaper : ByteArray := prog_6_method_5_code
def yX4_isCheaper : MethodName := ⟨RX4, "isCheaper", "(II)Z"⟩
abbrev cX4_cheapest : ByteArray := prog_6_method_6_code
def yX4_cheapest : MethodName := ⟨RX4, "cheapest", "(I)I"⟩
abbrev cX4_richest : ByteArray := prog_6_method_7_code
def yX4_richest : MethodName := ⟨RX4, "richest", "(I)I"⟩
abbrev cX4_isRicher : ByteArray := prog_6_method_8_code
def yX4_isRicher : MethodName := ⟨RX4, "isRicher", "(II)Z"⟩
abbrev cX4_mostServed : ByteArray := prog_6_method_9_code
def yX4_mostServed : MethodName := ⟨RX4, "mostServed", "(I)I"⟩
abbrev cX4_costOf : ByteArray := prog_6_method_10_code
def yX4_costOf : MethodName := ⟨RX4, "costOf", "(I)I"⟩
abbrev cX4_orders : ByteArray := prog_6_method_11_code
def yX4_orders : MethodName := ⟨RX4, "orders", "()I"⟩
abbrev cX4_borneBy : ByteArray := prog_6_method_12_code
def yX4_borneBy : MethodName := ⟨RX4, "borneBy", "(I)I"⟩
def RX5 : String := "GooseShares$Reader"
def TX5 : u_T := fun k => match k with
  | 0 => ("GooseShares$Reader", "tape", "LGooseShares$Tape;", true)
  | 1 => ("GooseShares$Reader", "draft", "LGooseShares$Land;", true)
  | 2 => ("GooseShares$Reader", "kind", "I", false)
  | 3 => ("GooseShares$Reader", "start", "I", false)
  | 4 => ("GooseShares$Reader", "stop", "I", false)
  | 5 => ("GooseShares$Reader", "trouble", "I", false)
  | _ => ("GooseShares$Reader", "where", "I", false)
def tyX5 : Nat → FieldType := fun k => match k with
  | 0 => .object "GooseShares$Tape"
  | 1 => .object "GooseShares$Land"
  | 2 => .int
  | 3 => .int
  | 4 => .int
  | 5 => .int
  | _ => .int
theorem nmX5 : ∀ a, a < 7 → ∀ b, b < 7 → a ≠ b → (TX5 a).2.1 ≠ (TX5 b).2.1 := by decide +kernel
theorem tyX5_ok : ∀ k, k < 7 → parseFieldDescriptor (TX5 k).2.2.1 = some (tyX5 k) := by decide +kernel
abbrev cX5_init : ByteArray := prog_7_method_1_code
def yX5_init : MethodName := ⟨RX5, "<init>", "(LGooseShares$Tape;LGooseShares$Land;)V"⟩
abbrev cX5_readTape : ByteArray := prog_7_method_2_code
def yX5_readTape : MethodName := ⟨RX5, "readTape", "()Z"⟩
abbrev cX5_readLine : ByteArray := prog_7_method_3_code
def yX5_readLine : MethodName := ⟨RX5, "readLine", "()V"⟩
abbrev cX5_readHeadLine : ByteArray := prog_7_method_4_code
def yX5_readHeadLine : MethodName := ⟨RX5, "readHeadLine", "()V"⟩
abbrev cX5_readFlightLine : ByteArray := prog_7_method_5_code
def yX5_readFlightLine : MethodName := ⟨RX5, "readFlightLine", "()V"⟩
abbrev cX5_readMemberLine : ByteArray := prog_7_method_6_code
def yX5_readMemberLine : MethodName := ⟨RX5, "readMemberLine", "()V"⟩
abbrev cX5_readField : ByteArray := prog_7_method_7_code
def yX5_readField : MethodName := ⟨RX5, "readField", "(Ljava/lang/String;II)I"⟩
abbrev cX5_refuse : ByteArray := prog_7_method_8_code
def yX5_refuse : MethodName := ⟨RX5, "refuse", "(I)V"⟩
abbrev cX5_advance : ByteArray := prog_7_method_9_code
def yX5_advance : MethodName := ⟨RX5, "advance", "()V"⟩
abbrev cX5_kindOf : ByteArray := prog_7_method_10_code
def yX5_kindOf : MethodName := ⟨RX5, "kindOf", "(I)I"⟩
abbrev cX5_isWord : ByteArray := prog_7_method_11_code
def yX5_isWord : MethodName := ⟨RX5, "isWord", "(Ljava/lang/String;)Z"⟩
abbrev cX5_numberRead : ByteArray := prog_7_method_12_code
def yX5_numberRead : MethodName := ⟨RX5, "numberRead", "()I"⟩
def RX6 : String := "GooseShares$Row"
def TX6 : u_T := fun k => match k with
  | 0 => ("GooseShares$Row", "numbers", "[J", true)
  | 1 => ("GooseShares$Row", "width", "I", false)
  | _ => ("GooseShares$Row", "length", "I", false)
def tyX6 : Nat → FieldType := fun k => match k with
  | 0 => .array .long
  | 1 => .int
  | _ => .int
theorem nmX6 : ∀ a, a < 3 → ∀ b, b < 3 → a ≠ b → (TX6 a).2.1 ≠ (TX6 b).2.1 := by decide +kernel
theorem tyX6_ok : ∀ k, k < 3 → parseFieldDescriptor (TX6 k).2.2.1 = some (tyX6 k) := by decide +kernel
abbrev cX6_init : ByteArray := prog_8_method_1_code
def yX6_init : MethodName := ⟨RX6, "<init>", "()V"⟩
abbrev cX6_isNothing : ByteArray := prog_8_method_2_code
def yX6_isNothing : MethodName := ⟨RX6, "isNothing", "()Z"⟩
abbrev cX6_begin : ByteArray := prog_8_method_3_code
def yX6_begin : MethodName := ⟨RX6, "begin", "(II)V"⟩
abbrev cX6_put : ByteArray := prog_8_method_4_code
def yX6_put : MethodName := ⟨RX6, "put", "(IJ)V"⟩
abbrev cX6_reaches : ByteArray := prog_8_method_5_code
def yX6_reaches : MethodName := ⟨RX6, "reaches", "(II)Z"⟩
def RX7 : String := "GooseShares$Sky"
def TX7 : u_T := fun k => match k with
  | 0 => ("GooseShares$Sky", "land", "LGooseShares$Land;", true)
  | 1 => ("GooseShares$Sky", "track", "[I", true)
  | 2 => ("GooseShares$Sky", "facing", "[I", true)
  | 3 => ("GooseShares$Sky", "kept", "[I", true)
  | 4 => ("GooseShares$Sky", "geeseOver", "[I", true)
  | 5 => ("GooseShares$Sky", "lit", "I", false)
  | 6 => ("GooseShares$Sky", "law", "I", false)
  | 7 => ("GooseShares$Sky", "stay", "I", false)
  | 8 => ("GooseShares$Sky", "keptStay", "I", false)
  | _ => ("GooseShares$Sky", "turns", "I", false)
def tyX7 : Nat → FieldType := fun k => match k with
  | 0 => .object "GooseShares$Land"
  | 1 => .array .int
  | 2 => .array .int
  | 3 => .array .int
  | 4 => .array .int
  | 5 => .int
  | 6 => .int
  | 7 => .int
  | 8 => .int
  | _ => .int
theorem nmX7 : ∀ a, a < 10 → ∀ b, b < 10 → a ≠ b → (TX7 a).2.1 ≠ (TX7 b).2.1 := by decide +kernel
theorem tyX7_ok : ∀ k, k < 10 → parseFieldDescriptor (TX7 k).2.2.1 = some (tyX7 k) := by decide +kernel
abbrev cX7_init : ByteArray := prog_9_method_1_code
def yX7_init : MethodName := ⟨RX7, "<init>", "(LGooseShares$Land;)V"⟩
abbrev cX7_under : ByteArray := prog_9_method_2_code
def yX7_under : MethodName := ⟨RX7, "under", "(II)V"⟩
abbrev cX7_follow : ByteArray := prog_9_method_3_code
def yX7_follow : MethodName := ⟨RX7, "follow", "(I)V"⟩
abbrev cX7_trace : ByteArray := prog_9_method_4_code
def yX7_trace : MethodName := ⟨RX7, "trace", "(II)V"⟩
abbrev cX7_turned : ByteArray := prog_9_method_5_code
def yX7_turned : MethodName := ⟨RX7, "turned", "(II)I"⟩
abbrev cX7_cellAt : ByteArray := prog_9_method_6_code
def yX7_cellAt : MethodName := ⟨RX7, "cellAt", "(I)I"⟩
abbrev cX7_headingAt : ByteArray := prog_9_method_7_code
def yX7_headingAt : MethodName := ⟨RX7, "headingAt", "(I)I"⟩
abbrev cX7_outStep : ByteArray := prog_9_method_8_code
def yX7_outStep : MethodName := ⟨RX7, "outStep", "()I"⟩
abbrev cX7_wayBits : ByteArray := prog_9_method_9_code
def yX7_wayBits : MethodName := ⟨RX7, "wayBits", "()I"⟩
abbrev cX7_stepsWithin : ByteArray := prog_9_method_10_code
def yX7_stepsWithin : MethodName := ⟨RX7, "stepsWithin", "(I)I"⟩
abbrev cX7_firstWithin : ByteArray := prog_9_method_11_code
def yX7_firstWithin : MethodName := ⟨RX7, "firstWithin", "(I)I"⟩
abbrev cX7_keepTrack : ByteArray := prog_9_method_12_code
def yX7_keepTrack : MethodName := ⟨RX7, "keepTrack", "()V"⟩
abbrev cX7_firstMeeting : ByteArray := prog_9_method_13_code
def yX7_firstMeeting : MethodName := ⟨RX7, "firstMeeting", "()I"⟩
abbrev cX7_pass : ByteArray := prog_9_method_14_code
def yX7_pass : MethodName := ⟨RX7, "pass", "(I)V"⟩
abbrev cX7_heardIn : ByteArray := prog_9_method_15_code
def yX7_heardIn : MethodName := ⟨RX7, "heardIn", "(I)I"⟩
abbrev cX7_wouldServe : ByteArray := prog_9_method_16_code
def yX7_wouldServe : MethodName := ⟨RX7, "wouldServe", "(II)Z"⟩
abbrev cX7_servedBits : ByteArray := prog_9_method_17_code
def yX7_servedBits : MethodName := ⟨RX7, "servedBits", "()I"⟩
abbrev cX7_deafBits : ByteArray := prog_9_method_18_code
def yX7_deafBits : MethodName := ⟨RX7, "deafBits", "()I"⟩
def RX8 : String := "GooseShares$Tape"
def TX8 : u_T := fun k => match k with
  | 0 => ("GooseShares$Tape", "bytes", "[B", true)
  | _ => ("GooseShares$Tape", "length", "I", false)
def tyX8 : Nat → FieldType := fun k => match k with
  | 0 => .array .byte
  | _ => .int
theorem nmX8 : ∀ a, a < 2 → ∀ b, b < 2 → a ≠ b → (TX8 a).2.1 ≠ (TX8 b).2.1 := by decide +kernel
theorem tyX8_ok : ∀ k, k < 2 → parseFieldDescriptor (TX8 k).2.2.1 = some (tyX8 k) := by decide +kernel
abbrev cX8_init : ByteArray := prog_10_method_1_code
def yX8_init : MethodName := ⟨RX8, "<init>", "()V"⟩
abbrev cX8_append : ByteArray := prog_10_method_2_code
def yX8_append : MethodName := ⟨RX8, "append", "(I)V"⟩
def RX9 : String := "GooseShares"
def TX9 : u_T := fun k => match k with
  | 0 => ("GooseShares", "tape", "LGooseShares$Tape;", true)
  | 1 => ("GooseShares", "now", "LGooseShares$Land;", true)
  | 2 => ("GooseShares", "reader", "LGooseShares$Reader;", true)
  | 3 => ("GooseShares", "images", "[LGooseShares$Land;", true)
  | 4 => ("GooseShares", "rows", "[LGooseShares$Row;", true)
  | 5 => ("GooseShares", "sky", "LGooseShares$Sky;", true)
  | 6 => ("GooseShares", "lanterns", "LGooseShares$Lanterns;", true)
  | 7 => ("GooseShares", "clues", "LGooseShares$Clues;", true)
  | 8 => ("GooseShares", "houses", "LGooseShares$Houses;", true)
  | 9 => ("GooseShares", "fog", "LGooseShares$Fog;", true)
  | _ => ("GooseShares", "imaged", "[Z", true)
def tyX9 : Nat → FieldType := fun k => match k with
  | 0 => .object "GooseShares$Tape"
  | 1 => .object "GooseShares$Land"
  | 2 => .object "GooseShares$Reader"
  | 3 => .array (.object "GooseShares$Land")
  | 4 => .array (.object "GooseShares$Row")
  | 5 => .object "GooseShares$Sky"
  | 6 => .object "GooseShares$Lanterns"
  | 7 => .object "GooseShares$Clues"
  | 8 => .object "GooseShares$Houses"
  | 9 => .object "GooseShares$Fog"
  | _ => .array .boolean
theorem nmX9 : ∀ a, a < 11 → ∀ b, b < 11 → a ≠ b → (TX9 a).2.1 ≠ (TX9 b).2.1 := by decide +kernel
theorem tyX9_ok : ∀ k, k < 11 → parseFieldDescriptor (TX9 k).2.2.1 = some (tyX9 k) := by decide +kernel
abbrev cX9_init : ByteArray := prog_1_method_1_code
def yX9_init : MethodName := ⟨RX9, "<init>", "()V"⟩
abbrev cX9_feed : ByteArray := prog_1_method_2_code
def yX9_feed : MethodName := ⟨RX9, "feed", "(IIIII)I"⟩
abbrev cX9_end : ByteArray := prog_1_method_3_code
def yX9_end : MethodName := ⟨RX9, "end", "(I)I"⟩
abbrev cX9_land : ByteArray := prog_1_method_4_code
def yX9_land : MethodName := ⟨RX9, "land", "()I"⟩
abbrev cX9_fault : ByteArray := prog_1_method_5_code
def yX9_fault : MethodName := ⟨RX9, "fault", "(I)I"⟩
abbrev cX9_flight : ByteArray := prog_1_method_6_code
def yX9_flight : MethodName := ⟨RX9, "flight", "(II)I"⟩
abbrev cX9_member : ByteArray := prog_1_method_7_code
def yX9_member : MethodName := ⟨RX9, "member", "(II)I"⟩
abbrev cX9_lamps : ByteArray := prog_1_method_8_code
def yX9_lamps : MethodName := ⟨RX9, "lamps", "()I"⟩
abbrev cX9_at : ByteArray := prog_1_method_9_code
def yX9_at : MethodName := ⟨RX9, "at", "(II)I"⟩
abbrev cX9_heads : ByteArray := prog_1_method_10_code
def yX9_heads : MethodName := ⟨RX9, "heads", "(II)I"⟩
abbrev cX9_out : ByteArray := prog_1_method_11_code
def yX9_out : MethodName := ⟨RX9, "out", "(I)I"⟩
abbrev cX9_bends : ByteArray := prog_1_method_12_code
def yX9_bends : MethodName := ⟨RX9, "bends", "(I)I"⟩
abbrev cX9_way : ByteArray := prog_1_method_13_code
def yX9_way : MethodName := ⟨RX9, "way", "(I)I"⟩
abbrev cX9_over : ByteArray := prog_1_method_14_code
def yX9_over : MethodName := ⟨RX9, "over", "(I)I"⟩
abbrev cX9_geese : ByteArray := prog_1_method_15_code
def yX9_geese : MethodName := ⟨RX9, "geese", "(II)I"⟩
abbrev cX9_hears : ByteArray := prog_1_method_16_code
def yX9_hears : MethodName := ⟨RX9, "hears", "(II)I"⟩
abbrev cX9_heard : ByteArray := prog_1_method_17_code
def yX9_heard : MethodName := ⟨RX9, "heard", "(I)I"⟩
abbrev cX9_ears : ByteArray := prog_1_method_18_code
def yX9_ears : MethodName := ⟨RX9, "ears", "(I)I"⟩
abbrev cX9_loud : ByteArray := prog_1_method_19_code
def yX9_loud : MethodName := ⟨RX9, "loud", "()I"⟩
abbrev cX9_quiet : ByteArray := prog_1_method_20_code
def yX9_quiet : MethodName := ⟨RX9, "quiet", "()I"⟩
abbrev cX9_served : ByteArray := prog_1_method_21_code
def yX9_served : MethodName := ⟨RX9, "served", "()I"⟩
abbrev cX9_income : ByteArray := prog_1_method_22_code
def yX9_income : MethodName := ⟨RX9, "income", "()I"⟩
abbrev cX9_unpaid : ByteArray := prog_1_method_23_code
def yX9_unpaid : MethodName := ⟨RX9, "unpaid", "()I"⟩
abbrev cX9_first : ByteArray := prog_1_method_24_code
def yX9_first : MethodName := ⟨RX9, "first", "()I"⟩
abbrev cX9_lacks : ByteArray := prog_1_method_25_code
def yX9_lacks : MethodName := ⟨RX9, "lacks", "()I"⟩
abbrev cX9_near : ByteArray := prog_1_method_26_code
def yX9_near : MethodName := ⟨RX9, "near", "(I)I"⟩
abbrev cX9_lone : ByteArray := prog_1_method_27_code
def yX9_lone : MethodName := ⟨RX9, "lone", "()I"⟩
abbrev cX9_meets : ByteArray := prog_1_method_28_code
def yX9_meets : MethodName := ⟨RX9, "meets", "(II)I"⟩
abbrev cX9_spare : ByteArray := prog_1_method_29_code
def yX9_spare : MethodName := ⟨RX9, "spare", "()I"⟩
abbrev cX9_calls : ByteArray := prog_1_method_30_code
def yX9_calls : MethodName := ⟨RX9, "calls", "(I)I"⟩
abbrev cX9_farthest : ByteArray := prog_1_method_31_code
def yX9_farthest : MethodName := ⟨RX9, "farthest", "(I)I"⟩
abbrev cX9_fewest : ByteArray := prog_1_method_32_code
def yX9_fewest : MethodName := ⟨RX9, "fewest", "(I)I"⟩
abbrev cX9_lights : ByteArray := prog_1_method_33_code
def yX9_lights : MethodName := ⟨RX9, "lights", "(I)I"⟩
abbrev cX9_best : ByteArray := prog_1_method_34_code
def yX9_best : MethodName := ⟨RX9, "best", "(I)I"⟩
abbrev cX9_bests : ByteArray := prog_1_method_35_code
def yX9_bests : MethodName := ⟨RX9, "bests", "(I)I"⟩
abbrev cX9_most : ByteArray := prog_1_method_36_code
def yX9_most : MethodName := ⟨RX9, "most", "(I)I"⟩
abbrev cX9_more : ByteArray := prog_1_method_37_code
def yX9_more : MethodName := ⟨RX9, "more", "()I"⟩
abbrev cX9_less : ByteArray := prog_1_method_38_code
def yX9_less : MethodName := ⟨RX9, "less", "()I"⟩
abbrev cX9_by : ByteArray := prog_1_method_39_code
def yX9_by : MethodName := ⟨RX9, "by", "(I)I"⟩
abbrev cX9_law : ByteArray := prog_1_method_40_code
def yX9_law : MethodName := ⟨RX9, "law", "()I"⟩
abbrev cX9_laws : ByteArray := prog_1_method_41_code
def yX9_laws : MethodName := ⟨RX9, "laws", "(I)I"⟩
abbrev cX9_ask : ByteArray := prog_1_method_42_code
def yX9_ask : MethodName := ⟨RX9, "ask", "(I)I"⟩
abbrev cX9_began : ByteArray := prog_1_method_43_code
def yX9_began : MethodName := ⟨RX9, "began", "(I)I"⟩
abbrev cX9_spots : ByteArray := prog_1_method_44_code
def yX9_spots : MethodName := ⟨RX9, "spots", "(I)I"⟩
abbrev cX9_who : ByteArray := prog_1_method_45_code
def yX9_who : MethodName := ⟨RX9, "who", "(I)I"⟩
abbrev cX9_leaves : ByteArray := prog_1_method_46_code
def yX9_leaves : MethodName := ⟨RX9, "leaves", "(I)I"⟩
abbrev cX9_odds : ByteArray := prog_1_method_47_code
def yX9_odds : MethodName := ⟨RX9, "odds", "(III)I"⟩
abbrev cX9_homes : ByteArray := prog_1_method_48_code
def yX9_homes : MethodName := ⟨RX9, "homes", "()I"⟩
abbrev cX9_home : ByteArray := prog_1_method_49_code
def yX9_home : MethodName := ⟨RX9, "home", "(I)I"⟩
abbrev cX9_swaps : ByteArray := prog_1_method_50_code
def yX9_swaps : MethodName := ⟨RX9, "swaps", "()I"⟩
abbrev cX9_swap : ByteArray := prog_1_method_51_code
def yX9_swap : MethodName := ⟨RX9, "swap", "()I"⟩
abbrev cX9_price : ByteArray := prog_1_method_52_code
def yX9_price : MethodName := ⟨RX9, "price", "(I)I"⟩
abbrev cX9_cut : ByteArray := prog_1_method_53_code
def yX9_cut : MethodName := ⟨RX9, "cut", "(II)I"⟩
abbrev cX9_rests : ByteArray := prog_1_method_54_code
def yX9_rests : MethodName := ⟨RX9, "rests", "(II)I"⟩
abbrev cX9_has : ByteArray := prog_1_method_55_code
def yX9_has : MethodName := ⟨RX9, "has", "(IIII)I"⟩
abbrev cX9_chance : ByteArray := prog_1_method_56_code
def yX9_chance : MethodName := ⟨RX9, "chance", "(II)I"⟩
abbrev cX9_mean : ByteArray := prog_1_method_57_code
def yX9_mean : MethodName := ⟨RX9, "mean", "(I)I"⟩
abbrev cX9_flown : ByteArray := prog_1_method_58_code
def yX9_flown : MethodName := ⟨RX9, "flown", "(II)I"⟩
abbrev cX9_light : ByteArray := prog_1_method_59_code
def yX9_light : MethodName := ⟨RX9, "light", "(II)I"⟩
abbrev cX9_turn : ByteArray := prog_1_method_60_code
def yX9_turn : MethodName := ⟨RX9, "turn", "(II)I"⟩
abbrev cX9_undo : ByteArray := prog_1_method_61_code
def yX9_undo : MethodName := ⟨RX9, "undo", "()I"⟩
abbrev cX9_anew : ByteArray := prog_1_method_62_code
def yX9_anew : MethodName := ⟨RX9, "anew", "()I"⟩
abbrev cX9_drawn : ByteArray := prog_1_method_63_code
def yX9_drawn : MethodName := ⟨RX9, "drawn", "(II)I"⟩
abbrev cX9_luck : ByteArray := prog_1_method_64_code
def yX9_luck : MethodName := ⟨RX9, "luck", "(III)I"⟩
abbrev cX9_rate : ByteArray := prog_1_method_65_code
def yX9_rate : MethodName := ⟨RX9, "rate", "(II)I"⟩
abbrev cX9_count : ByteArray := prog_1_method_66_code
def yX9_count : MethodName := ⟨RX9, "count", "(I)I"⟩
abbrev cX9_image : ByteArray := prog_1_method_67_code
def yX9_image : MethodName := ⟨RX9, "image", "(I)I"⟩
abbrev cX9_back : ByteArray := prog_1_method_68_code
def yX9_back : MethodName := ⟨RX9, "back", "(I)I"⟩
abbrev cX9_row : ByteArray := prog_1_method_69_code
def yX9_row : MethodName := ⟨RX9, "row", "(III)I"⟩
abbrev cX9_write : ByteArray := prog_1_method_70_code
def yX9_write : MethodName := ⟨RX9, "write", "(IIJ)I"⟩
abbrev cX9_paste : ByteArray := prog_1_method_71_code
def yX9_paste : MethodName := ⟨RX9, "paste", "(IIIII)I"⟩
abbrev cX9_hasBit : ByteArray := prog_1_method_72_code
def yX9_hasBit : MethodName := ⟨RX9, "hasBit", "(II)Z"⟩
abbrev cX9_isStep : ByteArray := prog_1_method_73_code
def yX9_isStep : MethodName := ⟨RX9, "isStep", "(I)Z"⟩
abbrev cX9_isLampCount : ByteArray := prog_1_method_74_code
def yX9_isLampCount : MethodName := ⟨RX9, "isLampCount", "(I)Z"⟩
abbrev cX9_isFractionPart : ByteArray := prog_1_method_75_code
def yX9_isFractionPart : MethodName := ⟨RX9, "isFractionPart", "(I)Z"⟩
abbrev cX9_isChoice : ByteArray := prog_1_method_76_code
def yX9_isChoice : MethodName := ⟨RX9, "isChoice", "(I)Z"⟩
abbrev cX9_isSeed : ByteArray := prog_1_method_77_code
def yX9_isSeed : MethodName := ⟨RX9, "isSeed", "(I)Z"⟩
abbrev cX9_isSlot : ByteArray := prog_1_method_78_code
def yX9_isSlot : MethodName := ⟨RX9, "isSlot", "(I)Z"⟩
abbrev cX9_commonDivisor : ByteArray := prog_1_method_79_code
def yX9_commonDivisor : MethodName := ⟨RX9, "commonDivisor", "(II)I"⟩
abbrev cX9_partOf : ByteArray := prog_1_method_80_code
def yX9_partOf : MethodName := ⟨RX9, "partOf", "(III)I"⟩
abbrev cX9_areTwo : ByteArray := prog_1_method_81_code
def yX9_areTwo : MethodName := ⟨RX9, "areTwo", "(II)Z"⟩
abbrev cX9_rowsHad : ByteArray := prog_1_method_82_code
def yX9_rowsHad : MethodName := ⟨RX9, "rowsHad", "()I"⟩
abbrev cX9_followNow : ByteArray := prog_1_method_83_code
def yX9_followNow : MethodName := ⟨RX9, "followNow", "(I)V"⟩
abbrev cX9_passNow : ByteArray := prog_1_method_84_code
def yX9_passNow : MethodName := ⟨RX9, "passNow", "()V"⟩
abbrev cX9_servedUnder : ByteArray := prog_1_method_85_code
def yX9_servedUnder : MethodName := ⟨RX9, "servedUnder", "(II)I"⟩
abbrev cX9_incomeUnder : ByteArray := prog_1_method_86_code
def yX9_incomeUnder : MethodName := ⟨RX9, "incomeUnder", "(II)I"⟩
abbrev cX9_earshotOfUnpaid : ByteArray := prog_1_method_87_code
def yX9_earshotOfUnpaid : MethodName := ⟨RX9, "earshotOfUnpaid", "()I"⟩
abbrev cX9_unpaidBits : ByteArray := prog_1_method_88_code
def yX9_unpaidBits : MethodName := ⟨RX9, "unpaidBits", "()I"⟩
abbrev cX9_flightsOver : ByteArray := prog_1_method_89_code
def yX9_flightsOver : MethodName := ⟨RX9, "flightsOver", "(I)I"⟩
abbrev cX9_geeseWithin : ByteArray := prog_1_method_90_code
def yX9_geeseWithin : MethodName := ⟨RX9, "geeseWithin", "(II)I"⟩
abbrev cX9_bestChange : ByteArray := prog_1_method_91_code
def yX9_bestChange : MethodName := ⟨RX9, "bestChange", "(I)I"⟩
abbrev cX9_rowRefusal : ByteArray := prog_1_method_92_code
def yX9_rowRefusal : MethodName := ⟨RX9, "rowRefusal", "(I)I"⟩
abbrev cX9_sightRefusal : ByteArray := prog_1_method_93_code
def yX9_sightRefusal : MethodName := ⟨RX9, "sightRefusal", "(I)I"⟩
abbrev cX9_reportRefusal : ByteArray := prog_1_method_94_code
def yX9_reportRefusal : MethodName := ⟨RX9, "reportRefusal", "(I)I"⟩
abbrev cX9_gain : ByteArray := prog_1_method_95_code
def yX9_gain : MethodName := ⟨RX9, "gain", "(IIII)I"⟩
abbrev cX9_atRest : ByteArray := prog_1_method_96_code
def yX9_atRest : MethodName := ⟨RX9, "atRest", "(IIII)Z"⟩
def RX10 : String := "GooseSharesModel"
def TX10 : u_T := fun k => match k with
  | 0 => ("GooseSharesModel", "thrown", "I", false)
  | 1 => ("GooseSharesModel", "width", "[I", true)
  | 2 => ("GooseSharesModel", "many", "[I", true)
  | 3 => ("GooseSharesModel", "cells", "[J", true)
  | 4 => ("GooseSharesModel", "moved", "[J", true)
  | 5 => ("GooseSharesModel", "tape", "[B", true)
  | 6 => ("GooseSharesModel", "taped", "I", false)
  | 7 => ("GooseSharesModel", "spot", "I", false)
  | 8 => ("GooseSharesModel", "token", "I", false)
  | 9 => ("GooseSharesModel", "place", "I", false)
  | 10 => ("GooseSharesModel", "value", "I", false)
  | 11 => ("GooseSharesModel", "word", "J", false)
  | 12 => ("GooseSharesModel", "bad", "I", false)
  | 13 => ("GooseSharesModel", "badPlace", "I", false)
  | 14 => ("GooseSharesModel", "fault", "I", false)
  | 15 => ("GooseSharesModel", "faultPlace", "I", false)
  | 16 => ("GooseSharesModel", "lines", "[I", true)
  | 17 => ("GooseSharesModel", "has", "[I", true)
  | 18 => ("GooseSharesModel", "flight", "[I", true)
  | 19 => ("GooseSharesModel", "member", "[I", true)
  | 20 => ("GooseSharesModel", "act", "[I", true)
  | 21 => ("GooseSharesModel", "isKept", "[Z", true)
  | 22 => ("GooseSharesModel", "lit", "I", false)
  | 23 => ("GooseSharesModel", "law", "I", false)
  | 24 => ("GooseSharesModel", "fog", "I", false)
  | 25 => ("GooseSharesModel", "headsAt", "[I", true)
  | 26 => ("GooseSharesModel", "cellAt", "[I", true)
  | 27 => ("GooseSharesModel", "headAt", "[I", true)
  | 28 => ("GooseSharesModel", "turnsOf", "[I", true)
  | 29 => ("GooseSharesModel", "heardAt", "[I", true)
  | 30 => ("GooseSharesModel", "fewest", "[I", true)
  | 31 => ("GooseSharesModel", "fewestSet", "[I", true)
  | 32 => ("GooseSharesModel", "income", "[I", true)
  | 33 => ("GooseSharesModel", "incomeSet", "[I", true)
  | 34 => ("GooseSharesModel", "most", "[I", true)
  | 35 => ("GooseSharesModel", "often", "[I", true)
  | 36 => ("GooseSharesModel", "beganMany", "I", false)
  | 37 => ("GooseSharesModel", "beganCells", "I", false)
  | 38 => ("GooseSharesModel", "beganHeard", "[I", true)
  | 39 => ("GooseSharesModel", "whoBest", "I", false)
  | 40 => ("GooseSharesModel", "whoLeaves", "I", false)
  | 41 => ("GooseSharesModel", "house", "[I", true)
  | 42 => ("GooseSharesModel", "bestHouse", "[I", true)
  | 43 => ("GooseSharesModel", "homesMost", "I", false)
  | 44 => ("GooseSharesModel", "swapFirst", "I", false)
  | 45 => ("GooseSharesModel", "cutSum", "I", false)
  | 46 => ("GooseSharesModel", "cutMany", "I", false)
  | _ => ("GooseSharesModel", "wanting", "I", false)
def tyX10 : Nat → FieldType := fun k => match k with
  | 0 => .int
  | 1 => .array .int
  | 2 => .array .int
  | 3 => .array .long
  | 4 => .array .long
  | 5 => .array .byte
  | 6 => .int
  | 7 => .int
  | 8 => .int
  | 9 => .int
  | 10 => .int
  | 11 => .long
  | 12 => .int
  | 13 => .int
  | 14 => .int
  | 15 => .int
  | 16 => .array .int
  | 17 => .array .int
  | 18 => .array .int
  | 19 => .array .int
  | 20 => .array .int
  | 21 => .array .boolean
  | 22 => .int
  | 23 => .int
  | 24 => .int
  | 25 => .array .int
  | 26 => .array .int
  | 27 => .array .int
  | 28 => .array .int
  | 29 => .array .int
  | 30 => .array .int
  | 31 => .array .int
  | 32 => .array .int
  | 33 => .array .int
  | 34 => .array .int
  | 35 => .array .int
  | 36 => .int
  | 37 => .int
  | 38 => .array .int
  | 39 => .int
  | 40 => .int
  | 41 => .array .int
  | 42 => .array .int
  | 43 => .int
  | 44 => .int
  | 45 => .int
  | 46 => .int
  | _ => .int
theorem nmX10 : ∀ a, a < 48 → ∀ b, b < 48 → a ≠ b → (TX10 a).2.1 ≠ (TX10 b).2.1 := by decide +kernel
theorem tyX10_ok : ∀ k, k < 48 → parseFieldDescriptor (TX10 k).2.2.1 = some (tyX10 k) := by decide +kernel
abbrev cX10_init : ByteArray := prog_12_method_1_code
def yX10_init : MethodName := ⟨RX10, "<init>", "()V"⟩
abbrev cX10_in : ByteArray := prog_12_method_3_code
def yX10_in : MethodName := ⟨RX10, "in", "(JJJ)Z"⟩
abbrev cX10_isSlot : ByteArray := prog_12_method_4_code
def yX10_isSlot : MethodName := ⟨RX10, "isSlot", "(I)Z"⟩
abbrev cX10_row : ByteArray := prog_12_method_5_code
def yX10_row : MethodName := ⟨RX10, "row", "(III)I"⟩
abbrev cX10_cut : ByteArray := prog_12_method_6_code
def yX10_cut : MethodName := ⟨RX10, "cut", "(JI)J"⟩
abbrev cX10_write : ByteArray := prog_12_method_7_code
def yX10_write : MethodName := ⟨RX10, "write", "(IIJ)I"⟩
abbrev cX10_paste : ByteArray := prog_12_method_8_code
def yX10_paste : MethodName := ⟨RX10, "paste", "(IIIII)I"⟩
abbrev cX10_feed : ByteArray := prog_12_method_9_code
def yX10_feed : MethodName := ⟨RX10, "feed", "(IIIII)I"⟩
abbrev cX10_four : ByteArray := prog_12_method_10_code
def yX10_four : MethodName := ⟨RX10, "four", "(I)V"⟩
abbrev cX10_end : ByteArray := prog_12_method_11_code
def yX10_end : MethodName := ⟨RX10, "end", "(I)I"⟩
abbrev cX10_isByte : ByteArray := prog_12_method_12_code
def yX10_isByte : MethodName := ⟨RX10, "isByte", "(III)Z"⟩
abbrev cX10_next : ByteArray := prog_12_method_13_code
def yX10_next : MethodName := ⟨RX10, "next", "()V"⟩
abbrev cX10_isGood : ByteArray := prog_12_method_14_code
def yX10_isGood : MethodName := ⟨RX10, "isGood", "()Z"⟩
abbrev cX10_fails : ByteArray := prog_12_method_15_code
def yX10_fails : MethodName := ⟨RX10, "fails", "(I)V"⟩
abbrev cX10_is : ByteArray := prog_12_method_16_code
def yX10_is : MethodName := ⟨RX10, "is", "(J)Z"⟩
abbrev cX10_takes : ByteArray := prog_12_method_17_code
def yX10_takes : MethodName := ⟨RX10, "takes", "(J)Z"⟩
abbrev cX10_asks : ByteArray := prog_12_method_18_code
def yX10_asks : MethodName := ⟨RX10, "asks", "(J)V"⟩
abbrev cX10_number : ByteArray := prog_12_method_19_code
def yX10_number : MethodName := ⟨RX10, "number", "(II)I"⟩
abbrev cX10_number_ : ByteArray := prog_12_method_20_code
def yX10_number_ : MethodName := ⟨RX10, "number", "(JII)I"⟩
abbrev cX10_ends : ByteArray := prog_12_method_21_code
def yX10_ends : MethodName := ⟨RX10, "ends", "()V"⟩
abbrev cX10_begins : ByteArray := prog_12_method_22_code
def yX10_begins : MethodName := ⟨RX10, "begins", "()V"⟩
abbrev cX10_isOver : ByteArray := prog_12_method_23_code
def yX10_isOver : MethodName := ⟨RX10, "isOver", "()V"⟩
abbrev cX10_fault : ByteArray := prog_12_method_24_code
def yX10_fault : MethodName := ⟨RX10, "fault", "(I)I"⟩
abbrev cX10_hasRead : ByteArray := prog_12_method_25_code
def yX10_hasRead : MethodName := ⟨RX10, "hasRead", "(I)I"⟩
abbrev cX10_tells : ByteArray := prog_12_method_26_code
def yX10_tells : MethodName := ⟨RX10, "tells", "(II)V"⟩
abbrev cX10_cellHere : ByteArray := prog_12_method_27_code
def yX10_cellHere : MethodName := ⟨RX10, "cellHere", "()I"⟩
abbrev cX10_flightLine : ByteArray := prog_12_method_28_code
def yX10_flightLine : MethodName := ⟨RX10, "flightLine", "()V"⟩
abbrev cX10_memberLine : ByteArray := prog_12_method_29_code
def yX10_memberLine : MethodName := ⟨RX10, "memberLine", "()V"⟩
abbrev cX10_isRoom : ByteArray := prog_12_method_30_code
def yX10_isRoom : MethodName := ⟨RX10, "isRoom", "(ZII)Z"⟩
abbrev cX10_line : ByteArray := prog_12_method_31_code
def yX10_line : MethodName := ⟨RX10, "line", "()V"⟩
abbrev cX10_clears : ByteArray := prog_12_method_32_code
def yX10_clears : MethodName := ⟨RX10, "clears", "()V"⟩
abbrev cX10_landLine : ByteArray := prog_12_method_33_code
def yX10_landLine : MethodName := ⟨RX10, "landLine", "()V"⟩
abbrev cX10_land : ByteArray := prog_12_method_34_code
def yX10_land : MethodName := ⟨RX10, "land", "()I"⟩
abbrev cX10_copyRow : ByteArray := prog_12_method_35_code
def yX10_copyRow : MethodName := ⟨RX10, "copyRow", "([IIII)V"⟩
abbrev cX10_copyLand : ByteArray := prog_12_method_36_code
def yX10_copyLand : MethodName := ⟨RX10, "copyLand", "(II)V"⟩
abbrev cX10_isLand : ByteArray := prog_12_method_37_code
def yX10_isLand : MethodName := ⟨RX10, "isLand", "()Z"⟩
abbrev cX10_cellsAll : ByteArray := prog_12_method_38_code
def yX10_cellsAll : MethodName := ⟨RX10, "cellsAll", "()I"⟩
abbrev cX10_flights : ByteArray := prog_12_method_39_code
def yX10_flights : MethodName := ⟨RX10, "flights", "()I"⟩
abbrev cX10_members : ByteArray := prog_12_method_40_code
def yX10_members : MethodName := ⟨RX10, "members", "()I"⟩
abbrev cX10_isCell : ByteArray := prog_12_method_41_code
def yX10_isCell : MethodName := ⟨RX10, "isCell", "(J)Z"⟩
abbrev cX10_isFlight : ByteArray := prog_12_method_42_code
def yX10_isFlight : MethodName := ⟨RX10, "isFlight", "(J)Z"⟩
abbrev cX10_isMember : ByteArray := prog_12_method_43_code
def yX10_isMember : MethodName := ⟨RX10, "isMember", "(J)Z"⟩
abbrev cX10_areTwo : ByteArray := prog_12_method_44_code
def yX10_areTwo : MethodName := ⟨RX10, "areTwo", "(II)Z"⟩
abbrev cX10_isStep : ByteArray := prog_12_method_45_code
def yX10_isStep : MethodName := ⟨RX10, "isStep", "(I)Z"⟩
abbrev cX10_isMany : ByteArray := prog_12_method_46_code
def yX10_isMany : MethodName := ⟨RX10, "isMany", "(I)Z"⟩
abbrev cX10_isLaw : ByteArray := prog_12_method_47_code
def yX10_isLaw : MethodName := ⟨RX10, "isLaw", "(I)Z"⟩
abbrev cX10_isHalf : ByteArray := prog_12_method_48_code
def yX10_isHalf : MethodName := ⟨RX10, "isHalf", "(I)Z"⟩
abbrev cX10_isBit : ByteArray := prog_12_method_49_code
def yX10_isBit : MethodName := ⟨RX10, "isBit", "(II)Z"⟩
abbrev cX10_sizeOf : ByteArray := prog_12_method_50_code
def yX10_sizeOf : MethodName := ⟨RX10, "sizeOf", "(I)I"⟩
abbrev cX10_wantsOf : ByteArray := prog_12_method_51_code
def yX10_wantsOf : MethodName := ⟨RX10, "wantsOf", "(I)I"⟩
abbrev cX10_paysOf : ByteArray := prog_12_method_52_code
def yX10_paysOf : MethodName := ⟨RX10, "paysOf", "(I)I"⟩
abbrev cX10_far : ByteArray := prog_12_method_53_code
def yX10_far : MethodName := ⟨RX10, "far", "(II)I"⟩
abbrev cX10_lays : ByteArray := prog_12_method_54_code
def yX10_lays : MethodName := ⟨RX10, "lays", "()V"⟩
abbrev cX10_turned : ByteArray := prog_12_method_55_code
def yX10_turned : MethodName := ⟨RX10, "turned", "(II)I"⟩
abbrev cX10_beside : ByteArray := prog_12_method_56_code
def yX10_beside : MethodName := ⟨RX10, "beside", "(II)I"⟩
abbrev cX10_flies : ByteArray := prog_12_method_57_code
def yX10_flies : MethodName := ⟨RX10, "flies", "(III)V"⟩
abbrev cX10_isHeard : ByteArray := prog_12_method_58_code
def yX10_isHeard : MethodName := ⟨RX10, "isHeard", "(III)Z"⟩
abbrev cX10_hearsOf : ByteArray := prog_12_method_59_code
def yX10_hearsOf : MethodName := ⟨RX10, "hearsOf", "(II)I"⟩
abbrev cX10_runs : ByteArray := prog_12_method_60_code
def yX10_runs : MethodName := ⟨RX10, "runs", "()V"⟩
abbrev cX10_hearsAll : ByteArray := prog_12_method_61_code
def yX10_hearsAll : MethodName := ⟨RX10, "hearsAll", "()V"⟩
abbrev cX10_laysNow : ByteArray := prog_12_method_62_code
def yX10_laysNow : MethodName := ⟨RX10, "laysNow", "()V"⟩
abbrev cX10_heardOf : ByteArray := prog_12_method_63_code
def yX10_heardOf : MethodName := ⟨RX10, "heardOf", "(I)I"⟩
abbrev cX10_isServedIn : ByteArray := prog_12_method_64_code
def yX10_isServedIn : MethodName := ⟨RX10, "isServedIn", "(II)Z"⟩
abbrev cX10_servedNow : ByteArray := prog_12_method_65_code
def yX10_servedNow : MethodName := ⟨RX10, "servedNow", "()I"⟩
abbrev cX10_incomeNow : ByteArray := prog_12_method_66_code
def yX10_incomeNow : MethodName := ⟨RX10, "incomeNow", "()I"⟩
abbrev cX10_flight : ByteArray := prog_12_method_67_code
def yX10_flight : MethodName := ⟨RX10, "flight", "(II)I"⟩
abbrev cX10_member : ByteArray := prog_12_method_68_code
def yX10_member : MethodName := ⟨RX10, "member", "(II)I"⟩
abbrev cX10_lamps : ByteArray := prog_12_method_69_code
def yX10_lamps : MethodName := ⟨RX10, "lamps", "()I"⟩
abbrev cX10_at : ByteArray := prog_12_method_70_code
def yX10_at : MethodName := ⟨RX10, "at", "(II)I"⟩
abbrev cX10_heads : ByteArray := prog_12_method_71_code
def yX10_heads : MethodName := ⟨RX10, "heads", "(II)I"⟩
abbrev cX10_outOf : ByteArray := prog_12_method_72_code
def yX10_outOf : MethodName := ⟨RX10, "outOf", "(I)I"⟩
abbrev cX10_out : ByteArray := prog_12_method_73_code
def yX10_out : MethodName := ⟨RX10, "out", "(I)I"⟩
abbrev cX10_bends : ByteArray := prog_12_method_74_code
def yX10_bends : MethodName := ⟨RX10, "bends", "(I)I"⟩
abbrev cX10_wayOf : ByteArray := prog_12_method_75_code
def yX10_wayOf : MethodName := ⟨RX10, "wayOf", "(I)I"⟩
abbrev cX10_way : ByteArray := prog_12_method_76_code
def yX10_way : MethodName := ⟨RX10, "way", "(I)I"⟩
abbrev cX10_over : ByteArray := prog_12_method_77_code
def yX10_over : MethodName := ⟨RX10, "over", "(I)I"⟩
abbrev cX10_geese : ByteArray := prog_12_method_78_code
def yX10_geese : MethodName := ⟨RX10, "geese", "(II)I"⟩
abbrev cX10_hears : ByteArray := prog_12_method_79_code
def yX10_hears : MethodName := ⟨RX10, "hears", "(II)I"⟩
abbrev cX10_heard : ByteArray := prog_12_method_80_code
def yX10_heard : MethodName := ⟨RX10, "heard", "(I)I"⟩
abbrev cX10_ears : ByteArray := prog_12_method_81_code
def yX10_ears : MethodName := ⟨RX10, "ears", "(I)I"⟩
abbrev cX10_loud : ByteArray := prog_12_method_82_code
def yX10_loud : MethodName := ⟨RX10, "loud", "()I"⟩
abbrev cX10_quiet : ByteArray := prog_12_method_83_code
def yX10_quiet : MethodName := ⟨RX10, "quiet", "()I"⟩
abbrev cX10_served : ByteArray := prog_12_method_84_code
def yX10_served : MethodName := ⟨RX10, "served", "()I"⟩
abbrev cX10_income : ByteArray := prog_12_method_85_code
def yX10_income : MethodName := ⟨RX10, "income", "()I"⟩
abbrev cX10_unpaidNow : ByteArray := prog_12_method_86_code
def yX10_unpaidNow : MethodName := ⟨RX10, "unpaidNow", "()I"⟩
abbrev cX10_unpaid : ByteArray := prog_12_method_87_code
def yX10_unpaid : MethodName := ⟨RX10, "unpaid", "()I"⟩
abbrev cX10_first : ByteArray := prog_12_method_88_code
def yX10_first : MethodName := ⟨RX10, "first", "()I"⟩
abbrev cX10_lacks : ByteArray := prog_12_method_89_code
def yX10_lacks : MethodName := ⟨RX10, "lacks", "()I"⟩
abbrev cX10_near : ByteArray := prog_12_method_90_code
def yX10_near : MethodName := ⟨RX10, "near", "(I)I"⟩
abbrev cX10_lone : ByteArray := prog_12_method_91_code
def yX10_lone : MethodName := ⟨RX10, "lone", "()I"⟩
abbrev cX10_meets : ByteArray := prog_12_method_92_code
def yX10_meets : MethodName := ⟨RX10, "meets", "(II)I"⟩
abbrev cX10_spare : ByteArray := prog_12_method_93_code
def yX10_spare : MethodName := ⟨RX10, "spare", "()I"⟩
abbrev cX10_calls : ByteArray := prog_12_method_94_code
def yX10_calls : MethodName := ⟨RX10, "calls", "(I)I"⟩
abbrev cX10_farthest : ByteArray := prog_12_method_95_code
def yX10_farthest : MethodName := ⟨RX10, "farthest", "(I)I"⟩
abbrev cX10_lampsAre : ByteArray := prog_12_method_96_code
def yX10_lampsAre : MethodName := ⟨RX10, "lampsAre", "(I)V"⟩
abbrev cX10_lampsFrom : ByteArray := prog_12_method_97_code
def yX10_lampsFrom : MethodName := ⟨RX10, "lampsFrom", "(II)V"⟩
abbrev cX10_laysLamps : ByteArray := prog_12_method_98_code
def yX10_laysLamps : MethodName := ⟨RX10, "laysLamps", "()V"⟩
abbrev cX10_isSet : ByteArray := prog_12_method_99_code
def yX10_isSet : MethodName := ⟨RX10, "isSet", "(I)Z"⟩
abbrev cX10_fewest : ByteArray := prog_12_method_100_code
def yX10_fewest : MethodName := ⟨RX10, "fewest", "(I)I"⟩
abbrev cX10_lights : ByteArray := prog_12_method_101_code
def yX10_lights : MethodName := ⟨RX10, "lights", "(I)I"⟩
abbrev cX10_best : ByteArray := prog_12_method_102_code
def yX10_best : MethodName := ⟨RX10, "best", "(I)I"⟩
abbrev cX10_bests : ByteArray := prog_12_method_103_code
def yX10_bests : MethodName := ⟨RX10, "bests", "(I)I"⟩
abbrev cX10_most : ByteArray := prog_12_method_104_code
def yX10_most : MethodName := ⟨RX10, "most", "(I)I"⟩
abbrev cX10_otherwise : ByteArray := prog_12_method_105_code
def yX10_otherwise : MethodName := ⟨RX10, "otherwise", "(Z)I"⟩
abbrev cX10_more : ByteArray := prog_12_method_106_code
def yX10_more : MethodName := ⟨RX10, "more", "()I"⟩
abbrev cX10_less : ByteArray := prog_12_method_107_code
def yX10_less : MethodName := ⟨RX10, "less", "()I"⟩
abbrev cX10_incomeBy : ByteArray := prog_12_method_108_code
def yX10_incomeBy : MethodName := ⟨RX10, "incomeBy", "(I)I"⟩
abbrev cX10_by : ByteArray := prog_12_method_109_code
def yX10_by : MethodName := ⟨RX10, "by", "(I)I"⟩
abbrev cX10_law : ByteArray := prog_12_method_110_code
def yX10_law : MethodName := ⟨RX10, "law", "()I"⟩
abbrev cX10_whyNotLaws : ByteArray := prog_12_method_111_code
def yX10_whyNotLaws : MethodName := ⟨RX10, "whyNotLaws", "(I)I"⟩
abbrev cX10_isByLaw : ByteArray := prog_12_method_112_code
def yX10_isByLaw : MethodName := ⟨RX10, "isByLaw", "(II)Z"⟩
abbrev cX10_lawsOf : ByteArray := prog_12_method_113_code
def yX10_lawsOf : MethodName := ⟨RX10, "lawsOf", "(I)I"⟩
abbrev cX10_laws : ByteArray := prog_12_method_114_code
def yX10_laws : MethodName := ⟨RX10, "laws", "(I)I"⟩
abbrev cX10_ask : ByteArray := prog_12_method_115_code
def yX10_ask : MethodName := ⟨RX10, "ask", "(I)I"⟩
abbrev cX10_whyNotBegan : ByteArray := prog_12_method_116_code
def yX10_whyNotBegan : MethodName := ⟨RX10, "whyNotBegan", "(I)I"⟩
abbrev cX10_hasHeard : ByteArray := prog_12_method_117_code
def yX10_hasHeard : MethodName := ⟨RX10, "hasHeard", "(I)Z"⟩
abbrev cX10_laysBegan : ByteArray := prog_12_method_118_code
def yX10_laysBegan : MethodName := ⟨RX10, "laysBegan", "(I)V"⟩
abbrev cX10_began : ByteArray := prog_12_method_119_code
def yX10_began : MethodName := ⟨RX10, "began", "(I)I"⟩
abbrev cX10_spots : ByteArray := prog_12_method_120_code
def yX10_spots : MethodName := ⟨RX10, "spots", "(I)I"⟩
abbrev cX10_laysWho : ByteArray := prog_12_method_121_code
def yX10_laysWho : MethodName := ⟨RX10, "laysWho", "(I)V"⟩
abbrev cX10_who : ByteArray := prog_12_method_122_code
def yX10_who : MethodName := ⟨RX10, "who", "(I)I"⟩
abbrev cX10_leaves : ByteArray := prog_12_method_123_code
def yX10_leaves : MethodName := ⟨RX10, "leaves", "(I)I"⟩
abbrev cX10_common : ByteArray := prog_12_method_124_code
def yX10_common : MethodName := ⟨RX10, "common", "(II)I"⟩
abbrev cX10_part : ByteArray := prog_12_method_125_code
def yX10_part : MethodName := ⟨RX10, "part", "(III)I"⟩
abbrev cX10_odds : ByteArray := prog_12_method_126_code
def yX10_odds : MethodName := ⟨RX10, "odds", "(III)I"⟩
abbrev cX10_isLess : ByteArray := prog_12_method_127_code
def yX10_isLess : MethodName := ⟨RX10, "isLess", "()Z"⟩
abbrev cX10_homesFrom : ByteArray := prog_12_method_128_code
def yX10_homesFrom : MethodName := ⟨RX10, "homesFrom", "(III)V"⟩
abbrev cX10_laysHomes : ByteArray := prog_12_method_129_code
def yX10_laysHomes : MethodName := ⟨RX10, "laysHomes", "()V"⟩
abbrev cX10_homes : ByteArray := prog_12_method_130_code
def yX10_homes : MethodName := ⟨RX10, "homes", "()I"⟩
abbrev cX10_home : ByteArray := prog_12_method_131_code
def yX10_home : MethodName := ⟨RX10, "home", "(I)I"⟩
abbrev cX10_swapsOf : ByteArray := prog_12_method_132_code
def yX10_swapsOf : MethodName := ⟨RX10, "swapsOf", "()I"⟩
abbrev cX10_swaps : ByteArray := prog_12_method_133_code
def yX10_swaps : MethodName := ⟨RX10, "swaps", "()I"⟩
abbrev cX10_swap : ByteArray := prog_12_method_134_code
def yX10_swap : MethodName := ⟨RX10, "swap", "()I"⟩
abbrev cX10_price : ByteArray := prog_12_method_135_code
def yX10_price : MethodName := ⟨RX10, "price", "(I)I"⟩
abbrev cX10_wantedAt : ByteArray := prog_12_method_136_code
def yX10_wantedAt : MethodName := ⟨RX10, "wantedAt", "(I)I"⟩
abbrev cX10_cutsFrom : ByteArray := prog_12_method_137_code
def yX10_cutsFrom : MethodName := ⟨RX10, "cutsFrom", "(III)V"⟩
abbrev cX10_waysOf : ByteArray := prog_12_method_138_code
def yX10_waysOf : MethodName := ⟨RX10, "waysOf", "(I)I"⟩
abbrev cX10_cut_ : ByteArray := prog_12_method_139_code
def yX10_cut_ : MethodName := ⟨RX10, "cut", "(II)I"⟩
abbrev cX10_hasBy : ByteArray := prog_12_method_140_code
def yX10_hasBy : MethodName := ⟨RX10, "hasBy", "(IIIII)I"⟩
abbrev cX10_rests : ByteArray := prog_12_method_141_code
def yX10_rests : MethodName := ⟨RX10, "rests", "(II)I"⟩
abbrev cX10_has : ByteArray := prog_12_method_142_code
def yX10_has : MethodName := ⟨RX10, "has", "(IIII)I"⟩
abbrev cX10_fogAll : ByteArray := prog_12_method_143_code
def yX10_fogAll : MethodName := ⟨RX10, "fogAll", "()I"⟩
abbrev cX10_fogWeight : ByteArray := prog_12_method_144_code
def yX10_fogWeight : MethodName := ⟨RX10, "fogWeight", "(I)I"⟩
abbrev cX10_fogs : ByteArray := prog_12_method_145_code
def yX10_fogs : MethodName := ⟨RX10, "fogs", "(I)I"⟩
abbrev cX10_chance : ByteArray := prog_12_method_146_code
def yX10_chance : MethodName := ⟨RX10, "chance", "(II)I"⟩
abbrev cX10_mean : ByteArray := prog_12_method_147_code
def yX10_mean : MethodName := ⟨RX10, "mean", "(I)I"⟩
abbrev cX10_flown : ByteArray := prog_12_method_148_code
def yX10_flown : MethodName := ⟨RX10, "flown", "(II)I"⟩
abbrev cX10_drawnFog : ByteArray := prog_12_method_149_code
def yX10_drawnFog : MethodName := ⟨RX10, "drawnFog", "(J)I"⟩
abbrev cX10_laysDrawn : ByteArray := prog_12_method_150_code
def yX10_laysDrawn : MethodName := ⟨RX10, "laysDrawn", "(J)V"⟩
abbrev cX10_isSeed : ByteArray := prog_12_method_151_code
def yX10_isSeed : MethodName := ⟨RX10, "isSeed", "(I)Z"⟩
abbrev cX10_drawn : ByteArray := prog_12_method_152_code
def yX10_drawn : MethodName := ⟨RX10, "drawn", "(II)I"⟩
abbrev cX10_luck : ByteArray := prog_12_method_153_code
def yX10_luck : MethodName := ⟨RX10, "luck", "(III)I"⟩
abbrev cX10_acts : ByteArray := prog_12_method_154_code
def yX10_acts : MethodName := ⟨RX10, "acts", "(III)V"⟩
abbrev cX10_light : ByteArray := prog_12_method_155_code
def yX10_light : MethodName := ⟨RX10, "light", "(II)I"⟩
abbrev cX10_turn : ByteArray := prog_12_method_156_code
def yX10_turn : MethodName := ⟨RX10, "turn", "(II)I"⟩
abbrev cX10_undo : ByteArray := prog_12_method_157_code
def yX10_undo : MethodName := ⟨RX10, "undo", "()I"⟩
abbrev cX10_anew : ByteArray := prog_12_method_158_code
def yX10_anew : MethodName := ⟨RX10, "anew", "()I"⟩
abbrev cX10_rate : ByteArray := prog_12_method_159_code
def yX10_rate : MethodName := ⟨RX10, "rate", "(II)I"⟩
abbrev cX10_count : ByteArray := prog_12_method_160_code
def yX10_count : MethodName := ⟨RX10, "count", "(I)I"⟩
abbrev cX10_image : ByteArray := prog_12_method_161_code
def yX10_image : MethodName := ⟨RX10, "image", "(I)I"⟩
abbrev cX10_back : ByteArray := prog_12_method_162_code
def yX10_back : MethodName := ⟨RX10, "back", "(I)I"⟩
def RJx145de : String := "java/io/Serializable"
def RJx9f9b0 : String := "java/lang/CharSequence"
def RJxb160c : String := "java/lang/Comparable"
def RJ6 : String := "java/lang/Integer"
abbrev cJ6_bitCount_0f7a4 : ByteArray := prog_13_method_49_code
def yJ6_bitCount_0f7a4 : MethodName := ⟨RJ6, "bitCount", "(I)I"⟩
def RJ9 : String := "java/lang/Math"
abbrev cJ9_abs_0f7a4 : ByteArray := prog_14_method_59_code
def yJ9_abs_0f7a4 : MethodName := ⟨RJ9, "abs", "(I)I"⟩
abbrev cJ9_max_7cf53 : ByteArray := prog_14_method_65_code
def yJ9_max_7cf53 : MethodName := ⟨RJ9, "max", "(II)I"⟩
abbrev cJ9_min_7cf53 : ByteArray := prog_14_method_69_code
def yJ9_min_7cf53 : MethodName := ⟨RJ9, "min", "(II)I"⟩
def RJ0 : String := "java/lang/String"
abbrev cJ0_length_8abf5 : ByteArray := prog_15_method_54_code
def yJ0_length_8abf5 : MethodName := ⟨RJ0, "length", "()I"⟩
abbrev cJ0_charAt_5068e : ByteArray := prog_15_method_56_code
def yJ0_charAt_5068e : MethodName := ⟨RJ0, "charAt", "(I)C"⟩
abbrev cJ0_coder_7d493 : ByteArray := prog_15_method_152_code
def yJ0_coder_7d493 : MethodName := ⟨RJ0, "coder", "()B"⟩
abbrev cJ0_isLatin1_aae02 : ByteArray := prog_15_method_154_code
def yJ0_isLatin1_aae02 : MethodName := ⟨RJ0, "isLatin1", "()Z"⟩
abbrev cJ0_checkIndex_df160 : ByteArray := prog_15_method_155_code
def yJ0_checkIndex_df160 : MethodName := ⟨RJ0, "checkIndex", "(II)V"⟩
def RJ1 : String := "java/lang/StringLatin1"
abbrev cJ1_charAt_3b067 : ByteArray := prog_16_method_2_code
def yJ1_charAt_3b067 : MethodName := ⟨RJ1, "charAt", "([BI)C"⟩
def RJ2 : String := "java/lang/StringUTF16"
abbrev cJ2_getChar_3b067 : ByteArray := prog_17_method_5_code
def yJ2_getChar_3b067 : MethodName := ⟨RJ2, "getChar", "([BI)C"⟩
abbrev cJ2_length_9d52b : ByteArray := prog_17_method_6_code
def yJ2_length_9d52b : MethodName := ⟨RJ2, "length", "([B)I"⟩
abbrev cJ2_charAt_3b067 : ByteArray := prog_17_method_83_code
def yJ2_charAt_3b067 : MethodName := ⟨RJ2, "charAt", "([BI)C"⟩
abbrev cJ2_checkIndex_2214a : ByteArray := prog_17_method_91_code
def yJ2_checkIndex_2214a : MethodName := ⟨RJ2, "checkIndex", "(I[B)V"⟩
def RJ10 : String := "java/lang/System"
def RJxfd54e : String := "java/lang/constant/Constable"
def RJx3cf43 : String := "java/lang/constant/ConstantDesc"
def RJ7 : String := "java/util/Arrays"
abbrev cJ7_fill_d0a16 : ByteArray := prog_19_method_101_code
def yJ7_fill_d0a16 : MethodName := ⟨RJ7, "fill", "([JJ)V"⟩
abbrev cJ7_fill_53178 : ByteArray := prog_19_method_103_code
def yJ7_fill_53178 : MethodName := ⟨RJ7, "fill", "([II)V"⟩
def RJ3 : String := "jdk/internal/util/Preconditions"
abbrev cJ3_checkIndex_8e157 : ByteArray := prog_20_method_11_code
def yJ3_checkIndex_8e157 : MethodName := ⟨RJ3, "checkIndex", "(IILjava/util/function/BiFunction;)I"⟩
def RL : String := "GooseSharesLaw"
abbrev cL_law : ByteArray := code
def yL_law : MethodName := ⟨RL, "law", "([I)Z"⟩
abbrev vwCl : List vw_C := [(RX0, TX0, 4), (RX1, TX1, 2), (RX2, TX2, 4), (RX3, TX3, 20), (RX4, TX4, 5), (RX5, TX5, 7), (RX6, TX6, 3), (RX7, TX7, 10), (RX8, TX8, 2), (RX9, TX9, 11), (RX10, TX10, 48)]
def gW : List Cond := lw_tbl.filter goodWord
theorem gW_good : ∀ w ∈ gW, (w.onTables && w.keeps) = true ∨ ∃ ty, w = .arrayClass ty := fun w h => good_of_word (List.mem_filter.mp h).2
theorem gm {w : Cond} (h : w ∈ lw_tbl) (g : goodWord w = true) : w ∈ gW := List.mem_filter.mpr ⟨h, g⟩
theorem tm_1 {w : Cond} (i : Nat) (h : tables_1_1[i]? = some w) : w ∈ lw_tbl := List.mem_append_right _ (show w ∈ tables_1 from List.mem_append_left _ (List.mem_of_getElem? h))
theorem tm_2 {w : Cond} (i : Nat) (h : tables_1_2[i]? = some w) : w ∈ lw_tbl := List.mem_append_right _ (show w ∈ tables_1 from List.mem_append_right _ (List.mem_append_left _ (List.mem_of_getElem? h)))
theorem tm_3 {w : Cond} (i : Nat) (h : tables_1_3[i]? = some w) : w ∈ lw_tbl := List.mem_append_right _ (show w ∈ tables_1 from List.mem_append_right _ (List.mem_append_right _ (List.mem_append_left _ (List.mem_of_getElem? h))))
theorem tm_4 {w : Cond} (i : Nat) (h : tables_1_4[i]? = some w) : w ∈ lw_tbl := List.mem_append_right _ (show w ∈ tables_1 from List.mem_append_right _ (List.mem_append_right _ (List.mem_append_right _ (List.mem_append_left _ (List.mem_of_getElem? h)))))
theorem tm_5 {w : Cond} (i : Nat) (h : tables_1_5[i]? = some w) : w ∈ lw_tbl := List.mem_append_right _ (show w ∈ tables_1 from List.mem_append_right _ (List.mem_append_right _ (List.mem_append_right _ (List.mem_append_right _ (List.mem_append_left _ (List.mem_of_getElem? h))))))
theorem tm_6 {w : Cond} (i : Nat) (h : tables_1_6[i]? = some w) : w ∈ lw_tbl := List.mem_append_right _ (show w ∈ tables_1 from List.mem_append_right _ (List.mem_append_right _ (List.mem_append_right _ (List.mem_append_right _ (List.mem_append_right _ (List.mem_append_left _ (List.mem_of_getElem? h)))))))
theorem tm_7 {w : Cond} (i : Nat) (h : tables_1_7[i]? = some w) : w ∈ lw_tbl := List.mem_append_right _ (show w ∈ tables_1 from List.mem_append_right _ (List.mem_append_right _ (List.mem_append_right _ (List.mem_append_right _ (List.mem_append_right _ (List.mem_append_right _ (List.mem_append_left _ (List.mem_of_getElem? h))))))))
theorem tm_8 {w : Cond} (i : Nat) (h : tables_1_8[i]? = some w) : w ∈ lw_tbl := List.mem_append_right _ (show w ∈ tables_1 from List.mem_append_right _ (List.mem_append_right _ (List.mem_append_right _ (List.mem_append_right _ (List.mem_append_right _ (List.mem_append_right _ (List.mem_append_right _ (List.mem_append_left _ (List.mem_of_getElem? h)))))))))
theorem tm_9 {w : Cond} (i : Nat) (h : tables_1_9[i]? = some w) : w ∈ lw_tbl := List.mem_append_right _ (show w ∈ tables_1 from List.mem_append_right _ (List.mem_append_right _ (List.mem_append_right _ (List.mem_append_right _ (List.mem_append_right _ (List.mem_append_right _ (List.mem_append_right _ (List.mem_append_right _ (List.mem_of_getElem? h)))))))))
theorem gmP {w : Cond} (i : Nat) (h : (k2_sels lw_privs)[i]? = some w) : w ∈ lw_tbl := List.mem_append_left _ (List.mem_of_getElem? h)
def gNest : List (String × Nat × MethodName × String) := [(RX9, 9, yX8_init, "GooseShares"), (RX9, 18, yX3_init, "GooseShares"), (RX9, 85, yX6_init, "GooseShares"), (RX0, 85, yX9_hasBit, "GooseShares"), (RX1, 25, yX9_hasBit, "GooseShares"), (RX2, 66, yX9_hasBit, "GooseShares"), (RX3, 106, yX9_hasBit, "GooseShares"), (RX4, 99, yX9_hasBit, "GooseShares"), (RX7, 53, yX9_hasBit, "GooseShares")]
theorem gInr {big : List Cond} (ws : List Cond) (ps : List Nat) (hp : ws = ps.filterMap (fun i => big[i]?)) : ∀ w ∈ ws, w ∈ big := by
  intro w hw
  rw [hp] at hw
  obtain ⟨i, -, hi⟩ := List.mem_filterMap.mp hw
  exact List.mem_of_getElem? hi
theorem iX0 : ∀ w ∈ u_ws RX0 TX0 4, w ∈ gW := fun w h => gm (gInr (u_ws RX0 TX0 4) [368, 370, 372, 374] (by decide +kernel) w h) (List.all_eq_true.mp (by decide +kernel : (u_ws RX0 TX0 4).all goodWord = true) w h)
theorem iX1 : ∀ w ∈ u_ws RX1 TX1 2, w ∈ gW := fun w h => gm (gInr (u_ws RX1 TX1 2) [405, 407] (by decide +kernel) w h) (List.all_eq_true.mp (by decide +kernel : (u_ws RX1 TX1 2).all goodWord = true) w h)
theorem iX2 : ∀ w ∈ u_ws RX2 TX2 4, w ∈ gW := fun w h => gm (gInr (u_ws RX2 TX2 4) [388, 390, 392, 394] (by decide +kernel) w h) (List.all_eq_true.mp (by decide +kernel : (u_ws RX2 TX2 4).all goodWord = true) w h)
theorem iX3 : ∀ w ∈ u_ws RX3 TX3 20, w ∈ gW := fun w h => gm (gInr (u_ws RX3 TX3 20) [220, 222, 224, 226, 228, 230, 232, 234, 236, 238, 240, 242, 244, 246, 248, 250, 252, 254, 256, 258] (by decide +kernel) w h) (List.all_eq_true.mp (by decide +kernel : (u_ws RX3 TX3 20).all goodWord = true) w h)
theorem iX4 : ∀ w ∈ u_ws RX4 TX4 5, w ∈ gW := fun w h => gm (gInr (u_ws RX4 TX4 5) [347, 349, 351, 353, 355] (by decide +kernel) w h) (List.all_eq_true.mp (by decide +kernel : (u_ws RX4 TX4 5).all goodWord = true) w h)
theorem iX5 : ∀ w ∈ u_ws RX5 TX5 7, w ∈ gW := fun w h => gm (gInr (u_ws RX5 TX5 7) [278, 280, 282, 284, 286, 288, 290] (by decide +kernel) w h) (List.all_eq_true.mp (by decide +kernel : (u_ws RX5 TX5 7).all goodWord = true) w h)
theorem iX6 : ∀ w ∈ u_ws RX6 TX6 3, w ∈ gW := fun w h => gm (gInr (u_ws RX6 TX6 3) [423, 425, 427] (by decide +kernel) w h) (List.all_eq_true.mp (by decide +kernel : (u_ws RX6 TX6 3).all goodWord = true) w h)
theorem iX7 : ∀ w ∈ u_ws RX7 TX7 10, w ∈ gW := fun w h => gm (gInr (u_ws RX7 TX7 10) [313, 315, 317, 319, 321, 323, 325, 327, 329, 331] (by decide +kernel) w h) (List.all_eq_true.mp (by decide +kernel : (u_ws RX7 TX7 10).all goodWord = true) w h)
theorem iX8 : ∀ w ∈ u_ws RX8 TX8 2, w ∈ gW := fun w h => gm (gInr (u_ws RX8 TX8 2) [133, 135] (by decide +kernel) w h) (List.all_eq_true.mp (by decide +kernel : (u_ws RX8 TX8 2).all goodWord = true) w h)
theorem iX9 : ∀ w ∈ u_ws RX9 TX9 11, w ∈ gW := fun w h => gm (gInr (u_ws RX9 TX9 11) [443, 445, 447, 449, 451, 453, 455, 457, 459, 461, 463] (by decide +kernel) w h) (List.all_eq_true.mp (by decide +kernel : (u_ws RX9 TX9 11).all goodWord = true) w h)
theorem iX10 : ∀ w ∈ u_ws RX10 TX10 48, w ∈ gW := fun w h => gm (gInr (u_ws RX10 TX10 48) [1425, 1427, 1429, 1431, 1433, 1435, 1437, 1439, 1441, 1443, 1445, 1447, 1449, 1451, 1453, 1455, 1457, 1459, 1461, 1463, 1465, 1467, 1469, 1471, 1473, 1475, 1477, 1479, 1481, 1483, 1485, 1487, 1489, 1491, 1493, 1495, 1497, 1499, 1501, 1503, 1505, 1507, 1509, 1511, 1513, 1515, 1517, 1519] (by decide +kernel) w h) (List.all_eq_true.mp (by decide +kernel : (u_ws RX10 TX10 48).all goodWord = true) w h)
theorem dvX0 : ∀ j, j < 4 → defaultValue (tyX0 j) = vp_V [.null, .null, .null, .null] j := by decide +kernel
theorem dvX1 : ∀ j, j < 2 → defaultValue (tyX1 j) = vp_V [.null, .null] j := by decide +kernel
theorem dvX2 : ∀ j, j < 4 → defaultValue (tyX2 j) = vp_V [.null, .null, .null, .null] j := by decide +kernel
theorem dvX3 : ∀ j, j < 20 → defaultValue (tyX3 j) = vp_V [.int (0 : Int32), .int (0 : Int32), .int (0 : Int32), .int (0 : Int32), .int (0 : Int32), .int (0 : Int32), .int (0 : Int32), .int (0 : Int32), .int (0 : Int32), .int (0 : Int32), .null, .null, .null, .null, .null, .null, .null, .null, .null, .null] j := by decide +kernel
theorem dvX4 : ∀ j, j < 5 → defaultValue (tyX4 j) = vp_V [.null, .null, .null, .null, .int (0 : Int32)] j := by decide +kernel
theorem dvX5 : ∀ j, j < 7 → defaultValue (tyX5 j) = vp_V [.null, .null, .int (0 : Int32), .int (0 : Int32), .int (0 : Int32), .int (0 : Int32), .int (0 : Int32)] j := by decide +kernel
theorem dvX6 : ∀ j, j < 3 → defaultValue (tyX6 j) = vp_V [.null, .int (0 : Int32), .int (0 : Int32)] j := by decide +kernel
theorem dvX7 : ∀ j, j < 10 → defaultValue (tyX7 j) = vp_V [.null, .null, .null, .null, .null, .int (0 : Int32), .int (0 : Int32), .int (0 : Int32), .int (0 : Int32), .int (0 : Int32)] j := by decide +kernel
theorem dvX8 : ∀ j, j < 2 → defaultValue (tyX8 j) = vp_V [.null, .int (0 : Int32)] j := by decide +kernel
theorem dvX9 : ∀ j, j < 11 → defaultValue (tyX9 j) = vp_V [.null, .null, .null, .null, .null, .null, .null, .null, .null, .null, .null] j := by decide +kernel
theorem dvX10 : ∀ j, j < 48 → defaultValue (tyX10 j) = vp_V [.int (0 : Int32), .null, .null, .null, .null, .null, .int (0 : Int32), .int (0 : Int32), .int (0 : Int32), .int (0 : Int32), .int (0 : Int32), .long (0 : Int64), .int (0 : Int32), .int (0 : Int32), .int (0 : Int32), .int (0 : Int32), .null, .null, .null, .null, .null, .null, .int (0 : Int32), .int (0 : Int32), .int (0 : Int32), .null, .null, .null, .null, .null, .null, .null, .null, .null, .null, .null, .int (0 : Int32), .int (0 : Int32), .null, .int (0 : Int32), .int (0 : Int32), .null, .null, .int (0 : Int32), .int (0 : Int32), .int (0 : Int32), .int (0 : Int32), .int (0 : Int32)] j := by decide +kernel
end
section
/-! plain facts on numbers and arrays, to paste: each family by itself; over the kit's rows on nI and upd -/
/-! ===== order of ints, in all its forms, and through longs ===== -/
theorem fa_lt (a b : Int32) : a < b ↔ a.toInt < b.toInt := Int32.lt_iff_toInt_lt
theorem fa_le (a b : Int32) : a ≤ b ↔ a.toInt ≤ b.toInt := Int32.le_iff_toInt_le
theorem fa_eq (a b : Int32) : a = b ↔ a.toInt = b.toInt := Int32.toInt_inj.symm
theorem fa_lt64 (a b : Int64) : a < b ↔ a.toInt < b.toInt := Int64.lt_iff_toInt_lt
theorem fa_le64 (a b : Int64) : a ≤ b ↔ a.toInt ≤ b.toInt := Int64.le_iff_toInt_le
theorem fa_eq64 (a b : Int64) : a = b ↔ a.toInt = b.toInt := Int64.toInt_inj.symm
/-- a comparison of two ints taken as longs -/
theorem fa_wide_lt (a b : Int32) : a.toInt64 < b.toInt64 ↔ a < b := by rw [fa_lt64, fa_lt, Int32.toInt_toInt64, Int32.toInt_toInt64]
theorem fa_wide_le (a b : Int32) : a.toInt64 ≤ b.toInt64 ↔ a ≤ b := by rw [fa_le64, fa_le, Int32.toInt_toInt64, Int32.toInt_toInt64]
theorem fa_wide_eq (a b : Int32) : a.toInt64 = b.toInt64 ↔ a = b := by rw [fa_eq64, fa_eq, Int32.toInt_toInt64, Int32.toInt_toInt64]
/-- one strict comparison gives all the others -/
theorem fa_of_lt {a b : Int32} (h : a < b) : a ≤ b ∧ ¬ b ≤ a ∧ ¬ b < a ∧ a ≠ b ∧ b ≠ a := by
  rw [fa_lt] at h
  refine ⟨?_, ?_, ?_, ?_, ?_⟩
  · rw [fa_le]; omega
  · rw [fa_le]; omega
  · rw [fa_lt]; omega
  · intro e; rw [fa_eq] at e; omega
  · intro e; rw [fa_eq] at e; omega
theorem fa_of_nlt {a b : Int32} (h : ¬ a < b) : b ≤ a := by
  rw [fa_lt] at h
  rw [fa_le]
  omega
theorem fa_of_nle {a b : Int32} (h : ¬ a ≤ b) : b < a := by
  rw [fa_le] at h
  rw [fa_lt]
  omega
theorem fa_le_ne {a b : Int32} (h : a ≤ b) (h2 : a ≠ b) : a < b := by
  rw [fa_le] at h
  rw [fa_lt]
  have h3 : a.toInt ≠ b.toInt := fun e => h2 ((fa_eq a b).mpr e)
  omega
theorem fa_three (a b : Int32) : a < b ∨ a = b ∨ b < a := by
  rw [fa_lt, fa_lt, fa_eq]
  omega
theorem fa_trans {a b c : Int32} (h : a < b) (h2 : b ≤ c) : a < c := by
  rw [fa_lt] at *
  rw [fa_le] at h2
  omega
/-! ===== small literals as numbers ===== -/
theorem fa_lit (n : Nat) : (OfNat.ofNat n : Int32) = nI n := rfl
theorem fa_litL (n : Nat) : (OfNat.ofNat n : Int64) = lN n := rfl
/-! ===== bits of a number: 'or', masks, one bit ===== -/
theorem fa_and (a b : Nat) : nI a &&& nI b = nI (a &&& b) := by
  apply Int32.toBitVec_inj.1
  show BitVec.ofNat 32 a &&& BitVec.ofNat 32 b = BitVec.ofNat 32 (a &&& b)
  apply BitVec.eq_of_getLsbD_eq
  intro i hi
  simp [hi]
theorem fa_or (a b : Nat) : nI a ||| nI b = nI (a ||| b) := by
  apply Int32.toBitVec_inj.1
  show BitVec.ofNat 32 a ||| BitVec.ofNat 32 b = BitVec.ofNat 32 (a ||| b)
  apply BitVec.eq_of_getLsbD_eq
  intro i hi
  simp [hi]
/-- a remainder by a power of two, as a mask -/
theorem fa_mask (n k : Nat) : nI n &&& nI (2 ^ k - 1) = nI (n % 2 ^ k) := by rw [fa_and, Nat.and_two_pow_sub_one_eq_mod]
/-- 'or' of a high part and a low one that don't meet is their sum -/
theorem fa_or_sum {a k : Nat} (b : Nat) (h : a < 2 ^ k) : nI (2 ^ k * b) ||| nI a = nI (2 ^ k * b + a) := by rw [fa_or, Nat.two_pow_add_eq_or_of_lt h]
/-- one bit, by 'and' with a power of two -/
theorem fa_bit {n j : Nat} (hj : j < 31) : nI n &&& nI (2 ^ j) = 0 ↔ n.testBit j = false := by
  have h2 : (2 : Nat) ^ j < 2 ^ 31 := Nat.pow_lt_pow_right (by decide) hj
  have hle : n &&& 2 ^ j ≤ 2 ^ j := Nat.and_le_right
  have e : n &&& 2 ^ j = 0 ↔ n.testBit j = false := by
    constructor
    · intro h
      have h1 : (n &&& 2 ^ j).testBit j = false := by rw [h]; simp
      rw [Nat.testBit_and] at h1
      first | simpa using h1 | simpa [Nat.testBit_two_pow_self] using h1 | simpa [Nat.testBit_two_pow] using h1
    · intro h
      apply Nat.eq_of_testBit_eq
      intro i
      rw [Nat.testBit_and]
      by_cases hi : j = i
      · subst hi; simp [h]
      · first | (simp [Nat.testBit_two_pow, hi]; done) | (simp [Nat.testBit_two_pow_of_ne hi]; done)
  rw [fa_and]
  constructor
  · intro h
    apply e.mp
    rcases Nat.eq_zero_or_pos (n &&& 2 ^ j) with z | z
    · exact z
    · exact absurd h (nI_ne0 z (Nat.lt_of_le_of_lt hle h2))
  · intro h
    rw [e.mpr h]; exact nI_0
/-- a remainder by a power of two of a number that isn't negative, as Java divides -/
theorem fa_rem {a k : Nat} (ha : a < 2 ^ 31) (hk : k < 31) : nI a - nI a / nI (2 ^ k) * nI (2 ^ k) = nI (a % 2 ^ k) := pk_rem ha (Nat.two_pow_pos k) (Nat.pow_lt_pow_right (by decide) hk)
/-! ===== cuts to a byte, a short ===== -/
theorem fa_byte_xor (x y : Int32) : (x ^^^ y).toInt8 = x.toInt8 ^^^ y.toInt8 := by
  apply Int8.toBitVec_inj.1
  apply BitVec.eq_of_getLsbD_eq
  intro i hi
  first | (simp [hi]; done) | (simp [hi, BitVec.getLsbD_setWidth, BitVec.getLsbD_signExtend]; done)
theorem fa_short_xor (x y : Int32) : (x ^^^ y).toInt16 = x.toInt16 ^^^ y.toInt16 := by
  apply Int16.toBitVec_inj.1
  apply BitVec.eq_of_getLsbD_eq
  intro i hi
  first | (simp [hi]; done) | (simp [hi, BitVec.getLsbD_setWidth, BitVec.getLsbD_signExtend]; done)
/-- the cut to a byte sees the low byte alone -/
theorem fa_byte_low (x : Int32) : (x &&& 255).toInt8 = x.toInt8 := by
  apply Int8.toBitVec_inj.1
  apply BitVec.eq_of_getLsbD_eq
  intro i hi
  have h2 : (255 : Int32).toBitVec.getLsbD i = true := by
    have : ∀ j : Fin 8, (255 : Int32).toBitVec.getLsbD j.val = true := by decide +kernel
    exact this ⟨i, hi⟩
  have h4 : (x &&& 255).toBitVec.getLsbD i = x.toBitVec.getLsbD i := by
    show (x.toBitVec &&& (255 : Int32).toBitVec).getLsbD i = _
    rw [BitVec.getLsbD_and, h2, Bool.and_true]
  have h3 : i < 32 := by omega
  first
    | (show (((x &&& 255).toBitVec).signExtend 8).getLsbD i = (x.toBitVec.signExtend 8).getLsbD i; rw [BitVec.getLsbD_signExtend, BitVec.getLsbD_signExtend, if_pos h3, if_pos h3, h4])
    | (show (((x &&& 255).toBitVec).setWidth 8).getLsbD i = (x.toBitVec.setWidth 8).getLsbD i; rw [BitVec.getLsbD_setWidth, BitVec.getLsbD_setWidth, h4])
    | (simp [hi, h3, h4]; done)
theorem fa_short_low (x : Int32) : (x &&& 65535).toInt16 = x.toInt16 := by
  apply Int16.toBitVec_inj.1
  apply BitVec.eq_of_getLsbD_eq
  intro i hi
  have h2 : (65535 : Int32).toBitVec.getLsbD i = true := by
    have : ∀ j : Fin 16, (65535 : Int32).toBitVec.getLsbD j.val = true := by decide +kernel
    exact this ⟨i, hi⟩
  have h4 : (x &&& 65535).toBitVec.getLsbD i = x.toBitVec.getLsbD i := by
    show (x.toBitVec &&& (65535 : Int32).toBitVec).getLsbD i = _
    rw [BitVec.getLsbD_and, h2, Bool.and_true]
  have h3 : i < 32 := by omega
  first
    | (show (((x &&& 65535).toBitVec).signExtend 16).getLsbD i = (x.toBitVec.signExtend 16).getLsbD i; rw [BitVec.getLsbD_signExtend, BitVec.getLsbD_signExtend, if_pos h3, if_pos h3, h4])
    | (show (((x &&& 65535).toBitVec).setWidth 16).getLsbD i = (x.toBitVec.setWidth 16).getLsbD i; rw [BitVec.getLsbD_setWidth, BitVec.getLsbD_setWidth, h4])
    | (simp [hi, h3, h4]; done)
/-- a small number is its own byte, its own short -/
theorem fa_byte_small {n : Nat} (h : n < 128) : (nI n).toInt8.toInt32 = nI n := by
  have : ∀ j : Fin 128, (nI j.val).toInt8.toInt32 = nI j.val := by decide +kernel
  exact this ⟨n, h⟩
/-! ===== absolute difference ===== -/
theorem fa_absdiff {a b : Nat} (ha : a < 2 ^ 31) (hb : b < 2 ^ 31) : (if nI a < nI b then nI b - nI a else nI a - nI b) = nI (if a < b then b - a else a - b) := by
  by_cases h : a < b
  · rw [if_pos (nI_lt h hb), if_pos h]
    exact pk_sub (Nat.le_of_lt h)
  · rw [if_neg (nI_nlt (Nat.le_of_not_lt h) ha), if_neg h]
    exact pk_sub (Nat.le_of_not_lt h)
/-! ===== an array behind i stores, a conditional store, a row copied ===== -/
/-- f where k < i, what stood there else -/
def fa_fill {α : Type} (f g : Nat → α) (i : Nat) : Nat → α := fun k => if k < i then f k else g k
theorem fa_fill_0 {α : Type} (f g : Nat → α) : fa_fill f g 0 = g := funext fun k => if_neg (Nat.not_lt_zero k)
theorem fa_fill_in {α : Type} {f g : Nat → α} {i k : Nat} (h : k < i) : fa_fill f g i k = f k := if_pos h
theorem fa_fill_out {α : Type} {f g : Nat → α} {i k : Nat} (h : i ≤ k) : fa_fill f g i k = g k := if_neg (Nat.not_lt.mpr h)
theorem fa_fill_succ (f g : Nat → Int32) (i : Nat) : upd (fa_fill f g i) i (f i) = fa_fill f g (i + 1) := by
  funext k
  by_cases e : k = i
  · subst e
    rw [pk_us]
    exact (if_pos (Nat.lt_succ_self k)).symm
  · rw [pk_un e]
    by_cases h : k < i
    · rw [fa_fill_in h, fa_fill_in (Nat.lt_succ_of_lt h)]
    · rw [fa_fill_out (Nat.le_of_not_lt h), fa_fill_out (by omega)]
/-- a store that changes nothing -/
theorem fa_upd_same {f : Nat → Int32} {i : Nat} {x : Int32} (h : f i = x) : upd f i x = f := by
  funext k
  by_cases e : k = i
  · subst e
    rw [pk_us, h]
  · rw [pk_un e]
/-- a store under a condition, told as one -/
theorem fa_upd_if (c : Prop) [Decidable c] (f : Nat → Int32) (i : Nat) (x : Int32) : (if c then upd f i x else f) = upd f i (if c then x else f i) := by
  by_cases h : c
  · rw [if_pos h, if_pos h]
  · rw [if_neg h, if_neg h, fa_upd_same rfl]
/-- two stores at one place, at two -/
theorem fa_upd_twice (f : Nat → Int32) (i : Nat) (x y : Int32) : upd (upd f i x) i y = upd f i y := by
  funext k
  by_cases e : k = i
  · subst e
    rw [pk_us, pk_us]
  · rw [pk_un e, pk_un e, pk_un e]
theorem fa_upd_swap (f : Nat → Int32) {i j : Nat} (h : i ≠ j) (x y : Int32) : upd (upd f i x) j y = upd (upd f j y) i x := by
  funext k
  by_cases e : k = i
  · subst e
    rw [pk_un h, pk_us, pk_us]
  · by_cases e2 : k = j
    · subst e2
      rw [pk_us, pk_un e, pk_us]
    · rw [pk_un e2, pk_un e, pk_un e, pk_un e2]
/-! ===== the first index with a property; a count ===== -/
/-- the first k < n with p k, n if there is none -/
def fa_first (p : Nat → Bool) : Nat → Nat
  | 0 => 0
  | n + 1 => if fa_first p n < n then fa_first p n else if p n then n else n + 1
theorem fa_first_le (p : Nat → Bool) : ∀ n, fa_first p n ≤ n
  | 0 => Nat.le_refl 0
  | n + 1 => by
    have ih := fa_first_le p n
    unfold fa_first
    split
    · omega
    · split
      · omega
      · omega
theorem fa_first_no (p : Nat → Bool) : ∀ n k, k < fa_first p n → p k = false
  | 0, k, h => absurd h (Nat.not_lt_zero k)
  | n + 1, k, h => by
    have ih := fa_first_no p n
    have hl := fa_first_le p n
    unfold fa_first at h
    split at h
    · exact ih k h
    · rename_i h1
      split at h
      · exact ih k (by omega)
      · rename_i h2
        by_cases e : k = n
        · subst e
          exact Bool.eq_false_iff.mpr h2
        · exact ih k (by omega)
theorem fa_first_yes (p : Nat → Bool) : ∀ n, fa_first p n < n → p (fa_first p n) = true
  | 0, h => absurd h (Nat.not_lt_zero _)
  | n + 1, h => by
    have ih := fa_first_yes p n
    have hl := fa_first_le p n
    unfold fa_first at h ⊢
    split at h
    · rename_i h1
      rw [if_pos h1]
      exact ih h1
    · rename_i h1
      rw [if_neg h1]
      split at h
      · rename_i h2
        rw [if_pos h2]
        exact h2
      · omega
/-- how many k < n have p k -/
def fa_cnt (p : Nat → Bool) : Nat → Nat
  | 0 => 0
  | n + 1 => fa_cnt p n + if p n then 1 else 0
theorem fa_cnt_le (p : Nat → Bool) : ∀ n, fa_cnt p n ≤ n
  | 0 => Nat.le_refl 0
  | n + 1 => by
    have ih := fa_cnt_le p n
    unfold fa_cnt
    split
    · omega
    · omega
theorem fa_cnt_yes {p : Nat → Bool} {n : Nat} (h : p n = true) : fa_cnt p (n + 1) = fa_cnt p n + 1 := by rw [fa_cnt, if_pos h]
theorem fa_cnt_no {p : Nat → Bool} {n : Nat} (h : p n = false) : fa_cnt p (n + 1) = fa_cnt p n := by rw [fa_cnt, if_neg (by rw [h]; decide)]; rfl
theorem fa_cnt_cong {p q : Nat → Bool} : ∀ {n : Nat}, (∀ k, k < n → p k = q k) → fa_cnt p n = fa_cnt q n
  | 0, _ => rfl
  | n + 1, h => by rw [fa_cnt, fa_cnt, fa_cnt_cong (fun k hk => h k (Nat.lt_succ_of_lt hk)), h n (Nat.lt_succ_self n)]
/-! ===== an answer carried into a post; a branch on a boolean answer ===== -/
theorem fa_post {α : Type} {P : α → Prop} {x y : α} (h : x = y) (hp : P y) : P x := h ▸ hp
theorem fa_post2 {α β : Type} {P : α → β → Prop} {x y : α} {u v : β} (h : x = y) (h2 : u = v) (hp : P y v) : P x u := h ▸ h2 ▸ hp
theorem fa_bool {r : Int32} {b : Bool} (h : r = if b then 1 else 0) : (r = 0 ↔ b = false) ∧ (¬ r = 0 ↔ b = true) := by
  subst h
  cases b
  · exact ⟨⟨fun _ => rfl, fun _ => rfl⟩, ⟨fun h => absurd rfl h, fun h => absurd h (by decide)⟩⟩
  · exact ⟨⟨fun h => absurd h (by decide), fun h => absurd h (by decide)⟩, ⟨fun _ => rfl, fun _ => by decide⟩⟩
/-- a boolean's narrowing changes nothing -/
theorem fa_bool_and {r : Int32} (h : r = 0 ∨ r = 1) : r &&& 1 = r := by
  rcases h with rfl | rfl
  · decide
  · decide
theorem fa_bool_prop {c : Prop} [Decidable c] {r : Int32} (h : r = if c then 1 else 0) : (r = 0 ↔ ¬ c) ∧ (¬ r = 0 ↔ c) := by
  subst h
  by_cases hc : c
  · rw [if_pos hc]
    exact ⟨⟨fun h => absurd h (by decide), fun h => absurd hc h⟩, ⟨fun _ => hc, fun _ => by decide⟩⟩
  · rw [if_neg hc]
    exact ⟨⟨fun _ => hc, fun _ => rfl⟩, ⟨fun h => absurd rfl h, fun h => absurd h hc⟩⟩
end
section
/-! THE HEAP AS ONE POOL: addresses L, contents f; every method takes the whole pool and gives it back -/
abbrev gE : Type := (Nat → ClassId) × (Nat → Nat → Nat) × (Nat → ClassId)
abbrev gF : Type := Nat → va_E
abbrev gTy (E : gE) : List (ClassId × FieldType) := [(E.2.2 0, .byte), (E.2.2 1, .int), (E.2.2 2, .long), (E.2.2 3, .boolean), (E.2.2 4, .object "GooseShares$Land"), (E.2.2 5, .object "GooseShares$Row")]
/-- what the tables say, as it goes from call to call -/
def gK (E : gE) (U : State) : Prop := va_K (E.1, E.2.1) vwCl (gTy E) U ∧ (∀ q ∈ gNest, va_Nw (.methodLinkNest q.1 q.2.1 q.2.2.1 q.2.2.2) U) ∧ va_AO "GooseShares$Land" U ∧ va_AO "GooseShares$Row" U
theorem gK.warm {E : gE} {s U : State} (hW : s.WarmedH U.vm) (h : gK E s) : gK E U := ⟨va_K.moved hW.alike h.1, fun q hq => va_Nw.warmM hW (h.2.1 q hq), va_AO.moved hW.alike h.2.2.1, va_AO.moved hW.alike h.2.2.2⟩
theorem gK.blind {E : gE} {U U1 : State} (hv : U.vm = U1.vm) (h : gK E U) : gK E U1 := ⟨va_K.moved (hv ▸ Vm.Alike.refl U.vm) h.1, fun q hq => va_Nw.same rfl hv (h.2.1 q hq), va_AO.moved (hv ▸ Vm.Alike.refl U.vm) h.2.2.1, va_AO.moved (hv ▸ Vm.Alike.refl U.vm) h.2.2.2⟩
def gH (E : gE) (A : Nat → Prop) (L : List Nat) (f : gF) (H0 H : Heap) (locs : List Loc) : Prop := va_P (E.1, E.2.1) vwCl (va_pl L f) H ∧ va_D A (va_pl L f) ∧ va_S A H0 H locs
def gPre (E : gE) (L : List Nat) (f : gF) (sz : Nat) (U : State) : Prop := U.heap.size = sz ∧ va_P (E.1, E.2.1) vwCl (va_pl L f) U.heap ∧ gK E U ∧ va_D (fun _ => True) (va_pl L f)
def gPost (E : gE) (A : Nat → Prop) (u : List Nat × gF) (t : State) : Prop := va_P (E.1, E.2.1) vwCl (va_pl u.1 u.2) t.heap ∧ va_D A (va_pl u.1 u.2)
abbrev gA (L : List Nat) (f : gF) (sz : Nat) : Nat → Prop := va_A (va_pl L f) sz
abbrev gRm (d mc ms : Nat) : Room := { frames := d, cells := mc, slots := ms, locals := 100 * d }
abbrev gQi (E : gE) (A : Nat → Prop) (post : Int32 → List Nat → gF → Prop) : Array Value → State → Outcome → State → Prop := va_Qi (fun r (u : List Nat × gF) => post r u.1 u.2) (gPost E A) A
abbrev gQv (E : gE) (A : Nat → Prop) (post : List Nat → gF → Prop) : Array Value → State → Outcome → State → Prop := va_Qv (fun (u : List Nat × gF) => post u.1 u.2) (gPost E A) A
/-- a method's contract: from the pool (L, f) it returns an int r with the pool (L', f'), post r L' f' -/
def gMi (l : Launch) (E : gE) (y : MethodName) (cc : ByteArray) (nl : Nat) (ret : FieldType) (rm : Room) (av : List Value) (L : List Nat) (f : gF) (post : Int32 → List Nat → gF → Prop) : Prop :=
  ∀ sz : Nat, Met l y (.code y cc nl (some ret) :: gW) rm (va_Pc av (gPre E L f sz)) (gQi E (gA L f sz) post) rm.cells rm.slots (gA L f sz)
def gMv (l : Launch) (E : gE) (y : MethodName) (cc : ByteArray) (nl : Nat) (rm : Room) (av : List Value) (L : List Nat) (f : gF) (post : List Nat → gF → Prop) : Prop :=
  ∀ sz : Nat, Met l y (.code y cc nl none :: gW) rm (va_Pc av (gPre E L f sz)) (gQv E (gA L f sz) post) rm.cells rm.slots (gA L f sz)
/-- what is fixed in a walk -/
def gC (E : gE) (cc : ByteArray) (nl : Nat) (own : String) (p : Program) (s : State) (m : MethodId) (args : Array Value) (meth : Method) (c : Code) : Prop :=
  p.tables.exec = Jvm.exec ∧ c.code = cc ∧ c.maxLocals = nl ∧ s.vm.findClass own = some m.cls ∧ (∀ w ∈ gW, w.before args s = true) ∧ gK E s ∧ meth.locks = false
theorem g_at {L : List Nat} {f : gF} {a : Nat} (ha : a ∈ L) : ∃ k : Nat, (va_pl L f)[k]? = some (a, f a) := va_pl_get (X := []) ha
theorem g_ne {f : gF} {a b : Nat} {e1 e2 : va_E} (h1 : f a = e1) (h2 : f b = e2) (h : e1 ≠ e2) : a ≠ b := fun e => h (by rw [← h1, ← h2, e])
theorem g_neO {f : gF} {a b i j : Nat} {x y : List Value} (h1 : f a = .inr (i, x)) (h2 : f b = .inr (j, y)) (h : i ≠ j) : a ≠ b := g_ne h1 h2 (fun e => h (congrArg Prod.fst (Sum.inr.inj e)))
theorem g_neAO {f : gF} {a b i : Nat} {x : List Value} {z : ClassId × vp_A} (h1 : f a = .inl z) (h2 : f b = .inr (i, x)) : a ≠ b := g_ne h1 h2 (fun e => nomatch e)
theorem g_neOA {f : gF} {a b i : Nat} {x : List Value} {z : ClassId × vp_A} (h1 : f a = .inr (i, x)) (h2 : f b = .inl z) : a ≠ b := g_ne h1 h2 (fun e => nomatch e)
theorem g_neL {L : List Nat} {a q : Nat} (ha : a ∈ L) (hq : q ∉ L) : a ≠ q := fun e => hq (e ▸ ha)
section GW
variable {p : Program} {l : Launch} {e : Env} {R : Room} {s : State} {m : MethodId} {args : Array Value} {below : List Frame} {meth : Method} {c : Code} {H H0 : Heap} {locs : List Loc} {cells slots : Nat} {Q : State → Prop}
variable {E : gE} {cc : ByteArray} {nl : Nat} {own : String} {A : Nat → Prop} {L : List Nat} {f : gF} {pc : Nat} {ls : Array Slot} {rest : List Value} {a : Nat}
theorem g_get (C : gC E cc nl own p s m args meth c) (hH : gH E A L f H0 H locs) (ha : a ∈ L) {ci : Nat} {fs : List Value} (hf : f a = .inr (ci, fs)) {Cn ref : String} {T : u_T} {N index : Nat} (hin : ∀ w ∈ u_ws Cn T N, w ∈ gW) (hc : vwCl[ci]? = some (Cn, T, N)) (k : Nat) (hk : k < N) (hlink : Cond.fieldLink own index ref (T k).2.1 (T k).2.2.1 ∈ gW) (hsame : (T k).1 = ref) {v : Value} (hv : fs[k]? = some v) (hdg : decode cc pc = .ok (.getfield index, 3))
    (kk : W p l e R s m args below meth c H locs cells slots Q (F0 m (pc + 3) ls (v :: rest))) : W p l e R s m args below meth c H locs cells slots Q (F0 m pc ls (.ref a :: rest)) := by
  obtain ⟨hx, hb, hml, hown, hts, hK, hlk⟩ := C
  obtain ⟨q0, hq⟩ := g_at (f := f) ha
  rw [hf] at hq
  exact va_get hx hb hts hin hown hK.1 hH.1 q0 hq hc k hk (hts _ hlink) (fun x h => hsame ▸ h) hv hdg kk
theorem g_put (C : gC E cc nl own p s m args meth c) (hH : gH E A L f H0 H locs) (ha : a ∈ L) {ci : Nat} {fs fs' : List Value} (hf : f a = .inr (ci, fs)) {Cn ref : String} {T : u_T} {N index : Nat} (hin : ∀ w ∈ u_ws Cn T N, w ∈ gW) (ty0 : Nat → FieldType) (hty : ∀ k, k < N → parseFieldDescriptor (T k).2.2.1 = some (ty0 k)) (hnm : ∀ a, a < N → ∀ b, b < N → a ≠ b → (T a).2.1 ≠ (T b).2.1) (hc : vwCl[ci]? = some (Cn, T, N)) (k : Nat) (hk : k < N) (hlink : Cond.fieldLink own index ref (T k).2.1 (T k).2.2.1 ∈ gW) (hsame : (T k).1 = ref) (hfin : (T k).2.2.2 = false) {v : Value} (hn : narrow (ty0 k) v = v) (hfit : fits (ty0 k) v = true) (hl : k < fs.length) (hfs : fs.set k v = fs') (hdg : decode cc pc = .ok (.putfield index, 3))
    (kk : ∀ (H1 : Heap) (locs1 : List Loc), gH E A L (va_up f a (.inr (ci, fs'))) H0 H1 locs1 → W p l e R s m args below meth c H1 locs1 cells slots Q (F0 m (pc + 3) ls rest)) : W p l e R s m args below meth c H locs cells slots Q (F0 m pc ls (v :: .ref a :: rest)) := by
  obtain ⟨hx, hb, hml, hown, hts, hK, hlk⟩ := C
  obtain ⟨q0, hq0⟩ := g_at (f := f) ha
  have hq := hq0
  rw [hf] at hq
  refine va_put hx hb hts hin ty0 hty hnm hown hK.1 hH.1 hH.2.1 hH.2.2 q0 hq hc k hk (hts _ hlink) (fun x h => hsame ▸ h) hfin (hty k hk) hn hfit hl hdg (fun H1 locs1 h1 h2 h3 => ?_)
  subst hfs
  have he := va_pl_set (X := []) (e := (.inr (ci, fs.set k v) : va_E)) hH.2.1 ha hq0
  exact kk H1 locs1 ⟨by rw [← List.nil_append (va_pl L _), ← he]; exact h1, by rw [← List.nil_append (va_pl L _), ← he]; exact h2, h3⟩
theorem g_putF (C : gC E cc nl own p s m args meth c) (hH : gH E A L f H0 H locs) (ha : a ∈ L) {ci : Nat} {fs fs' : List Value} (hf : f a = .inr (ci, fs)) {Cn ref : String} {T : u_T} {N index : Nat} (hin : ∀ w ∈ u_ws Cn T N, w ∈ gW) (ty0 : Nat → FieldType) (hty : ∀ k, k < N → parseFieldDescriptor (T k).2.2.1 = some (ty0 k)) (hnm : ∀ a, a < N → ∀ b, b < N → a ≠ b → (T a).2.1 ≠ (T b).2.1) (hc : vwCl[ci]? = some (Cn, T, N)) (k : Nat) (hk : k < N) (hlink : Cond.fieldLink own index ref (T k).2.1 (T k).2.2.1 ∈ gW) (hsame : (T k).1 = ref) (hfin : (T k).2.2.2 = true) (hin2 : meth.name = "<init>") (hdecl : (T k).1 = own) {v : Value} (hn : narrow (ty0 k) v = v) (hfit : fits (ty0 k) v = true) (hl : k < fs.length) (hfs : fs.set k v = fs') (hdg : decode cc pc = .ok (.putfield index, 3))
    (kk : ∀ (H1 : Heap) (locs1 : List Loc), gH E A L (va_up f a (.inr (ci, fs'))) H0 H1 locs1 → W p l e R s m args below meth c H1 locs1 cells slots Q (F0 m (pc + 3) ls rest)) : W p l e R s m args below meth c H locs cells slots Q (F0 m pc ls (v :: .ref a :: rest)) := by
  obtain ⟨hx, hb, hml, hown, hts, hK, hlk⟩ := C
  obtain ⟨q0, hq0⟩ := g_at (f := f) ha
  have hq := hq0
  rw [hf] at hq
  refine va_putF hx hb hts hin ty0 hty hnm hown hK.1 hH.1 hH.2.1 hH.2.2 q0 hq hc k hk (hts _ hlink) (fun x h => hsame ▸ h) hfin hin2 hdecl (hty k hk) hn hfit hl hdg (fun H1 locs1 h1 h2 h3 => ?_)
  subst hfs
  have he := va_pl_set (X := []) (e := (.inr (ci, fs.set k v) : va_E)) hH.2.1 ha hq0
  exact kk H1 locs1 ⟨by rw [← List.nil_append (va_pl L _), ← he]; exact h1, by rw [← List.nil_append (va_pl L _), ← he]; exact h2, h3⟩
theorem g_pushL {ws1 : va_W} {q : Nat} {x : va_E} (h2 : va_D A (va_pl L f ++ [(q, x)])) : q ∉ L := by
  intro hq
  obtain ⟨k, hk⟩ := g_at (f := f) hq
  have hlt : k < (va_pl L f).length := (List.getElem?_eq_some_iff.mp hk).1
  have h3 := h2.1 k (va_pl L f).length (q, f q) (q, x) (by rw [List.getElem?_append_left hlt]; exact hk) (by simp) rfl
  omega
theorem g_new (C : gC E cc nl own p s m args meth c) (hH : gH E A L f H0 H locs) (hA : ∀ q, H0.size ≤ q → A q) {ci : Nat} {Cn : String} {T : u_T} {N index : Nat} (hin : ∀ w ∈ u_ws Cn T N, w ∈ gW) (ty0 : Nat → FieldType) (hty : ∀ k, k < N → parseFieldDescriptor (T k).2.2.1 = some (ty0 k)) (hcl : Cond.classLink own index Cn ∈ gW) (hinst : Cond.instantiable Cn N ∈ gW) (hini : Cond.initialized Cn ∈ gW) (hc : vwCl[ci]? = some (Cn, T, N)) {fs : List Value} (hfs : ∀ j, j < N → defaultValue (ty0 j) = vp_V fs j) (hcells : cells + 1 ≤ R.cells) (hslots : slots + N ≤ R.slots) (hdg : decode cc pc = .ok (.new index, 3))
    (kk : ∀ (q : Nat) (H1 : Heap), q ∉ L → gH E A (L ++ [q]) (va_up f q (.inr (ci, fs))) H0 H1 locs → W p l e R s m args below meth c H1 locs (cells + 1) (slots + N) Q (F0 m (pc + 3) ls (.ref q :: rest))) : W p l e R s m args below meth c H locs cells slots Q (F0 m pc ls rest) := by
  obtain ⟨hx, hb, hml, hown, hts, hK, hlk⟩ := C
  refine va_new hx hb hts hin ty0 hty hown (hts _ hcl) (hts _ hinst) (hts _ hini) hK.1 hH.1 hH.2.1 hH.2.2 hA hc hfs hcells hslots hdg (fun q H1 h1 h2 h3 => ?_)
  have hq : q ∉ L := g_pushL (ws1 := []) h2
  rw [va_pl_push hq] at h1 h2
  exact kk q H1 hq ⟨h1, h2, h3⟩
theorem g_newa (C : gC E cc nl own p s m args meth c) (hH : gH E A L f H0 H locs) (hA : ∀ q, H0.size ≤ q → A q) {atype : ArrayType} {ty : FieldType} {cA : ClassId} (t0 : Nat) (hcA : (gTy E)[t0]? = some (cA, ty)) (hra : ∀ (U : State) (z : ClassId), va_RA U z ty → U.vm.findClass ("[" ++ ty.toString) = some z) (harr : Cond.arrayClass ty ∈ gW) (hty : newarray.typeOf atype = ty) {n : Int32} {N' : Nat} {a0 : vp_A} (ha : ∀ z : ClassId, vp_cell z a0 = arrV z N' (fun _ => defaultValue ty)) (hn : ¬ n < 0) (hN : n.toNatClampNeg = N') (hbytes : N' * componentBytes ty ≤ 536870912) (hcells : cells + 1 ≤ R.cells) (hslots : slots + N' ≤ R.slots) (hdg : decode cc pc = .ok (.newarray atype, 2))
    (kk : ∀ (q : Nat) (H1 : Heap), q ∉ L → gH E A (L ++ [q]) (va_up f q (.inl (cA, a0))) H0 H1 locs → W p l e R s m args below meth c H1 locs (cells + 1) (slots + N') Q (F0 m (pc + 2) ls (.ref q :: rest))) : W p l e R s m args below meth c H locs cells slots Q (F0 m pc ls (.int n :: rest)) := by
  obtain ⟨hx, hb, hml, hown, hts, hK, hlk⟩ := C
  have h9 := hra s cA (hK.1.2 t0 _ hcA).2
  refine va_newa hx hb (by rw [hty]; exact hts _ harr) hty hK.1 hH.1 hH.2.1 hH.2.2 hA ha hn hN hbytes hcells hslots hdg (fun q z H1 h0 h1 h2 h3 => ?_)
  have hz := hra s z (h0.2 (gTy E).length (z, ty) (by simp)).2
  have hzz : z = cA := Option.some.inj (hz.symm.trans h9)
  subst hzz
  have hq : q ∉ L := g_pushL (ws1 := []) h2
  rw [va_pl_push hq] at h1 h2
  exact kk q H1 hq ⟨h1, h2, h3⟩
theorem g_newq (C : gC E cc nl own p s m args meth c) (hH : gH E A L f H0 H locs) (hA : ∀ q, H0.size ≤ q → A q) {Cn : String} {index : Nat} {cA : ClassId} (t0 : Nat) (hcA : (gTy E)[t0]? = some (cA, .object Cn)) (hclink : Cond.classLink own index Cn ∈ gW) (hover : gK E s → va_AO Cn s) {n : Int32} {N' : Nat} (hn : ¬ n < 0) (hN : n.toNatClampNeg = N') (hbytes : N' * 4 ≤ 536870912) (hcells : cells + 1 ≤ R.cells) (hslots : slots + N' ≤ R.slots) (hdg : decode cc pc = .ok (.anewarray index, 3))
    (kk : ∀ (q : Nat) (H1 : Heap), q ∉ L → gH E A (L ++ [q]) (va_up f q (.inl (cA, N', .inr (.inr (.inr (.inr (fun _ => none))))))) H0 H1 locs → W p l e R s m args below meth c H1 locs (cells + 1) (slots + N') Q (F0 m (pc + 3) ls (.ref q :: rest))) : W p l e R s m args below meth c H locs cells slots Q (F0 m pc ls (.int n :: rest)) := by
  obtain ⟨hx, hb, hml, hown, hts, hK, hlk⟩ := C
  obtain ⟨-, -, -, -, -, h9⟩ := (hK.1.2 t0 _ hcA).2
  refine va_newq hx hb hown (hts _ hclink) (hover hK) hK.1 hH.1 hH.2.1 hH.2.2 hA hn hN hbytes hcells hslots hdg (fun q z H1 h0 h1 h2 h3 => ?_)
  obtain ⟨-, -, -, -, -, hz⟩ := (h0.2 (gTy E).length (z, .object Cn) (by simp)).2
  have hzz : z = cA := Option.some.inj (hz.symm.trans h9)
  subst hzz
  have hq : q ∉ L := g_pushL (ws1 := []) h2
  rw [va_pl_push hq] at h1 h2
  exact kk q H1 hq ⟨h1, h2, h3⟩
/-- an entry changed, its address stays -/
theorem g_upd (hH : gH E A L f H0 H locs) (ha : a ∈ L) {q0 : Nat} (hq0 : (va_pl L f)[q0]? = some (a, f a)) {x : va_E} {H1 : Heap} {locs1 : List Loc} (h1 : va_P (E.1, E.2.1) vwCl ((va_pl L f).set q0 (a, x)) H1) (h2 : va_D A ((va_pl L f).set q0 (a, x))) (h3 : va_S A H0 H1 locs1) : gH E A L (va_up f a x) H0 H1 locs1 := by
  have he := va_pl_set (X := []) (e := x) hH.2.1 ha hq0
  exact ⟨by rw [← List.nil_append (va_pl L _), ← he]; exact h1, by rw [← List.nil_append (va_pl L _), ← he]; exact h2, h3⟩
theorem g_iald (C : gC E cc nl own p s m args meth c) (hH : gH E A L f H0 H locs) (ha : a ∈ L) {n : Nat} {v : Nat → Int32} (hf : f a = .inl (E.2.2 1, n, .inl v)) {i : Int32} (hin : vp_in i n) (hdg : decode cc pc = .ok (.iaload, 1))
    (kk : W p l e R s m args below meth c H locs cells slots Q (F0 m (pc + 1) ls (.int (v i.toNatClampNeg) :: rest))) : W p l e R s m args below meth c H locs cells slots Q (F0 m pc ls (.int i :: .ref a :: rest)) := by
  obtain ⟨hx, hb, hml, hown, hts, hK, hlk⟩ := C
  obtain ⟨q0, hq⟩ := g_at (f := f) ha
  rw [hf] at hq
  exact va_iald hx hb hK.1 hH.1 q0 1 hq rfl hin hdg kk
theorem g_bald (C : gC E cc nl own p s m args meth c) (hH : gH E A L f H0 H locs) (ha : a ∈ L) {n : Nat} {v : Nat → Int32} (hf : f a = .inl (E.2.2 0, n, .inl v)) {i : Int32} (hin : vp_in i n) (hdg : decode cc pc = .ok (.baload, 1))
    (kk : W p l e R s m args below meth c H locs cells slots Q (F0 m (pc + 1) ls (.int (v i.toNatClampNeg) :: rest))) : W p l e R s m args below meth c H locs cells slots Q (F0 m pc ls (.int i :: .ref a :: rest)) := by
  obtain ⟨hx, hb, hml, hown, hts, hK, hlk⟩ := C
  obtain ⟨q0, hq⟩ := g_at (f := f) ha
  rw [hf] at hq
  exact va_bald hx hb hK.1 hH.1 q0 0 hq rfl hin hdg kk
theorem g_zald (C : gC E cc nl own p s m args meth c) (hH : gH E A L f H0 H locs) (ha : a ∈ L) {n : Nat} {v : Nat → Int32} (hf : f a = .inl (E.2.2 3, n, .inl v)) {i : Int32} (hin : vp_in i n) (hdg : decode cc pc = .ok (.baload, 1))
    (kk : W p l e R s m args below meth c H locs cells slots Q (F0 m (pc + 1) ls (.int (v i.toNatClampNeg) :: rest))) : W p l e R s m args below meth c H locs cells slots Q (F0 m pc ls (.int i :: .ref a :: rest)) := by
  obtain ⟨hx, hb, hml, hown, hts, hK, hlk⟩ := C
  obtain ⟨q0, hq⟩ := g_at (f := f) ha
  rw [hf] at hq
  exact va_zald hx hb hK.1 hH.1 q0 3 hq rfl hin hdg kk
theorem g_lald (C : gC E cc nl own p s m args meth c) (hH : gH E A L f H0 H locs) (ha : a ∈ L) {n : Nat} {v : Nat → Int64} (hf : f a = .inl (E.2.2 2, n, .inr (.inl v))) {i : Int32} (hin : vp_in i n) (hdg : decode cc pc = .ok (.laload, 1))
    (kk : W p l e R s m args below meth c H locs cells slots Q (F0 m (pc + 1) ls (.long (v i.toNatClampNeg) :: rest))) : W p l e R s m args below meth c H locs cells slots Q (F0 m pc ls (.int i :: .ref a :: rest)) := by
  obtain ⟨hx, hb, hml, hown, hts, hK, hlk⟩ := C
  obtain ⟨q0, hq⟩ := g_at (f := f) ha
  rw [hf] at hq
  exact va_lald hx hb hK.1 hH.1 q0 2 hq rfl hin hdg kk
theorem g_aald (C : gC E cc nl own p s m args meth c) (hH : gH E A L f H0 H locs) (ha : a ∈ L) {n : Nat} {v : Nat → Option Nat} {cA : ClassId} {Cn : String} (t0 : Nat) (hcA : (gTy E)[t0]? = some (cA, .object Cn)) (hf : f a = .inl (cA, n, .inr (.inr (.inr (.inr v))))) {i : Int32} (hin : vp_in i n) {b : Nat} (hv : v i.toNatClampNeg = some b) (hdg : decode cc pc = .ok (.aaload, 1))
    (kk : W p l e R s m args below meth c H locs cells slots Q (F0 m (pc + 1) ls (.ref b :: rest))) : W p l e R s m args below meth c H locs cells slots Q (F0 m pc ls (.int i :: .ref a :: rest)) := by
  obtain ⟨hx, hb, hml, hown, hts, hK, hlk⟩ := C
  obtain ⟨q0, hq⟩ := g_at (f := f) ha
  rw [hf] at hq
  exact va_aldq hx hb hK.1 hH.1 q0 t0 hq hcA hin hdg (by rw [hv]; exact kk)
theorem g_iast (C : gC E cc nl own p s m args meth c) (hH : gH E A L f H0 H locs) (ha : a ∈ L) {n : Nat} {v : Nat → Int32} (hf : f a = .inl (E.2.2 1, n, .inl v)) {i x : Int32} (hin : vp_in i n) (hdg : decode cc pc = .ok (.iastore, 1))
    (kk : ∀ (H1 : Heap) (locs1 : List Loc), gH E A L (va_up f a (.inl (E.2.2 1, n, .inl (upd v i.toNatClampNeg x)))) H0 H1 locs1 → W p l e R s m args below meth c H1 locs1 cells slots Q (F0 m (pc + 1) ls rest)) : W p l e R s m args below meth c H locs cells slots Q (F0 m pc ls (.int x :: .int i :: .ref a :: rest)) := by
  obtain ⟨hx, hb, hml, hown, hts, hK, hlk⟩ := C
  obtain ⟨q0, hq0⟩ := g_at (f := f) ha
  have hq := hq0
  rw [hf] at hq
  exact va_iast hx hb hK.1 hH.1 hH.2.1 hH.2.2 q0 1 hq rfl hin hdg (fun H1 locs1 h1 h2 h3 => kk H1 locs1 (g_upd hH ha hq0 h1 h2 h3))
theorem g_bast (C : gC E cc nl own p s m args meth c) (hH : gH E A L f H0 H locs) (ha : a ∈ L) {n : Nat} {v : Nat → Int32} (hf : f a = .inl (E.2.2 0, n, .inl v)) {i x : Int32} (hin : vp_in i n) (hdg : decode cc pc = .ok (.bastore, 1))
    (kk : ∀ (H1 : Heap) (locs1 : List Loc), gH E A L (va_up f a (.inl (E.2.2 0, n, .inl (upd v i.toNatClampNeg (vp_nar .byte x))))) H0 H1 locs1 → W p l e R s m args below meth c H1 locs1 cells slots Q (F0 m (pc + 1) ls rest)) : W p l e R s m args below meth c H locs cells slots Q (F0 m pc ls (.int x :: .int i :: .ref a :: rest)) := by
  obtain ⟨hx, hb, hml, hown, hts, hK, hlk⟩ := C
  obtain ⟨q0, hq0⟩ := g_at (f := f) ha
  have hq := hq0
  rw [hf] at hq
  exact va_bast hx hb hK.1 hH.1 hH.2.1 hH.2.2 q0 0 hq rfl hin hdg (fun H1 locs1 h1 h2 h3 => kk H1 locs1 (g_upd hH ha hq0 h1 h2 h3))
theorem g_zast (C : gC E cc nl own p s m args meth c) (hH : gH E A L f H0 H locs) (ha : a ∈ L) {n : Nat} {v : Nat → Int32} (hf : f a = .inl (E.2.2 3, n, .inl v)) {i x : Int32} (hin : vp_in i n) (hdg : decode cc pc = .ok (.bastore, 1))
    (kk : ∀ (H1 : Heap) (locs1 : List Loc), gH E A L (va_up f a (.inl (E.2.2 3, n, .inl (upd v i.toNatClampNeg (vp_nar .boolean x))))) H0 H1 locs1 → W p l e R s m args below meth c H1 locs1 cells slots Q (F0 m (pc + 1) ls rest)) : W p l e R s m args below meth c H locs cells slots Q (F0 m pc ls (.int x :: .int i :: .ref a :: rest)) := by
  obtain ⟨hx, hb, hml, hown, hts, hK, hlk⟩ := C
  obtain ⟨q0, hq0⟩ := g_at (f := f) ha
  have hq := hq0
  rw [hf] at hq
  exact va_zast hx hb hK.1 hH.1 hH.2.1 hH.2.2 q0 3 hq rfl hin hdg (fun H1 locs1 h1 h2 h3 => kk H1 locs1 (g_upd hH ha hq0 h1 h2 h3))
theorem g_last (C : gC E cc nl own p s m args meth c) (hH : gH E A L f H0 H locs) (ha : a ∈ L) {n : Nat} {v : Nat → Int64} (hf : f a = .inl (E.2.2 2, n, .inr (.inl v))) {i : Int32} {x : Int64} (hin : vp_in i n) (hdg : decode cc pc = .ok (.lastore, 1))
    (kk : ∀ (H1 : Heap) (locs1 : List Loc), gH E A L (va_up f a (.inl (E.2.2 2, n, .inr (.inl (vp_updL v i.toNatClampNeg x))))) H0 H1 locs1 → W p l e R s m args below meth c H1 locs1 cells slots Q (F0 m (pc + 1) ls rest)) : W p l e R s m args below meth c H locs cells slots Q (F0 m pc ls (.long x :: .int i :: .ref a :: rest)) := by
  obtain ⟨hx, hb, hml, hown, hts, hK, hlk⟩ := C
  obtain ⟨q0, hq0⟩ := g_at (f := f) ha
  have hq := hq0
  rw [hf] at hq
  exact va_last hx hb hK.1 hH.1 hH.2.1 hH.2.2 q0 2 hq rfl hin hdg (fun H1 locs1 h1 h2 h3 => kk H1 locs1 (g_upd hH ha hq0 h1 h2 h3))
theorem g_alen (C : gC E cc nl own p s m args meth c) (hH : gH E A L f H0 H locs) (ha : a ∈ L) {x : vp_A} {cA : ClassId} {ty : FieldType} (t0 : Nat) (hcA : (gTy E)[t0]? = some (cA, ty)) (hf : f a = .inl (cA, x)) {v : Int32} (hv : nI x.1 = v) (hdg : decode cc pc = .ok (.arraylength, 1))
    (kk : W p l e R s m args below meth c H locs cells slots Q (F0 m (pc + 1) ls (.int v :: rest))) : W p l e R s m args below meth c H locs cells slots Q (F0 m pc ls (.ref a :: rest)) := by
  obtain ⟨hx, hb, hml, hown, hts, hK, hlk⟩ := C
  obtain ⟨q0, hq⟩ := g_at (f := f) ha
  rw [hf] at hq
  exact va_alen hx hb hK.1 hH.1 q0 t0 hq hcA hv hdg kk
end GW
section GC
variable {p : Program} {l : Launch} {e : Env} {R : Room} {s : State} {m : MethodId} {args : Array Value} {below : List Frame} {meth : Method} {c : Code} {H H0 : Heap} {locs : List Loc} {cells slots : Nat} {Q : State → Prop}
variable {E : gE} {cc : ByteArray} {nl : Nat} {own : String} {A : Nat → Prop} {L : List Nat} {f : gF} {pc : Nat} {ls : Array Slot} {rest : List Value} {a : Nat}
theorem g_aast (C : gC E cc nl own p s m args meth c) (hH : gH E A L f H0 H locs) (ha : a ∈ L) {n b : Nat} {v : Nat → Option Nat} {cA : ClassId} {Cn : String} {T : u_T} {N ci : Nat} {vs : List Value} (t0 : Nat) (hcA : (gTy E)[t0]? = some (cA, .object Cn)) (hf : f a = .inl (cA, n, .inr (.inr (.inr (.inr v))))) (hbL : b ∈ L) (hfb : f b = .inr (ci, vs)) (hc : vwCl[ci]? = some (Cn, T, N)) {i : Int32} (hin : vp_in i n) (hdg : decode cc pc = .ok (.aastore, 1))
    (kk : ∀ (H1 : Heap) (locs1 : List Loc), gH E A L (va_up f a (.inl (cA, n, .inr (.inr (.inr (.inr (va_up v i.toNatClampNeg (some b)))))))) H0 H1 locs1 → W p l e R s m args below meth c H1 locs1 cells slots Q (F0 m (pc + 1) ls rest)) : W p l e R s m args below meth c H locs cells slots Q (F0 m pc ls (.ref b :: .int i :: .ref a :: rest)) := by
  obtain ⟨hx, hb, hml, hown, hts, hK, hlk⟩ := C
  obtain ⟨q0, hq0⟩ := g_at (f := f) ha
  have hq := hq0
  rw [hf] at hq
  obtain ⟨q1, hq1⟩ := g_at (f := f) hbL
  rw [hfb] at hq1
  exact va_astq (r := (Cn, T, N)) hx hb hK.1 hH.1 hH.2.1 hH.2.2 q0 t0 q1 ci hq hcA hq1 hc hin hdg (fun H1 locs1 h1 h2 h3 => kk H1 locs1 (g_upd hH ha hq0 h1 h2 h3))
theorem g_copyi (C : gC E cc nl own p s m args meth c) (hls : nl = ls.size) (hH : gH E A L f H0 H locs) {index : Nat} (hlink : Cond.methodLink own index arraycopyName ∈ gW) (hnat : Cond.native arraycopyName ∈ gW) (hstat : Cond.static arraycopyName ∈ gW) (hini : Cond.initialized "java/lang/System" ∈ gW) {a0 n0 n1 : Nat} {u v : Nat → Int32} (ha0 : a0 ∈ L) (hf0 : f a0 = .inl (E.2.2 1, n0, .inl u)) (ha : a ∈ L) (hf1 : f a = .inl (E.2.2 1, n1, .inl v)) {sp dp n : Int32} (h1 : ¬ sp < 0) (h2 : ¬ dp < 0) (h3 : ¬ n < 0) (h4 : sp.toNatClampNeg + n.toNatClampNeg ≤ n0) (h5 : dp.toNatClampNeg + n.toNatClampNeg ≤ n1) (hframes : 1 ≤ R.frames) (hlocals : (rest.map fun v => v.category).sum + (nativeFrameWords "java/lang/System" "arraycopy" 5 + 11) ≤ R.locals) (hdg : decode cc pc = .ok (.invokestatic index, 3))
    (kk : ∀ (H1 : Heap) (locs1 : List Loc), gH E A L (va_up f a (.inl (E.2.2 1, n1, .inl (va_cpy u v sp.toNatClampNeg dp.toNatClampNeg n.toNatClampNeg)))) H0 H1 locs1 → W p l e R s m args below meth c H1 locs1 cells slots Q (F0 m (pc + 3) ls rest)) : W p l e R s m args below meth c H locs cells slots Q (F0 m pc ls (.int n :: .int dp :: .ref a :: .int sp :: .ref a0 :: rest)) := by
  obtain ⟨hx, hb, hml, hown, hts, hK, hlk⟩ := C
  obtain ⟨q1, hq0⟩ := g_at (f := f) ha
  have hq1 := hq0
  rw [hf1] at hq1
  obtain ⟨q0, hq⟩ := g_at (f := f) ha0
  rw [hf0] at hq
  exact va_copyi hx hb (hml.trans hls) hown (hts _ hlink) (hts _ hnat) (hts _ hstat) (hts _ hini) hK.1 hH.1 hH.2.1 hH.2.2 q0 q1 1 1 hq hq1 rfl rfl rfl h1 h2 h3 h4 h5 (fun _ _ => rfl) hframes hlocals hdg (fun H1 locs1 k1 k2 k3 => kk H1 locs1 (g_upd hH ha hq0 k1 k2 k3))
theorem g_copyl (C : gC E cc nl own p s m args meth c) (hls : nl = ls.size) (hH : gH E A L f H0 H locs) {index : Nat} (hlink : Cond.methodLink own index arraycopyName ∈ gW) (hnat : Cond.native arraycopyName ∈ gW) (hstat : Cond.static arraycopyName ∈ gW) (hini : Cond.initialized "java/lang/System" ∈ gW) {a0 n0 n1 : Nat} {u v : Nat → Int64} (ha0 : a0 ∈ L) (hf0 : f a0 = .inl (E.2.2 2, n0, .inr (.inl u))) (ha : a ∈ L) (hf1 : f a = .inl (E.2.2 2, n1, .inr (.inl v))) {sp dp n : Int32} (h1 : ¬ sp < 0) (h2 : ¬ dp < 0) (h3 : ¬ n < 0) (h4 : sp.toNatClampNeg + n.toNatClampNeg ≤ n0) (h5 : dp.toNatClampNeg + n.toNatClampNeg ≤ n1) (hframes : 1 ≤ R.frames) (hlocals : (rest.map fun v => v.category).sum + (nativeFrameWords "java/lang/System" "arraycopy" 5 + 11) ≤ R.locals) (hdg : decode cc pc = .ok (.invokestatic index, 3))
    (kk : ∀ (H1 : Heap) (locs1 : List Loc), gH E A L (va_up f a (.inl (E.2.2 2, n1, .inr (.inl (va_cpy u v sp.toNatClampNeg dp.toNatClampNeg n.toNatClampNeg))))) H0 H1 locs1 → W p l e R s m args below meth c H1 locs1 cells slots Q (F0 m (pc + 3) ls rest)) : W p l e R s m args below meth c H locs cells slots Q (F0 m pc ls (.int n :: .int dp :: .ref a :: .int sp :: .ref a0 :: rest)) := by
  obtain ⟨hx, hb, hml, hown, hts, hK, hlk⟩ := C
  obtain ⟨q1, hq0⟩ := g_at (f := f) ha
  have hq1 := hq0
  rw [hf1] at hq1
  obtain ⟨q0, hq⟩ := g_at (f := f) ha0
  rw [hf0] at hq
  exact va_copyl hx hb (hml.trans hls) hown (hts _ hlink) (hts _ hnat) (hts _ hstat) (hts _ hini) hK.1 hH.1 hH.2.1 hH.2.2 q0 q1 2 2 hq hq1 rfl rfl rfl h1 h2 h3 h4 h5 (fun _ _ => rfl) hframes hlocals hdg (fun H1 locs1 k1 k2 k3 => kk H1 locs1 (g_upd hH ha hq0 k1 k2 k3))
theorem g_obj (C : gC E cc nl own p s m args meth c) (hls : ls.size = nl) {idx : Nat} (hlink : Cond.methodLink own idx Lib.objectInit ∈ gW) (hinst : Cond.instanceMethod Lib.objectInit ∈ gW) (hcode : Cond.code Lib.objectInit ⟨#[0xb1]⟩ 1 none ∈ gW) (hd : decode cc pc = .ok (.invokespecial idx, 3)) (hframes : 1 ≤ R.frames) (hlocals : (rest.map fun v => v.category).sum + 12 ≤ R.locals)
    (kk : W p l e R s m args below meth c H locs cells slots Q (F0 m (pc + 3) ls rest)) : W p l e R s m args below meth c H locs cells slots Q (F0 m pc ls (.ref a :: rest)) := by
  obtain ⟨hx, hb, hml, hown, hts, hK, hlk⟩ := C
  exact W.objInit hx hb hown (hts _ hlink) (hts _ hinst) (hts _ hcode) rfl (by rw [hml]; exact hls) rfl hd hframes (by simpa [JFrame.monitorRoom] using hlocals) kk
theorem g_free (hH : gH E A L f H0 H locs) (hA : ∀ q, H0.size ≤ q → A q) : ∀ q, gA L f H.size q → A q := by
  intro q hq
  rcases hq with ⟨k, x, hk⟩ | hq
  · exact hH.2.1.2 k _ hk
  · exact hA q (Nat.le_trans hH.2.2.1 hq)
theorem g_calli {mc ms : Nat} {st0 : List Value} {av : Array Value} {post : Int32 → List Nat → gF → Prop} (hH : gH E A L f H0 H locs) (hA : ∀ q, H0.size ≤ q → A q) (hr : va_Run p l e R s m args below meth c H locs cells slots mc ms (F0 m pc ls st0) rest (gQi E (gA L f H.size) post av) (gA L f H.size))
    (kk : ∀ (r : Int32) (L1 : List Nat) (f1 : gF) (H1 : Heap) (locs1 : List Loc), post r L1 f1 → gH E A L1 f1 H0 H1 locs1 → W p l e R s m args below meth c H1 locs1 (cells + mc) (slots + ms) Q (F0 m (pc + 3) ls (.int r :: rest))) : W p l e R s m args below meth c H locs cells slots Q (F0 m pc ls st0) := by
  have hF := g_free hH hA
  refine va_calli hr hH.2.2 (fun q _ h => hF q h) hF (fun r u t H1 locs1 ht hvm hw hB hz1 hk1 hS => ?_)
  obtain ⟨hP1, hD1⟩ := hB
  rw [ht] at hP1
  exact kk r u.1 u.2 H1 locs1 hw ⟨hP1, hD1.weaken (fun _ _ _ h => hF _ h), hS⟩
theorem g_callv {mc ms : Nat} {st0 : List Value} {av : Array Value} {post : List Nat → gF → Prop} (hH : gH E A L f H0 H locs) (hA : ∀ q, H0.size ≤ q → A q) (hr : va_Run p l e R s m args below meth c H locs cells slots mc ms (F0 m pc ls st0) rest (gQv E (gA L f H.size) post av) (gA L f H.size))
    (kk : ∀ (L1 : List Nat) (f1 : gF) (H1 : Heap) (locs1 : List Loc), post L1 f1 → gH E A L1 f1 H0 H1 locs1 → W p l e R s m args below meth c H1 locs1 (cells + mc) (slots + ms) Q (F0 m (pc + 3) ls rest)) : W p l e R s m args below meth c H locs cells slots Q (F0 m pc ls st0) := by
  have hF := g_free hH hA
  refine va_callv hr hH.2.2 (fun q _ h => hF q h) hF (fun u t H1 locs1 ht hvm hw hB hz1 hk1 hS => ?_)
  obtain ⟨hP1, hD1⟩ := hB
  rw [ht] at hP1
  exact kk u.1 u.2 H1 locs1 hw ⟨hP1, hD1.weaken (fun _ _ _ h => hF _ h), hS⟩
theorem g_blind {av : List Value} {sz : Nat} : FrameBlind (va_Pc av (gPre E L f sz)) := fun a U g mk q => ⟨q.1, q.2.1, q.2.2.1, gK.blind rfl q.2.2.2.1, q.2.2.2.2⟩
theorem g_pre (C : gC E cc nl own p s m args meth c) (hH : gH E A L f H0 H locs) (av : List Value) : ∀ U : State, U.heap = H → s.WarmedH U.vm → va_Pc av (gPre E L f H.size) av.toArray U := fun U hU hW => ⟨rfl, by rw [hU], by rw [hU]; exact hH.1, gK.warm hW C.2.2.2.2.2.1, hH.2.1.weaken (fun _ _ _ _ => trivial)⟩
theorem g_recv (C : gC E cc nl own p s m args meth c) (hH : gH E A L f H0 H locs) (ha : a ∈ L) {ci : Nat} {fs : List Value} (hf : f a = .inr (ci, fs)) {Cn : String} {T : u_T} {N : Nat} (hc : vwCl[ci]? = some (Cn, T, N)) : ∃ cellB : Cell, H[a]? = some cellB ∧ cellB.vm.isStatics = false ∧ s.vm.findClass Cn = some cellB.cls := by
  obtain ⟨q0, hq⟩ := g_at (f := f) ha
  rw [hf] at hq
  exact va_recv (q := (Cn, T, N)) C.2.2.2.2.2.1.1 hH.1 hc hq
/-- a method's own words -/
def gWV (Cn : String) (y : MethodName) (bytes : ByteArray) (maxL : Nat) (ret : Option FieldType) (n : Nat) : Prop := (Cond.instanceMethod y ∈ gW ∧ Cond.selects Cn y y ∈ gW ∧ Cond.initialized Cn ∈ gW ∧ Cond.code y bytes maxL ret ∈ gW) ∧ (y.cls = Cn ∧ y.cls ≠ "java/lang/invoke/MethodHandle" ∧ y.cls ≠ "java/lang/invoke/VarHandle" ∧ (parseMethodDescriptor y.desc).map (fun d => d.parameters.length) = some n)
def gWS (Cn : String) (y : MethodName) (bytes : ByteArray) (maxL : Nat) (ret : Option FieldType) (n : Nat) : Prop := (Cond.static y ∈ gW ∧ Cond.initialized Cn ∈ gW ∧ Cond.code y bytes maxL ret ∈ gW) ∧ (y.cls = Cn ∧ y.cls ≠ "java/lang/invoke/MethodHandle" ∧ y.cls ≠ "java/lang/invoke/VarHandle" ∧ (parseMethodDescriptor y.desc).map (fun d => d.parameters.length) = some n)
def gWI (Cn : String) (y : MethodName) (bytes : ByteArray) (maxL : Nat) (n : Nat) : Prop := (Cond.instanceMethod y ∈ gW ∧ Cond.initialized Cn ∈ gW ∧ Cond.code y bytes maxL none ∈ gW) ∧ (y.cls = Cn ∧ y.cls ≠ "java/lang/invoke/MethodHandle" ∧ y.cls ≠ "java/lang/invoke/VarHandle" ∧ (parseMethodDescriptor y.desc).map (fun d => d.parameters.length) = some n) ∧ y.name = "<init>"
theorem g_goodC {y : MethodName} {bytes : ByteArray} {maxL : Nat} {ret : Option FieldType} (h : Cond.code y bytes maxL ret ∈ gW) : GoodIn gW (Cond.code y bytes maxL ret :: gW) := fun w hw => (List.mem_cons.mp hw).elim (fun e => by rw [e]; exact ⟨h, gW_good _ h⟩) (fun h2 => ⟨h2, gW_good _ h2⟩)
theorem g_cwV {Cn : String} {y : MethodName} {bytes : ByteArray} {maxL n index : Nat} {ret : Option FieldType} {rm : Room} (hts : ∀ w ∈ gW, w.before args s = true) (wy : gWV Cn y bytes maxL ret n) (hl : Cond.methodLink own index y ∈ gW) (hR : rm.frames + 1 ≤ R.frames ∧ 8 + (maxL + 11) + rm.locals ≤ R.locals) : CallW R s args own Cn index y bytes maxL ret (Cond.code y bytes maxL ret :: gW) rm rm.cells rm.slots n := by
  refine cwV n hts (fun w hw => ?_) rfl rfl rfl wy.2 hR
  unfold wsV at hw
  rcases List.mem_append.mp hw with h | h
  · simp only [List.mem_cons, List.not_mem_nil, or_false] at h
    rcases h with rfl | rfl | rfl | rfl
    · exact ⟨hl, gW_good _ hl⟩
    · exact ⟨wy.1.1, gW_good _ wy.1.1⟩
    · exact ⟨wy.1.2.1, gW_good _ wy.1.2.1⟩
    · exact ⟨wy.1.2.2.1, gW_good _ wy.1.2.2.1⟩
  · exact g_goodC wy.1.2.2.2 w h
theorem g_Vi (C : gC E cc nl own p s m args meth c) (hls : ls.size = nl) (hA : ∀ q, H0.size ≤ q → A q) (hH : gH E A L f H0 H locs) {Cn : String} {y : MethodName} {bytes : ByteArray} {maxL n index ci N : Nat} {ret : FieldType} {rm : Room} {b : Nat} {As st0 fs : List Value} {T : u_T} {post : Int32 → List Nat → gF → Prop} (M : gMi l E y bytes maxL ret rm (.ref b :: As) L f post) (wy : gWV Cn y bytes maxL (some ret) n) (hl : Cond.methodLink own index y ∈ gW) (hb : b ∈ L) (hfb : f b = .inr (ci, fs)) (hc : vwCl[ci]? = some (Cn, T, N)) (hn : As.length = n) (hst : st0 = As.reverse ++ .ref b :: rest) (hw : (rest.map fun v => v.category).sum ≤ 8) (hR : rm.frames + 1 ≤ R.frames ∧ 8 + (maxL + 11) + rm.locals ≤ R.locals) (hcs : cells + rm.cells ≤ R.cells ∧ slots + rm.slots ≤ R.slots) (hdg : decode cc pc = .ok (.invokevirtual index, 3))
    (kk : ∀ (r : Int32) (L1 : List Nat) (f1 : gF) (H1 : Heap) (locs1 : List Loc), post r L1 f1 → gH E A L1 f1 H0 H1 locs1 → W p l e R s m args below meth c H1 locs1 (cells + rm.cells) (slots + rm.slots) Q (F0 m (pc + 3) ls (.int r :: rest))) : W p l e R s m args below meth c H locs cells slots Q (F0 m pc ls st0) := by
  refine g_calli hH hA (va_runV (As := As) (b := b) (rest := rest) ⟨C.1, C.2.1, C.2.2.1, C.2.2.2.1, C.2.2.2.2.1⟩ (M H.size) (g_cwV C.2.2.2.2.1 wy hl hR) ⟨g_blind, g_recv C hH hb hfb hc, g_pre C hH _⟩ rfl hn hls hst (lv_room hw) hdg hcs) kk
theorem g_Vv (C : gC E cc nl own p s m args meth c) (hls : ls.size = nl) (hA : ∀ q, H0.size ≤ q → A q) (hH : gH E A L f H0 H locs) {Cn : String} {y : MethodName} {bytes : ByteArray} {maxL n index ci N : Nat} {rm : Room} {b : Nat} {As st0 fs : List Value} {T : u_T} {post : List Nat → gF → Prop} (M : gMv l E y bytes maxL rm (.ref b :: As) L f post) (wy : gWV Cn y bytes maxL none n) (hl : Cond.methodLink own index y ∈ gW) (hb : b ∈ L) (hfb : f b = .inr (ci, fs)) (hc : vwCl[ci]? = some (Cn, T, N)) (hn : As.length = n) (hst : st0 = As.reverse ++ .ref b :: rest) (hw : (rest.map fun v => v.category).sum ≤ 8) (hR : rm.frames + 1 ≤ R.frames ∧ 8 + (maxL + 11) + rm.locals ≤ R.locals) (hcs : cells + rm.cells ≤ R.cells ∧ slots + rm.slots ≤ R.slots) (hdg : decode cc pc = .ok (.invokevirtual index, 3))
    (kk : ∀ (L1 : List Nat) (f1 : gF) (H1 : Heap) (locs1 : List Loc), post L1 f1 → gH E A L1 f1 H0 H1 locs1 → W p l e R s m args below meth c H1 locs1 (cells + rm.cells) (slots + rm.slots) Q (F0 m (pc + 3) ls rest)) : W p l e R s m args below meth c H locs cells slots Q (F0 m pc ls st0) := by
  refine g_callv hH hA (va_runV (As := As) (b := b) (rest := rest) ⟨C.1, C.2.1, C.2.2.1, C.2.2.2.1, C.2.2.2.2.1⟩ (M H.size) (g_cwV C.2.2.2.2.1 wy hl hR) ⟨g_blind, g_recv C hH hb hfb hc, g_pre C hH _⟩ rfl hn hls hst (lv_room hw) hdg hcs) kk
theorem g_cwS {Cn : String} {y : MethodName} {bytes : ByteArray} {maxL n index : Nat} {ret : Option FieldType} {rm : Room} (hts : ∀ w ∈ gW, w.before args s = true) (wy : gWS Cn y bytes maxL ret n) (hl : Cond.methodLink own index y ∈ gW) (hR : rm.frames + 1 ≤ R.frames ∧ 8 + (maxL + 11) + rm.locals ≤ R.locals) : CallB R s args own index y bytes maxL ret (Cond.code y bytes maxL ret :: gW) rm rm.cells rm.slots n ∧ (Cond.static y).before args s = true := by
  refine va_cwS n hts (fun w hw => ?_) rfl rfl rfl wy.2.2 hR
  unfold va_wsS at hw
  rcases List.mem_append.mp hw with h | h
  · simp only [List.mem_cons, List.not_mem_nil, or_false] at h
    rcases h with rfl | rfl | rfl
    · exact ⟨hl, gW_good _ hl⟩
    · exact ⟨wy.1.1, gW_good _ wy.1.1⟩
    · rw [wy.2.1]; exact ⟨wy.1.2.1, gW_good _ wy.1.2.1⟩
  · exact g_goodC wy.1.2.2 w h
theorem g_Si (C : gC E cc nl own p s m args meth c) (hls : ls.size = nl) (hA : ∀ q, H0.size ≤ q → A q) (hH : gH E A L f H0 H locs) {Cn : String} {y : MethodName} {bytes : ByteArray} {maxL n index : Nat} {ret : FieldType} {rm : Room} {As st0 : List Value} {post : Int32 → List Nat → gF → Prop} (M : gMi l E y bytes maxL ret rm As L f post) (wy : gWS Cn y bytes maxL (some ret) n) (hl : Cond.methodLink own index y ∈ gW) (hn : As.length = n) (hst : st0 = As.reverse ++ rest) (hw : (rest.map fun v => v.category).sum ≤ 8) (hR : rm.frames + 1 ≤ R.frames ∧ 8 + (maxL + 11) + rm.locals ≤ R.locals) (hcs : cells + rm.cells ≤ R.cells ∧ slots + rm.slots ≤ R.slots) (hdg : decode cc pc = .ok (.invokestatic index, 3))
    (kk : ∀ (r : Int32) (L1 : List Nat) (f1 : gF) (H1 : Heap) (locs1 : List Loc), post r L1 f1 → gH E A L1 f1 H0 H1 locs1 → W p l e R s m args below meth c H1 locs1 (cells + rm.cells) (slots + rm.slots) Q (F0 m (pc + 3) ls (.int r :: rest))) : W p l e R s m args below meth c H locs cells slots Q (F0 m pc ls st0) :=
  g_calli hH hA (va_runS (As := As) (rest := rest) ⟨C.1, C.2.1, C.2.2.1, C.2.2.2.1, C.2.2.2.2.1⟩ (M H.size) (g_cwS C.2.2.2.2.1 wy hl hR) ⟨g_blind, g_pre C hH _⟩ rfl hn hls hst (lv_room hw) hdg hcs) kk
theorem g_Sv (C : gC E cc nl own p s m args meth c) (hls : ls.size = nl) (hA : ∀ q, H0.size ≤ q → A q) (hH : gH E A L f H0 H locs) {Cn : String} {y : MethodName} {bytes : ByteArray} {maxL n index : Nat} {rm : Room} {As st0 : List Value} {post : List Nat → gF → Prop} (M : gMv l E y bytes maxL rm As L f post) (wy : gWS Cn y bytes maxL none n) (hl : Cond.methodLink own index y ∈ gW) (hn : As.length = n) (hst : st0 = As.reverse ++ rest) (hw : (rest.map fun v => v.category).sum ≤ 8) (hR : rm.frames + 1 ≤ R.frames ∧ 8 + (maxL + 11) + rm.locals ≤ R.locals) (hcs : cells + rm.cells ≤ R.cells ∧ slots + rm.slots ≤ R.slots) (hdg : decode cc pc = .ok (.invokestatic index, 3))
    (kk : ∀ (L1 : List Nat) (f1 : gF) (H1 : Heap) (locs1 : List Loc), post L1 f1 → gH E A L1 f1 H0 H1 locs1 → W p l e R s m args below meth c H1 locs1 (cells + rm.cells) (slots + rm.slots) Q (F0 m (pc + 3) ls rest)) : W p l e R s m args below meth c H locs cells slots Q (F0 m pc ls st0) :=
  g_callv hH hA (va_runS (As := As) (rest := rest) ⟨C.1, C.2.1, C.2.2.1, C.2.2.2.1, C.2.2.2.2.1⟩ (M H.size) (g_cwS C.2.2.2.2.1 wy hl hR) ⟨g_blind, g_pre C hH _⟩ rfl hn hls hst (lv_room hw) hdg hcs) kk
theorem g_Iv (C : gC E cc nl own p s m args meth c) (hls : ls.size = nl) (hA : ∀ q, H0.size ≤ q → A q) (hH : gH E A L f H0 H locs) {Cn : String} {y : MethodName} {bytes : ByteArray} {maxL n index : Nat} {rm : Room} {b : Nat} {As st0 : List Value} {post : List Nat → gF → Prop} (M : gMv l E y bytes maxL rm (.ref b :: As) L f post) (wy : gWI Cn y bytes maxL n) (hl : Cond.methodLink own index y ∈ gW) (hn : As.length = n) (hst : st0 = As.reverse ++ .ref b :: rest) (hw : (rest.map fun v => v.category).sum ≤ 8) (hR : rm.frames + 1 ≤ R.frames ∧ 8 + (maxL + 11) + rm.locals ≤ R.locals) (hcs : cells + rm.cells ≤ R.cells ∧ slots + rm.slots ≤ R.slots) (hdg : decode cc pc = .ok (.invokespecial index, 3))
    (kk : ∀ (L1 : List Nat) (f1 : gF) (H1 : Heap) (locs1 : List Loc), post L1 f1 → gH E A L1 f1 H0 H1 locs1 → W p l e R s m args below meth c H1 locs1 (cells + rm.cells) (slots + rm.slots) Q (F0 m (pc + 3) ls rest)) : W p l e R s m args below meth c H locs cells slots Q (F0 m pc ls st0) :=
  g_callv hH hA (va_runI (As := As) (b := b) (rest := rest) ⟨C.1, C.2.1, C.2.2.1, C.2.2.2.1, C.2.2.2.2.1⟩ (M H.size) (cwI n C.2.2.2.2.1 (g_goodC wy.1.2.2) rfl rfl rfl (by rw [wy.2.1.1]; exact C.2.2.2.2.1 _ wy.1.2.1) (C.2.2.2.2.1 _ hl) (C.2.2.2.2.1 _ wy.1.1) wy.2.2 wy.2.1.2 hR) ⟨g_blind, g_pre C hH _⟩ rfl hn hls hst (lv_room hw) hdg hcs) kk
theorem g_INv (C : gC E cc nl own p s m args meth c) (hls : ls.size = nl) (hA : ∀ q, H0.size ≤ q → A q) (hH : gH E A L f H0 H locs) {Cn host : String} {y : MethodName} {bytes : ByteArray} {maxL n index : Nat} {rm : Room} {b : Nat} {As st0 : List Value} {post : List Nat → gF → Prop} (M : gMv l E y bytes maxL rm (.ref b :: As) L f post) (wy : gWI Cn y bytes maxL n) (hl : (own, index, y, host) ∈ gNest) (hn : As.length = n) (hst : st0 = As.reverse ++ .ref b :: rest) (hw : (rest.map fun v => v.category).sum ≤ 8) (hR : rm.frames + 1 ≤ R.frames ∧ 8 + (maxL + 11) + rm.locals ≤ R.locals) (hcs : cells + rm.cells ≤ R.cells ∧ slots + rm.slots ≤ R.slots) (hdg : decode cc pc = .ok (.invokespecial index, 3))
    (kk : ∀ (L1 : List Nat) (f1 : gF) (H1 : Heap) (locs1 : List Loc), post L1 f1 → gH E A L1 f1 H0 H1 locs1 → W p l e R s m args below meth c H1 locs1 (cells + rm.cells) (slots + rm.slots) Q (F0 m (pc + 3) ls rest)) : W p l e R s m args below meth c H locs cells slots Q (F0 m pc ls st0) :=
  g_callv hH hA (va_runIN (As := As) (b := b) (rest := rest) ⟨C.1, C.2.1, C.2.2.1, C.2.2.2.1, C.2.2.2.2.1⟩ (M H.size) ⟨va_cnB n C.2.2.2.2.1 (g_goodC wy.1.2.2) rfl rfl rfl (C.2.2.2.2.2.1.2.1 _ hl) (by rw [wy.2.1.1]; exact C.2.2.2.2.1 _ wy.1.2.1) wy.2.1.2 hR, wy.2.2, C.2.2.2.2.1 _ wy.1.1⟩ ⟨g_blind, g_pre C hH _⟩ rfl hn hls hst (lv_room hw) hdg hcs) kk
theorem g_SNi (C : gC E cc nl own p s m args meth c) (hls : ls.size = nl) (hA : ∀ q, H0.size ≤ q → A q) (hH : gH E A L f H0 H locs) {Cn host : String} {y : MethodName} {bytes : ByteArray} {maxL n index : Nat} {ret : FieldType} {rm : Room} {As st0 : List Value} {post : Int32 → List Nat → gF → Prop} (M : gMi l E y bytes maxL ret rm As L f post) (wy : gWS Cn y bytes maxL (some ret) n) (hl : (own, index, y, host) ∈ gNest) (hn : As.length = n) (hst : st0 = As.reverse ++ rest) (hw : (rest.map fun v => v.category).sum ≤ 8) (hR : rm.frames + 1 ≤ R.frames ∧ 8 + (maxL + 11) + rm.locals ≤ R.locals) (hcs : cells + rm.cells ≤ R.cells ∧ slots + rm.slots ≤ R.slots) (hdg : decode cc pc = .ok (.invokestatic index, 3))
    (kk : ∀ (r : Int32) (L1 : List Nat) (f1 : gF) (H1 : Heap) (locs1 : List Loc), post r L1 f1 → gH E A L1 f1 H0 H1 locs1 → W p l e R s m args below meth c H1 locs1 (cells + rm.cells) (slots + rm.slots) Q (F0 m (pc + 3) ls (.int r :: rest))) : W p l e R s m args below meth c H locs cells slots Q (F0 m pc ls st0) :=
  g_calli hH hA (va_runSN (As := As) (rest := rest) ⟨C.1, C.2.1, C.2.2.1, C.2.2.2.1, C.2.2.2.2.1⟩ (M H.size) ⟨va_cnB n C.2.2.2.2.1 (g_goodC wy.1.2.2) rfl rfl rfl (C.2.2.2.2.2.1.2.1 _ hl) (by rw [wy.2.1]; exact C.2.2.2.2.1 _ wy.1.2.1) wy.2.2 hR, C.2.2.2.2.1 _ wy.1.1, trivial⟩ ⟨g_blind, g_pre C hH _⟩ rfl hn hls hst (lv_room hw) hdg hcs) kk
theorem g_iret {mc ms : Nat} {r : Int32} {post : Int32 → List Nat → gF → Prop} (C : gC E cc nl own p s m args meth c) (hr : meth.sig.returnType = some .int) (hH : gH E A L f s.heap H locs) (hc : cells ≤ mc) (hs : slots ≤ ms) (hdg : decode cc pc = .ok (.ireturn, 1)) (hp : post r L f) : W p l e R s m args below meth c H locs cells slots (MQ below (gQi E A post) args s mc ms A) (F0 m pc ls [.int r]) := by
  obtain ⟨hx, hb, hml, hown, hts, hK, hlocks⟩ := C
  refine W.widen (k := mc) (n := ms) hc hs ?_
  exact W.iret hx hb hr (fun t ht hW => ⟨⟨r, (L, f), rfl, hp, by rw [ht]; exact hH.1, hH.2.1⟩, hH.2.2.F ht⟩) hH.2.2.2.2 hdg
theorem g_zret {mc ms : Nat} {r : Int32} {ty : FieldType} {post : Int32 → List Nat → gF → Prop} (C : gC E cc nl own p s m args meth c) (hr : meth.sig.returnType = some ty) (hn : narrow ty (.int r) = .int r) (hH : gH E A L f s.heap H locs) (hc : cells ≤ mc) (hs : slots ≤ ms) (hdg : decode cc pc = .ok (.ireturn, 1)) (hp : post r L f) : W p l e R s m args below meth c H locs cells slots (MQ below (gQi E A post) args s mc ms A) (F0 m pc ls [.int r]) := by
  obtain ⟨hx, hb, hml, hown, hts, hK, hlocks⟩ := C
  refine W.widen (k := mc) (n := ms) hc hs ?_
  exact W.zret hx hb hr hn (fun t ht hW => ⟨⟨r, (L, f), rfl, hp, by rw [ht]; exact hH.1, hH.2.1⟩, hH.2.2.F ht⟩) hH.2.2.2.2 hdg
theorem g_vret {mc ms : Nat} {post : List Nat → gF → Prop} (C : gC E cc nl own p s m args meth c) (hr : meth.sig.returnType = none) (hH : gH E A L f s.heap H locs) (hc : cells ≤ mc) (hs : slots ≤ ms) (hdg : decode cc pc = .ok (.return_, 1)) (hp : post L f) : W p l e R s m args below meth c H locs cells slots (MQ below (gQv E A post) args s mc ms A) (F0 m pc ls []) := by
  obtain ⟨hx, hb, hml, hown, hts, hK, hlocks⟩ := C
  refine W.widen (k := mc) (n := ms) hc hs ?_
  exact W.vret hx hb hr (fun t ht hW => ⟨⟨(L, f), rfl, hp, by rw [ht]; exact hH.1, hH.2.1⟩, hH.2.2.F ht⟩) hH.2.2.2.2 hdg
end GC
theorem gMi.intro {l : Launch} {E : gE} {y : MethodName} {cc : ByteArray} {nl : Nat} {ret : FieldType} {rm : Room} {av : List Value} {L : List Nat} {f : gF} {post : Int32 → List Nat → gF → Prop} (hy : plainName y.cls = true) (hn : (lg_sl av).length ≤ nl)
    (body : ∀ (p : Program) (e : Env) (s : State) (m : MethodId) (below : List Frame) (meth : Method) (c : Code) (A : Nat → Prop) (ls : Array Slot), gC E cc nl y.cls p s m av.toArray meth c → meth.sig.returnType = some ret → (∀ q, s.heap.size ≤ q → A q) → gH E A L f s.heap s.heap [] → lv_has ls nl (lv_args 0 av) → W p l e rm s m av.toArray below meth c s.heap [] 0 0 (MQ below (gQi E A post) av.toArray s rm.cells rm.slots A) (F0 m 0 ls [])) : gMi l E y cc nl ret rm av L f post := by
  intro sz
  refine Met.ofW (cc := cc) (maxL := nl) (ret := some ret) hy rfl ?_
  intro p e s m args below meth c s₁ B hml hv
  obtain ⟨rfl, hsz, hP, hK, hD0⟩ := hv
  have hts := atoms_spec (ws := .code y cc nl (some ret) :: gW) B.pre
  subst hsz
  have hl := lv_entry av hn
  rw [lg_entry_eq]
  exact body p e s m below meth c _ _ ⟨B.exec, B.bytes, hml, findClass_of_methodNamed B.named, fun w h => hts w (List.mem_cons_of_mem _ h), hK, B.notSynchronized⟩ B.returns (fun q h => Or.inr h) ⟨hP, hD0.self, va_S.rf⟩ hl
theorem gMv.intro {l : Launch} {E : gE} {y : MethodName} {cc : ByteArray} {nl : Nat} {rm : Room} {av : List Value} {L : List Nat} {f : gF} {post : List Nat → gF → Prop} (hy : plainName y.cls = true) (hn : (lg_sl av).length ≤ nl)
    (body : ∀ (p : Program) (e : Env) (s : State) (m : MethodId) (below : List Frame) (meth : Method) (c : Code) (A : Nat → Prop) (ls : Array Slot), gC E cc nl y.cls p s m av.toArray meth c → meth.sig.returnType = none → meth.name = y.name → (∀ q, s.heap.size ≤ q → A q) → gH E A L f s.heap s.heap [] → lv_has ls nl (lv_args 0 av) → W p l e rm s m av.toArray below meth c s.heap [] 0 0 (MQ below (gQv E A post) av.toArray s rm.cells rm.slots A) (F0 m 0 ls [])) : gMv l E y cc nl rm av L f post := by
  intro sz
  refine Met.ofW (cc := cc) (maxL := nl) (ret := none) hy rfl ?_
  intro p e s m args below meth c s₁ B hml hv
  obtain ⟨rfl, hsz, hP, hK, hD0⟩ := hv
  have hts := atoms_spec (ws := .code y cc nl none :: gW) B.pre
  subst hsz
  have hl := lv_entry av hn
  rw [lg_entry_eq]
  exact body p e s m below meth c _ _ ⟨B.exec, B.bytes, hml, findClass_of_methodNamed B.named, fun w h => hts w (List.mem_cons_of_mem _ h), hK, B.notSynchronized⟩ B.returns (name_of_methodNamed B.named B.method).1 (fun q h => Or.inr h) ⟨hP, hD0.self, va_S.rf⟩ hl
abbrev gRO (v : Int32) (L : List Nat) (f : gF) : Int32 → List Nat → gF → Prop := fun r L1 f1 => r = v ∧ L = L1 ∧ f = f1
theorem avB (n : Nat) : ∀ z : ClassId, vp_cell z (n, .inl (fun _ => 0)) = arrV z n (fun _ => defaultValue .byte) := fun _ => rfl
theorem avI (n : Nat) : ∀ z : ClassId, vp_cell z (n, .inl (fun _ => 0)) = arrV z n (fun _ => defaultValue .int) := fun _ => rfl
theorem avZ (n : Nat) : ∀ z : ClassId, vp_cell z (n, .inl (fun _ => 0)) = arrV z n (fun _ => defaultValue .boolean) := fun _ => rfl
theorem avJ (n : Nat) : ∀ z : ClassId, vp_cell z (n, .inr (.inl (fun _ => 0))) = arrV z n (fun _ => defaultValue .long) := fun _ => rfl
theorem vp_inL {i : Int32} {n : Nat} (h : (0 : Int) ≤ i.toInt ∧ i.toInt < (n : Int)) : vp_in i n := vp_in_iff.mpr h
def gSlot (z : Int32) : Int32 := if z < 0 then 0 else if 4 ≤ z then 0 else 1
theorem g_neN {f : gF} {a b n m : Nat} {cA cB : ClassId} {x y : (Nat → Int32) ⊕ ((Nat → Int64) ⊕ ((Nat → UInt32) ⊕ ((Nat → UInt64) ⊕ (Nat → Option Nat))))} (h1 : f a = .inl (cA, n, x)) (h2 : f b = .inl (cB, m, y)) (h : n ≠ m) : a ≠ b := g_ne h1 h2 (fun e => h (congrArg (fun q : ClassId × vp_A => q.2.1) (Sum.inl.inj e)))
theorem g_arrUpI {f f2 : gF} {a b n m : Nat} {u v w : Nat → Int32} {cA : ClassId} (e : f2 = va_up f b (.inl (cA, m, .inl w))) (ha : f a = .inl (cA, n, .inl u)) (hb : f b = .inl (cA, m, .inl v)) : ∃ z, f2 a = .inl (cA, n, .inl z) := by
  by_cases h : a = b
  · subst h
    rw [ha] at hb
    have h2 : n = m := congrArg (fun q : ClassId × vp_A => q.2.1) (Sum.inl.inj hb)
    subst h2
    exact ⟨w, (congrFun e a).trans (va_up_self _ _ _)⟩
  · exact ⟨u, ((congrFun e a).trans (va_up_ne _ _ h)).trans ha⟩
def gLen (i : Nat) : Nat := [4, 4, 4, 6, 6, 6, 40, 40, 20, 80].getD i 0
def gArrs (E : gE) (L : List Nat) (f : gF) (na : Nat → Nat) : Prop := ∀ i, i < 10 → na i ∈ L ∧ ∃ v, f (na i) = .inl (E.2.2 1, gLen i, .inl v)
theorem gArrs_upO {E : gE} {L : List Nat} {f f2 : gF} {na : Nat → Nat} {q ci : Nat} {x : List Value} {y : va_E} (e : f2 = va_up f q y) (hq : f q = .inr (ci, x)) (h : gArrs E L f na) : gArrs E L f2 na := fun i hi => by
  obtain ⟨h1, v, h2⟩ := h i hi
  exact ⟨h1, v, ((congrFun e _).trans (va_up_ne _ _ (g_neAO h2 hq))).trans h2⟩
theorem gArrs_upI {E : gE} {L : List Nat} {f f2 : gF} {na : Nat → Nat} {q m : Nat} {u w : Nat → Int32} (e : f2 = va_up f q (.inl (E.2.2 1, m, .inl w))) (hq : f q = .inl (E.2.2 1, m, .inl u)) (h : gArrs E L f na) : gArrs E L f2 na := fun i hi => by
  obtain ⟨h1, v, h2⟩ := h i hi
  obtain ⟨z, hz⟩ := g_arrUpI e h2 hq
  exact ⟨h1, z, hz⟩
theorem g_sw (x : Int32) (lo hi : Int) (h : lo ≤ hi) : (x.toInt < lo ∨ hi < x.toInt) ∨ ∃ j : Nat, (j : Int) ≤ hi - lo ∧ x.toInt = lo + (j : Int) := by
  by_cases h1 : x.toInt < lo
  · exact Or.inl (Or.inl h1)
  · by_cases h2 : hi < x.toInt
    · exact Or.inl (Or.inr h2)
    · exact Or.inr ⟨(x.toInt - lo).toNat, by omega, by omega⟩
theorem g_swE {x v : Int32} {z : Int} (h : x.toInt = z) (hv : v.toInt = z) : x = v := Int32.toInt_inj.mp (h.trans hv.symm)
end
section
theorem dX3_cells_0 : decode cX3_cells 0 = .ok (.aload_n 0, 1) := by decide +kernel
theorem dX3_cells_1 : decode cX3_cells 1 = .ok (.getfield 46, 3) := by decide +kernel
theorem dX3_cells_4 : decode cX3_cells 4 = .ok (.aload_n 0, 1) := by decide +kernel
theorem dX3_cells_5 : decode cX3_cells 5 = .ok (.getfield 49, 3) := by decide +kernel
theorem dX3_cells_8 : decode cX3_cells 8 = .ok (.imul, 1) := by decide +kernel
theorem dX3_cells_9 : decode cX3_cells 9 = .ok (.ireturn, 1) := by decide +kernel
theorem dX3_hasCell_0 : decode cX3_hasCell 0 = .ok (.iload_n 1, 1) := by decide +kernel
theorem dX3_hasCell_1 : decode cX3_hasCell 1 = .ok (.ifCond .lt 15, 3) := by decide +kernel
theorem dX3_hasCell_4 : decode cX3_hasCell 4 = .ok (.iload_n 1, 1) := by decide +kernel
theorem dX3_hasCell_5 : decode cX3_hasCell 5 = .ok (.aload_n 0, 1) := by decide +kernel
theorem dX3_hasCell_6 : decode cX3_hasCell 6 = .ok (.invokevirtual 79, 3) := by decide +kernel
theorem dX3_hasCell_9 : decode cX3_hasCell 9 = .ok (.if_icmp .ge 7, 3) := by decide +kernel
theorem dX3_hasCell_16 : decode cX3_hasCell 16 = .ok (.iconst 0, 1) := by decide +kernel
theorem dX3_hasCell_17 : decode cX3_hasCell 17 = .ok (.ireturn, 1) := by decide +kernel
theorem dX3_hasFlight_0 : decode cX3_hasFlight 0 = .ok (.iload_n 1, 1) := by decide +kernel
theorem dX3_hasFlight_1 : decode cX3_hasFlight 1 = .ok (.ifCond .lt 15, 3) := by decide +kernel
theorem dX3_hasFlight_4 : decode cX3_hasFlight 4 = .ok (.iload_n 1, 1) := by decide +kernel
theorem dX3_hasFlight_5 : decode cX3_hasFlight 5 = .ok (.aload_n 0, 1) := by decide +kernel
theorem dX3_hasFlight_6 : decode cX3_hasFlight 6 = .ok (.getfield 61, 3) := by decide +kernel
theorem dX3_hasFlight_9 : decode cX3_hasFlight 9 = .ok (.if_icmp .ge 7, 3) := by decide +kernel
theorem dX3_hasFlight_16 : decode cX3_hasFlight 16 = .ok (.iconst 0, 1) := by decide +kernel
theorem dX3_hasFlight_17 : decode cX3_hasFlight 17 = .ok (.ireturn, 1) := by decide +kernel
theorem dX3_hasMember_0 : decode cX3_hasMember 0 = .ok (.iload_n 1, 1) := by decide +kernel
theorem dX3_hasMember_1 : decode cX3_hasMember 1 = .ok (.ifCond .lt 15, 3) := by decide +kernel
theorem dX3_hasMember_4 : decode cX3_hasMember 4 = .ok (.iload_n 1, 1) := by decide +kernel
theorem dX3_hasMember_5 : decode cX3_hasMember 5 = .ok (.aload_n 0, 1) := by decide +kernel
theorem dX3_hasMember_6 : decode cX3_hasMember 6 = .ok (.getfield 64, 3) := by decide +kernel
theorem dX3_hasMember_9 : decode cX3_hasMember 9 = .ok (.if_icmp .ge 7, 3) := by decide +kernel
theorem dX3_hasMember_16 : decode cX3_hasMember 16 = .ok (.iconst 0, 1) := by decide +kernel
theorem dX3_hasMember_17 : decode cX3_hasMember 17 = .ok (.ireturn, 1) := by decide +kernel
theorem dX3_hasSet_0 : decode cX3_hasSet 0 = .ok (.aload_n 0, 1) := by decide +kernel
theorem dX3_hasSet_1 : decode cX3_hasSet 1 = .ok (.invokevirtual 99, 3) := by decide +kernel
theorem dX3_hasSet_4 : decode cX3_hasSet 4 = .ok (.ifCond .ne 19, 3) := by decide +kernel
theorem dX3_hasSet_23 : decode cX3_hasSet 23 = .ok (.iconst 0, 1) := by decide +kernel
theorem dX3_hasSet_24 : decode cX3_hasSet 24 = .ok (.ireturn, 1) := by decide +kernel
theorem dX3_isNone_0 : decode cX3_isNone 0 = .ok (.aload_n 0, 1) := by decide +kernel
theorem dX3_isNone_1 : decode cX3_isNone 1 = .ok (.getfield 42, 3) := by decide +kernel
theorem dX3_isNone_4 : decode cX3_isNone 4 = .ok (.ifCond .ne 7, 3) := by decide +kernel
theorem dX3_isNone_7 : decode cX3_isNone 7 = .ok (.iconst 1, 1) := by decide +kernel
theorem dX3_isNone_8 : decode cX3_isNone 8 = .ok (.goto 4, 3) := by decide +kernel
theorem dX3_isNone_12 : decode cX3_isNone 12 = .ok (.ireturn, 1) := by decide +kernel
theorem dX9_anew_0 : decode cX9_anew 0 = .ok (.aload_n 0, 1) := by decide +kernel
theorem dX9_anew_1 : decode cX9_anew 1 = .ok (.getfield 19, 3) := by decide +kernel
theorem dX9_anew_4 : decode cX9_anew 4 = .ok (.invokevirtual 141, 3) := by decide +kernel
theorem dX9_anew_7 : decode cX9_anew 7 = .ok (.ifCond .eq 6, 3) := by decide +kernel
theorem dX9_anew_10 : decode cX9_anew 10 = .ok (.bipush (-2), 2) := by decide +kernel
theorem dX9_anew_12 : decode cX9_anew 12 = .ok (.ireturn, 1) := by decide +kernel
theorem dX9_areTwo_0 : decode cX9_areTwo 0 = .ok (.aload_n 0, 1) := by decide +kernel
theorem dX9_areTwo_1 : decode cX9_areTwo 1 = .ok (.getfield 19, 3) := by decide +kernel
theorem dX9_areTwo_4 : decode cX9_areTwo 4 = .ok (.iload_n 1, 1) := by decide +kernel
theorem dX9_areTwo_5 : decode cX9_areTwo 5 = .ok (.invokevirtual 130, 3) := by decide +kernel
theorem dX9_areTwo_8 : decode cX9_areTwo 8 = .ok (.ifCond .eq 23, 3) := by decide +kernel
theorem dX9_areTwo_31 : decode cX9_areTwo 31 = .ok (.iconst 0, 1) := by decide +kernel
theorem dX9_areTwo_32 : decode cX9_areTwo 32 = .ok (.ireturn, 1) := by decide +kernel
theorem dX9_ask_0 : decode cX9_ask 0 = .ok (.aload_n 0, 1) := by decide +kernel
theorem dX9_ask_1 : decode cX9_ask 1 = .ok (.iload_n 1, 1) := by decide +kernel
theorem dX9_ask_2 : decode cX9_ask 2 = .ok (.invokevirtual 268, 3) := by decide +kernel
theorem dX9_ask_5 : decode cX9_ask 5 = .ok (.istore_n 2, 1) := by decide +kernel
theorem dX9_ask_6 : decode cX9_ask 6 = .ok (.iload_n 2, 1) := by decide +kernel
theorem dX9_ask_7 : decode cX9_ask 7 = .ok (.ifCond .eq 7, 3) := by decide +kernel
theorem dX9_ask_10 : decode cX9_ask 10 = .ok (.iload_n 2, 1) := by decide +kernel
theorem dX9_ask_11 : decode cX9_ask 11 = .ok (.goto 23, 3) := by decide +kernel
theorem dX9_ask_34 : decode cX9_ask 34 = .ok (.ireturn, 1) := by decide +kernel
theorem dX9_at_0 : decode cX9_at 0 = .ok (.aload_n 0, 1) := by decide +kernel
theorem dX9_at_1 : decode cX9_at 1 = .ok (.getfield 19, 3) := by decide +kernel
theorem dX9_at_4 : decode cX9_at 4 = .ok (.iload_n 1, 1) := by decide +kernel
theorem dX9_at_5 : decode cX9_at 5 = .ok (.invokevirtual 116, 3) := by decide +kernel
theorem dX9_at_8 : decode cX9_at 8 = .ok (.ifCond .eq 10, 3) := by decide +kernel
theorem dX9_at_18 : decode cX9_at 18 = .ok (.bipush (-2), 2) := by decide +kernel
theorem dX9_at_20 : decode cX9_at 20 = .ok (.ireturn, 1) := by decide +kernel
theorem dX9_began_0 : decode cX9_began 0 = .ok (.aload_n 0, 1) := by decide +kernel
theorem dX9_began_1 : decode cX9_began 1 = .ok (.iload_n 1, 1) := by decide +kernel
theorem dX9_began_2 : decode cX9_began 2 = .ok (.invokevirtual 278, 3) := by decide +kernel
theorem dX9_began_5 : decode cX9_began 5 = .ok (.istore_n 2, 1) := by decide +kernel
theorem dX9_began_6 : decode cX9_began 6 = .ok (.iload_n 2, 1) := by decide +kernel
theorem dX9_began_7 : decode cX9_began 7 = .ok (.ifCond .eq 7, 3) := by decide +kernel
theorem dX9_began_10 : decode cX9_began 10 = .ok (.iload_n 2, 1) := by decide +kernel
theorem dX9_began_11 : decode cX9_began 11 = .ok (.goto 16, 3) := by decide +kernel
theorem dX9_began_27 : decode cX9_began 27 = .ok (.ireturn, 1) := by decide +kernel
theorem dX9_bends_0 : decode cX9_bends 0 = .ok (.aload_n 0, 1) := by decide +kernel
theorem dX9_bends_1 : decode cX9_bends 1 = .ok (.getfield 19, 3) := by decide +kernel
theorem dX9_bends_4 : decode cX9_bends 4 = .ok (.iload_n 1, 1) := by decide +kernel
theorem dX9_bends_5 : decode cX9_bends 5 = .ok (.invokevirtual 116, 3) := by decide +kernel
theorem dX9_bends_8 : decode cX9_bends 8 = .ok (.ifCond .ne 6, 3) := by decide +kernel
theorem dX9_bends_11 : decode cX9_bends 11 = .ok (.bipush (-2), 2) := by decide +kernel
theorem dX9_bends_13 : decode cX9_bends 13 = .ok (.ireturn, 1) := by decide +kernel
theorem dX9_best_0 : decode cX9_best 0 = .ok (.aload_n 0, 1) := by decide +kernel
theorem dX9_best_1 : decode cX9_best 1 = .ok (.getfield 19, 3) := by decide +kernel
theorem dX9_best_4 : decode cX9_best 4 = .ok (.invokevirtual 141, 3) := by decide +kernel
theorem dX9_best_7 : decode cX9_best 7 = .ok (.ifCond .ne 10, 3) := by decide +kernel
theorem dX9_best_17 : decode cX9_best 17 = .ok (.bipush (-2), 2) := by decide +kernel
theorem dX9_best_19 : decode cX9_best 19 = .ok (.ireturn, 1) := by decide +kernel
theorem dX9_bests_0 : decode cX9_bests 0 = .ok (.aload_n 0, 1) := by decide +kernel
theorem dX9_bests_1 : decode cX9_bests 1 = .ok (.getfield 19, 3) := by decide +kernel
theorem dX9_bests_4 : decode cX9_bests 4 = .ok (.invokevirtual 141, 3) := by decide +kernel
theorem dX9_bests_7 : decode cX9_bests 7 = .ok (.ifCond .ne 10, 3) := by decide +kernel
theorem dX9_bests_17 : decode cX9_bests 17 = .ok (.bipush (-2), 2) := by decide +kernel
theorem dX9_bests_19 : decode cX9_bests 19 = .ok (.ireturn, 1) := by decide +kernel
theorem dX9_by_0 : decode cX9_by 0 = .ok (.aload_n 0, 1) := by decide +kernel
theorem dX9_by_1 : decode cX9_by 1 = .ok (.getfield 19, 3) := by decide +kernel
theorem dX9_by_4 : decode cX9_by 4 = .ok (.invokevirtual 141, 3) := by decide +kernel
theorem dX9_by_7 : decode cX9_by 7 = .ok (.ifCond .ne 12, 3) := by decide +kernel
theorem dX9_by_19 : decode cX9_by 19 = .ok (.bipush (-2), 2) := by decide +kernel
theorem dX9_by_21 : decode cX9_by 21 = .ok (.ireturn, 1) := by decide +kernel
theorem dX9_calls_0 : decode cX9_calls 0 = .ok (.aload_n 0, 1) := by decide +kernel
theorem dX9_calls_1 : decode cX9_calls 1 = .ok (.getfield 19, 3) := by decide +kernel
theorem dX9_calls_4 : decode cX9_calls 4 = .ok (.invokevirtual 141, 3) := by decide +kernel
theorem dX9_calls_7 : decode cX9_calls 7 = .ok (.ifCond .ne 10, 3) := by decide +kernel
theorem dX9_calls_17 : decode cX9_calls 17 = .ok (.bipush (-2), 2) := by decide +kernel
theorem dX9_calls_19 : decode cX9_calls 19 = .ok (.ireturn, 1) := by decide +kernel
theorem dX9_chance_0 : decode cX9_chance 0 = .ok (.aload_n 0, 1) := by decide +kernel
theorem dX9_chance_1 : decode cX9_chance 1 = .ok (.getfield 19, 3) := by decide +kernel
theorem dX9_chance_4 : decode cX9_chance 4 = .ok (.iload_n 1, 1) := by decide +kernel
theorem dX9_chance_5 : decode cX9_chance 5 = .ok (.invokevirtual 130, 3) := by decide +kernel
theorem dX9_chance_8 : decode cX9_chance 8 = .ok (.ifCond .eq 10, 3) := by decide +kernel
theorem dX9_chance_18 : decode cX9_chance 18 = .ok (.bipush (-2), 2) := by decide +kernel
theorem dX9_chance_20 : decode cX9_chance 20 = .ok (.ireturn, 1) := by decide +kernel
theorem dX9_cut_0 : decode cX9_cut 0 = .ok (.aload_n 0, 1) := by decide +kernel
theorem dX9_cut_1 : decode cX9_cut 1 = .ok (.getfield 19, 3) := by decide +kernel
theorem dX9_cut_4 : decode cX9_cut 4 = .ok (.iload_n 1, 1) := by decide +kernel
theorem dX9_cut_5 : decode cX9_cut 5 = .ok (.invokevirtual 130, 3) := by decide +kernel
theorem dX9_cut_8 : decode cX9_cut 8 = .ok (.ifCond .eq 10, 3) := by decide +kernel
theorem dX9_cut_18 : decode cX9_cut 18 = .ok (.bipush (-2), 2) := by decide +kernel
theorem dX9_cut_20 : decode cX9_cut 20 = .ok (.ireturn, 1) := by decide +kernel
theorem dX9_drawn_0 : decode cX9_drawn 0 = .ok (.aload_n 0, 1) := by decide +kernel
theorem dX9_drawn_1 : decode cX9_drawn 1 = .ok (.getfield 19, 3) := by decide +kernel
theorem dX9_drawn_4 : decode cX9_drawn 4 = .ok (.invokevirtual 141, 3) := by decide +kernel
theorem dX9_drawn_7 : decode cX9_drawn 7 = .ok (.ifCond .ne 19, 3) := by decide +kernel
theorem dX9_drawn_26 : decode cX9_drawn 26 = .ok (.bipush (-2), 2) := by decide +kernel
theorem dX9_drawn_28 : decode cX9_drawn 28 = .ok (.ireturn, 1) := by decide +kernel
theorem dX9_ears_0 : decode cX9_ears 0 = .ok (.aload_n 0, 1) := by decide +kernel
theorem dX9_ears_1 : decode cX9_ears 1 = .ok (.getfield 19, 3) := by decide +kernel
theorem dX9_ears_4 : decode cX9_ears 4 = .ok (.iload_n 1, 1) := by decide +kernel
theorem dX9_ears_5 : decode cX9_ears 5 = .ok (.invokevirtual 170, 3) := by decide +kernel
theorem dX9_ears_8 : decode cX9_ears 8 = .ok (.ifCond .ne 6, 3) := by decide +kernel
theorem dX9_ears_11 : decode cX9_ears 11 = .ok (.bipush (-2), 2) := by decide +kernel
theorem dX9_ears_13 : decode cX9_ears 13 = .ok (.ireturn, 1) := by decide +kernel
theorem dX9_farthest_0 : decode cX9_farthest 0 = .ok (.aload_n 0, 1) := by decide +kernel
theorem dX9_farthest_1 : decode cX9_farthest 1 = .ok (.getfield 19, 3) := by decide +kernel
theorem dX9_farthest_4 : decode cX9_farthest 4 = .ok (.iload_n 1, 1) := by decide +kernel
theorem dX9_farthest_5 : decode cX9_farthest 5 = .ok (.invokevirtual 116, 3) := by decide +kernel
theorem dX9_farthest_8 : decode cX9_farthest 8 = .ok (.ifCond .ne 6, 3) := by decide +kernel
theorem dX9_farthest_11 : decode cX9_farthest 11 = .ok (.bipush (-2), 2) := by decide +kernel
theorem dX9_farthest_13 : decode cX9_farthest 13 = .ok (.ireturn, 1) := by decide +kernel
theorem dX9_fewest_0 : decode cX9_fewest 0 = .ok (.aload_n 0, 1) := by decide +kernel
theorem dX9_fewest_1 : decode cX9_fewest 1 = .ok (.getfield 19, 3) := by decide +kernel
theorem dX9_fewest_4 : decode cX9_fewest 4 = .ok (.iload_n 1, 1) := by decide +kernel
theorem dX9_fewest_5 : decode cX9_fewest 5 = .ok (.invokevirtual 238, 3) := by decide +kernel
theorem dX9_fewest_8 : decode cX9_fewest 8 = .ok (.ifCond .ne 6, 3) := by decide +kernel
theorem dX9_fewest_11 : decode cX9_fewest 11 = .ok (.bipush (-2), 2) := by decide +kernel
theorem dX9_fewest_13 : decode cX9_fewest 13 = .ok (.ireturn, 1) := by decide +kernel
theorem dX9_first_0 : decode cX9_first 0 = .ok (.aload_n 0, 1) := by decide +kernel
theorem dX9_first_1 : decode cX9_first 1 = .ok (.getfield 19, 3) := by decide +kernel
theorem dX9_first_4 : decode cX9_first 4 = .ok (.invokevirtual 141, 3) := by decide +kernel
theorem dX9_first_7 : decode cX9_first 7 = .ok (.ifCond .eq 6, 3) := by decide +kernel
theorem dX9_first_10 : decode cX9_first 10 = .ok (.bipush (-2), 2) := by decide +kernel
theorem dX9_first_12 : decode cX9_first 12 = .ok (.ireturn, 1) := by decide +kernel
theorem dX9_flight_0 : decode cX9_flight 0 = .ok (.aload_n 0, 1) := by decide +kernel
theorem dX9_flight_1 : decode cX9_flight 1 = .ok (.getfield 19, 3) := by decide +kernel
theorem dX9_flight_4 : decode cX9_flight 4 = .ok (.iload_n 1, 1) := by decide +kernel
theorem dX9_flight_5 : decode cX9_flight 5 = .ok (.invokevirtual 116, 3) := by decide +kernel
theorem dX9_flight_8 : decode cX9_flight 8 = .ok (.ifCond .ne 6, 3) := by decide +kernel
theorem dX9_flight_11 : decode cX9_flight 11 = .ok (.bipush (-2), 2) := by decide +kernel
theorem dX9_flight_13 : decode cX9_flight 13 = .ok (.ireturn, 1) := by decide +kernel
theorem dX9_flown_0 : decode cX9_flown 0 = .ok (.aload_n 0, 1) := by decide +kernel
theorem dX9_flown_1 : decode cX9_flown 1 = .ok (.getfield 19, 3) := by decide +kernel
theorem dX9_flown_4 : decode cX9_flown 4 = .ok (.invokevirtual 141, 3) := by decide +kernel
theorem dX9_flown_7 : decode cX9_flown 7 = .ok (.ifCond .ne 19, 3) := by decide +kernel
theorem dX9_flown_26 : decode cX9_flown 26 = .ok (.bipush (-2), 2) := by decide +kernel
theorem dX9_flown_28 : decode cX9_flown 28 = .ok (.ireturn, 1) := by decide +kernel
theorem dX9_geese_0 : decode cX9_geese 0 = .ok (.aload_n 0, 1) := by decide +kernel
theorem dX9_geese_1 : decode cX9_geese 1 = .ok (.getfield 19, 3) := by decide +kernel
theorem dX9_geese_4 : decode cX9_geese 4 = .ok (.iload_n 1, 1) := by decide +kernel
theorem dX9_geese_5 : decode cX9_geese 5 = .ok (.invokevirtual 170, 3) := by decide +kernel
theorem dX9_geese_8 : decode cX9_geese 8 = .ok (.ifCond .eq 10, 3) := by decide +kernel
theorem dX9_geese_18 : decode cX9_geese 18 = .ok (.bipush (-2), 2) := by decide +kernel
theorem dX9_geese_20 : decode cX9_geese 20 = .ok (.ireturn, 1) := by decide +kernel
theorem dX9_has_0 : decode cX9_has 0 = .ok (.aload_n 0, 1) := by decide +kernel
theorem dX9_has_1 : decode cX9_has 1 = .ok (.iload_n 1, 1) := by decide +kernel
theorem dX9_has_2 : decode cX9_has 2 = .ok (.iload_n 2, 1) := by decide +kernel
theorem dX9_has_3 : decode cX9_has 3 = .ok (.invokevirtual 333, 3) := by decide +kernel
theorem dX9_has_6 : decode cX9_has 6 = .ok (.ifCond .eq 18, 3) := by decide +kernel
theorem dX9_has_24 : decode cX9_has 24 = .ok (.sipush (-1000), 3) := by decide +kernel
theorem dX9_has_27 : decode cX9_has 27 = .ok (.ireturn, 1) := by decide +kernel
theorem dX9_heads_0 : decode cX9_heads 0 = .ok (.aload_n 0, 1) := by decide +kernel
theorem dX9_heads_1 : decode cX9_heads 1 = .ok (.getfield 19, 3) := by decide +kernel
theorem dX9_heads_4 : decode cX9_heads 4 = .ok (.iload_n 1, 1) := by decide +kernel
theorem dX9_heads_5 : decode cX9_heads 5 = .ok (.invokevirtual 116, 3) := by decide +kernel
theorem dX9_heads_8 : decode cX9_heads 8 = .ok (.ifCond .eq 10, 3) := by decide +kernel
theorem dX9_heads_18 : decode cX9_heads 18 = .ok (.bipush (-2), 2) := by decide +kernel
theorem dX9_heads_20 : decode cX9_heads 20 = .ok (.ireturn, 1) := by decide +kernel
theorem dX9_heard_0 : decode cX9_heard 0 = .ok (.aload_n 0, 1) := by decide +kernel
theorem dX9_heard_1 : decode cX9_heard 1 = .ok (.getfield 19, 3) := by decide +kernel
theorem dX9_heard_4 : decode cX9_heard 4 = .ok (.iload_n 1, 1) := by decide +kernel
theorem dX9_heard_5 : decode cX9_heard 5 = .ok (.invokevirtual 130, 3) := by decide +kernel
theorem dX9_heard_8 : decode cX9_heard 8 = .ok (.ifCond .ne 6, 3) := by decide +kernel
theorem dX9_heard_11 : decode cX9_heard 11 = .ok (.bipush (-2), 2) := by decide +kernel
theorem dX9_heard_13 : decode cX9_heard 13 = .ok (.ireturn, 1) := by decide +kernel
theorem dX9_hears_0 : decode cX9_hears 0 = .ok (.aload_n 0, 1) := by decide +kernel
theorem dX9_hears_1 : decode cX9_hears 1 = .ok (.getfield 19, 3) := by decide +kernel
theorem dX9_hears_4 : decode cX9_hears 4 = .ok (.iload_n 1, 1) := by decide +kernel
theorem dX9_hears_5 : decode cX9_hears 5 = .ok (.invokevirtual 130, 3) := by decide +kernel
theorem dX9_hears_8 : decode cX9_hears 8 = .ok (.ifCond .eq 14, 3) := by decide +kernel
theorem dX9_hears_22 : decode cX9_hears 22 = .ok (.bipush (-2), 2) := by decide +kernel
theorem dX9_hears_24 : decode cX9_hears 24 = .ok (.ireturn, 1) := by decide +kernel
theorem dX9_home_0 : decode cX9_home 0 = .ok (.aload_n 0, 1) := by decide +kernel
theorem dX9_home_1 : decode cX9_home 1 = .ok (.getfield 19, 3) := by decide +kernel
theorem dX9_home_4 : decode cX9_home 4 = .ok (.iload_n 1, 1) := by decide +kernel
theorem dX9_home_5 : decode cX9_home 5 = .ok (.invokevirtual 130, 3) := by decide +kernel
theorem dX9_home_8 : decode cX9_home 8 = .ok (.ifCond .ne 6, 3) := by decide +kernel
theorem dX9_home_11 : decode cX9_home 11 = .ok (.bipush (-2), 2) := by decide +kernel
theorem dX9_home_13 : decode cX9_home 13 = .ok (.ireturn, 1) := by decide +kernel
theorem dX9_homes_0 : decode cX9_homes 0 = .ok (.aload_n 0, 1) := by decide +kernel
theorem dX9_homes_1 : decode cX9_homes 1 = .ok (.getfield 19, 3) := by decide +kernel
theorem dX9_homes_4 : decode cX9_homes 4 = .ok (.invokevirtual 141, 3) := by decide +kernel
theorem dX9_homes_7 : decode cX9_homes 7 = .ok (.ifCond .eq 6, 3) := by decide +kernel
theorem dX9_homes_10 : decode cX9_homes 10 = .ok (.bipush (-2), 2) := by decide +kernel
theorem dX9_homes_12 : decode cX9_homes 12 = .ok (.ireturn, 1) := by decide +kernel
theorem dX9_income_0 : decode cX9_income 0 = .ok (.aload_n 0, 1) := by decide +kernel
theorem dX9_income_1 : decode cX9_income 1 = .ok (.getfield 19, 3) := by decide +kernel
theorem dX9_income_4 : decode cX9_income 4 = .ok (.invokevirtual 141, 3) := by decide +kernel
theorem dX9_income_7 : decode cX9_income 7 = .ok (.ifCond .eq 8, 3) := by decide +kernel
theorem dX9_income_10 : decode cX9_income 10 = .ok (.bipush (-2), 2) := by decide +kernel
theorem dX9_income_12 : decode cX9_income 12 = .ok (.goto 21, 3) := by decide +kernel
theorem dX9_income_33 : decode cX9_income 33 = .ok (.ireturn, 1) := by decide +kernel
theorem dX9_isSlot_0 : decode cX9_isSlot 0 = .ok (.iload_n 0, 1) := by decide +kernel
theorem dX9_isSlot_1 : decode cX9_isSlot 1 = .ok (.ifCond .lt 12, 3) := by decide +kernel
theorem dX9_isSlot_4 : decode cX9_isSlot 4 = .ok (.iload_n 0, 1) := by decide +kernel
theorem dX9_isSlot_5 : decode cX9_isSlot 5 = .ok (.iconst 4, 1) := by decide +kernel
theorem dX9_isSlot_6 : decode cX9_isSlot 6 = .ok (.if_icmp .ge 7, 3) := by decide +kernel
theorem dX9_isSlot_9 : decode cX9_isSlot 9 = .ok (.iconst 1, 1) := by decide +kernel
theorem dX9_isSlot_10 : decode cX9_isSlot 10 = .ok (.goto 4, 3) := by decide +kernel
theorem dX9_isSlot_13 : decode cX9_isSlot 13 = .ok (.iconst 0, 1) := by decide +kernel
theorem dX9_isSlot_14 : decode cX9_isSlot 14 = .ok (.ireturn, 1) := by decide +kernel
theorem dX9_lacks_0 : decode cX9_lacks 0 = .ok (.aload_n 0, 1) := by decide +kernel
theorem dX9_lacks_1 : decode cX9_lacks 1 = .ok (.getfield 19, 3) := by decide +kernel
theorem dX9_lacks_4 : decode cX9_lacks 4 = .ok (.invokevirtual 141, 3) := by decide +kernel
theorem dX9_lacks_7 : decode cX9_lacks 7 = .ok (.ifCond .eq 6, 3) := by decide +kernel
theorem dX9_lacks_10 : decode cX9_lacks 10 = .ok (.bipush (-2), 2) := by decide +kernel
theorem dX9_lacks_12 : decode cX9_lacks 12 = .ok (.ireturn, 1) := by decide +kernel
theorem dX9_lamps_0 : decode cX9_lamps 0 = .ok (.aload_n 0, 1) := by decide +kernel
theorem dX9_lamps_1 : decode cX9_lamps 1 = .ok (.getfield 19, 3) := by decide +kernel
theorem dX9_lamps_4 : decode cX9_lamps 4 = .ok (.invokevirtual 141, 3) := by decide +kernel
theorem dX9_lamps_7 : decode cX9_lamps 7 = .ok (.ifCond .eq 8, 3) := by decide +kernel
theorem dX9_lamps_10 : decode cX9_lamps 10 = .ok (.bipush (-2), 2) := by decide +kernel
theorem dX9_lamps_12 : decode cX9_lamps 12 = .ok (.goto 10, 3) := by decide +kernel
theorem dX9_lamps_22 : decode cX9_lamps 22 = .ok (.ireturn, 1) := by decide +kernel
theorem dX9_law_0 : decode cX9_law 0 = .ok (.aload_n 0, 1) := by decide +kernel
theorem dX9_law_1 : decode cX9_law 1 = .ok (.getfield 19, 3) := by decide +kernel
theorem dX9_law_4 : decode cX9_law 4 = .ok (.invokevirtual 141, 3) := by decide +kernel
theorem dX9_law_7 : decode cX9_law 7 = .ok (.ifCond .eq 6, 3) := by decide +kernel
theorem dX9_law_10 : decode cX9_law 10 = .ok (.bipush (-2), 2) := by decide +kernel
theorem dX9_law_12 : decode cX9_law 12 = .ok (.ireturn, 1) := by decide +kernel
theorem dX9_laws_0 : decode cX9_laws 0 = .ok (.aload_n 0, 1) := by decide +kernel
theorem dX9_laws_1 : decode cX9_laws 1 = .ok (.iload_n 1, 1) := by decide +kernel
theorem dX9_laws_2 : decode cX9_laws 2 = .ok (.invokevirtual 268, 3) := by decide +kernel
theorem dX9_laws_5 : decode cX9_laws 5 = .ok (.istore_n 2, 1) := by decide +kernel
theorem dX9_laws_6 : decode cX9_laws 6 = .ok (.iload_n 2, 1) := by decide +kernel
theorem dX9_laws_7 : decode cX9_laws 7 = .ok (.ifCond .eq 7, 3) := by decide +kernel
theorem dX9_laws_10 : decode cX9_laws 10 = .ok (.iload_n 2, 1) := by decide +kernel
theorem dX9_laws_11 : decode cX9_laws 11 = .ok (.goto 16, 3) := by decide +kernel
theorem dX9_laws_27 : decode cX9_laws 27 = .ok (.ireturn, 1) := by decide +kernel
theorem dX9_leaves_0 : decode cX9_leaves 0 = .ok (.aload_n 0, 1) := by decide +kernel
theorem dX9_leaves_1 : decode cX9_leaves 1 = .ok (.iload_n 1, 1) := by decide +kernel
theorem dX9_leaves_2 : decode cX9_leaves 2 = .ok (.invokevirtual 278, 3) := by decide +kernel
theorem dX9_leaves_5 : decode cX9_leaves 5 = .ok (.istore_n 2, 1) := by decide +kernel
theorem dX9_leaves_6 : decode cX9_leaves 6 = .ok (.iload_n 2, 1) := by decide +kernel
theorem dX9_leaves_7 : decode cX9_leaves 7 = .ok (.ifCond .eq 5, 3) := by decide +kernel
theorem dX9_leaves_10 : decode cX9_leaves 10 = .ok (.iload_n 2, 1) := by decide +kernel
theorem dX9_leaves_11 : decode cX9_leaves 11 = .ok (.ireturn, 1) := by decide +kernel
theorem dX9_less_0 : decode cX9_less 0 = .ok (.aload_n 0, 1) := by decide +kernel
theorem dX9_less_1 : decode cX9_less 1 = .ok (.getfield 19, 3) := by decide +kernel
theorem dX9_less_4 : decode cX9_less 4 = .ok (.invokevirtual 141, 3) := by decide +kernel
theorem dX9_less_7 : decode cX9_less 7 = .ok (.ifCond .eq 8, 3) := by decide +kernel
theorem dX9_less_10 : decode cX9_less 10 = .ok (.bipush (-2), 2) := by decide +kernel
theorem dX9_less_12 : decode cX9_less 12 = .ok (.goto 14, 3) := by decide +kernel
theorem dX9_less_26 : decode cX9_less 26 = .ok (.ireturn, 1) := by decide +kernel
theorem dX9_light_0 : decode cX9_light 0 = .ok (.aload_n 0, 1) := by decide +kernel
theorem dX9_light_1 : decode cX9_light 1 = .ok (.getfield 19, 3) := by decide +kernel
theorem dX9_light_4 : decode cX9_light 4 = .ok (.iload_n 1, 1) := by decide +kernel
theorem dX9_light_5 : decode cX9_light 5 = .ok (.invokevirtual 170, 3) := by decide +kernel
theorem dX9_light_8 : decode cX9_light 8 = .ok (.ifCond .eq 10, 3) := by decide +kernel
theorem dX9_light_18 : decode cX9_light 18 = .ok (.bipush (-2), 2) := by decide +kernel
theorem dX9_light_20 : decode cX9_light 20 = .ok (.ireturn, 1) := by decide +kernel
theorem dX9_lights_0 : decode cX9_lights 0 = .ok (.aload_n 0, 1) := by decide +kernel
theorem dX9_lights_1 : decode cX9_lights 1 = .ok (.getfield 19, 3) := by decide +kernel
theorem dX9_lights_4 : decode cX9_lights 4 = .ok (.iload_n 1, 1) := by decide +kernel
theorem dX9_lights_5 : decode cX9_lights 5 = .ok (.invokevirtual 238, 3) := by decide +kernel
theorem dX9_lights_8 : decode cX9_lights 8 = .ok (.ifCond .ne 6, 3) := by decide +kernel
theorem dX9_lights_11 : decode cX9_lights 11 = .ok (.bipush (-2), 2) := by decide +kernel
theorem dX9_lights_13 : decode cX9_lights 13 = .ok (.ireturn, 1) := by decide +kernel
theorem dX9_lone_0 : decode cX9_lone 0 = .ok (.aload_n 0, 1) := by decide +kernel
theorem dX9_lone_1 : decode cX9_lone 1 = .ok (.getfield 19, 3) := by decide +kernel
theorem dX9_lone_4 : decode cX9_lone 4 = .ok (.invokevirtual 141, 3) := by decide +kernel
theorem dX9_lone_7 : decode cX9_lone 7 = .ok (.ifCond .eq 6, 3) := by decide +kernel
theorem dX9_lone_10 : decode cX9_lone 10 = .ok (.bipush (-2), 2) := by decide +kernel
theorem dX9_lone_12 : decode cX9_lone 12 = .ok (.ireturn, 1) := by decide +kernel
theorem dX9_loud_0 : decode cX9_loud 0 = .ok (.aload_n 0, 1) := by decide +kernel
theorem dX9_loud_1 : decode cX9_loud 1 = .ok (.getfield 19, 3) := by decide +kernel
theorem dX9_loud_4 : decode cX9_loud 4 = .ok (.invokevirtual 141, 3) := by decide +kernel
theorem dX9_loud_7 : decode cX9_loud 7 = .ok (.ifCond .eq 6, 3) := by decide +kernel
theorem dX9_loud_10 : decode cX9_loud 10 = .ok (.bipush (-2), 2) := by decide +kernel
theorem dX9_loud_12 : decode cX9_loud 12 = .ok (.ireturn, 1) := by decide +kernel
theorem dX9_luck_0 : decode cX9_luck 0 = .ok (.aload_n 0, 1) := by decide +kernel
theorem dX9_luck_1 : decode cX9_luck 1 = .ok (.getfield 19, 3) := by decide +kernel
theorem dX9_luck_4 : decode cX9_luck 4 = .ok (.iload_n 3, 1) := by decide +kernel
theorem dX9_luck_5 : decode cX9_luck 5 = .ok (.invokevirtual 130, 3) := by decide +kernel
theorem dX9_luck_8 : decode cX9_luck 8 = .ok (.ifCond .eq 21, 3) := by decide +kernel
theorem dX9_luck_29 : decode cX9_luck 29 = .ok (.bipush (-2), 2) := by decide +kernel
theorem dX9_luck_31 : decode cX9_luck 31 = .ok (.ireturn, 1) := by decide +kernel
theorem dX9_mean_0 : decode cX9_mean 0 = .ok (.aload_n 0, 1) := by decide +kernel
theorem dX9_mean_1 : decode cX9_mean 1 = .ok (.getfield 19, 3) := by decide +kernel
theorem dX9_mean_4 : decode cX9_mean 4 = .ok (.invokevirtual 141, 3) := by decide +kernel
theorem dX9_mean_7 : decode cX9_mean 7 = .ok (.ifCond .ne 10, 3) := by decide +kernel
theorem dX9_mean_17 : decode cX9_mean 17 = .ok (.bipush (-2), 2) := by decide +kernel
theorem dX9_mean_19 : decode cX9_mean 19 = .ok (.ireturn, 1) := by decide +kernel
theorem dX9_meets_0 : decode cX9_meets 0 = .ok (.aload_n 0, 1) := by decide +kernel
theorem dX9_meets_1 : decode cX9_meets 1 = .ok (.getfield 19, 3) := by decide +kernel
theorem dX9_meets_4 : decode cX9_meets 4 = .ok (.iload_n 1, 1) := by decide +kernel
theorem dX9_meets_5 : decode cX9_meets 5 = .ok (.invokevirtual 116, 3) := by decide +kernel
theorem dX9_meets_8 : decode cX9_meets 8 = .ok (.ifCond .eq 14, 3) := by decide +kernel
theorem dX9_meets_22 : decode cX9_meets 22 = .ok (.bipush (-2), 2) := by decide +kernel
theorem dX9_meets_24 : decode cX9_meets 24 = .ok (.ireturn, 1) := by decide +kernel
theorem dX9_member_0 : decode cX9_member 0 = .ok (.aload_n 0, 1) := by decide +kernel
theorem dX9_member_1 : decode cX9_member 1 = .ok (.getfield 19, 3) := by decide +kernel
theorem dX9_member_4 : decode cX9_member 4 = .ok (.iload_n 1, 1) := by decide +kernel
theorem dX9_member_5 : decode cX9_member 5 = .ok (.invokevirtual 130, 3) := by decide +kernel
theorem dX9_member_8 : decode cX9_member 8 = .ok (.ifCond .ne 6, 3) := by decide +kernel
theorem dX9_member_11 : decode cX9_member 11 = .ok (.bipush (-2), 2) := by decide +kernel
theorem dX9_member_13 : decode cX9_member 13 = .ok (.ireturn, 1) := by decide +kernel
theorem dX9_more_0 : decode cX9_more 0 = .ok (.aload_n 0, 1) := by decide +kernel
theorem dX9_more_1 : decode cX9_more 1 = .ok (.getfield 19, 3) := by decide +kernel
theorem dX9_more_4 : decode cX9_more 4 = .ok (.invokevirtual 141, 3) := by decide +kernel
theorem dX9_more_7 : decode cX9_more 7 = .ok (.ifCond .eq 8, 3) := by decide +kernel
theorem dX9_more_10 : decode cX9_more 10 = .ok (.bipush (-2), 2) := by decide +kernel
theorem dX9_more_12 : decode cX9_more 12 = .ok (.goto 24, 3) := by decide +kernel
theorem dX9_more_36 : decode cX9_more 36 = .ok (.ireturn, 1) := by decide +kernel
theorem dX9_most_0 : decode cX9_most 0 = .ok (.aload_n 0, 1) := by decide +kernel
theorem dX9_most_1 : decode cX9_most 1 = .ok (.getfield 19, 3) := by decide +kernel
theorem dX9_most_4 : decode cX9_most 4 = .ok (.invokevirtual 141, 3) := by decide +kernel
theorem dX9_most_7 : decode cX9_most 7 = .ok (.ifCond .ne 10, 3) := by decide +kernel
theorem dX9_most_17 : decode cX9_most 17 = .ok (.bipush (-2), 2) := by decide +kernel
theorem dX9_most_19 : decode cX9_most 19 = .ok (.ireturn, 1) := by decide +kernel
theorem dX9_near_0 : decode cX9_near 0 = .ok (.aload_n 0, 1) := by decide +kernel
theorem dX9_near_1 : decode cX9_near 1 = .ok (.getfield 19, 3) := by decide +kernel
theorem dX9_near_4 : decode cX9_near 4 = .ok (.iload_n 1, 1) := by decide +kernel
theorem dX9_near_5 : decode cX9_near 5 = .ok (.invokevirtual 130, 3) := by decide +kernel
theorem dX9_near_8 : decode cX9_near 8 = .ok (.ifCond .ne 6, 3) := by decide +kernel
theorem dX9_near_11 : decode cX9_near 11 = .ok (.bipush (-2), 2) := by decide +kernel
theorem dX9_near_13 : decode cX9_near 13 = .ok (.ireturn, 1) := by decide +kernel
theorem dX9_odds_0 : decode cX9_odds 0 = .ok (.aload_n 0, 1) := by decide +kernel
theorem dX9_odds_1 : decode cX9_odds 1 = .ok (.getfield 19, 3) := by decide +kernel
theorem dX9_odds_4 : decode cX9_odds 4 = .ok (.iload_n 2, 1) := by decide +kernel
theorem dX9_odds_5 : decode cX9_odds 5 = .ok (.invokevirtual 130, 3) := by decide +kernel
theorem dX9_odds_8 : decode cX9_odds 8 = .ok (.ifCond .eq 10, 3) := by decide +kernel
theorem dX9_odds_18 : decode cX9_odds 18 = .ok (.bipush (-2), 2) := by decide +kernel
theorem dX9_odds_20 : decode cX9_odds 20 = .ok (.ireturn, 1) := by decide +kernel
theorem dX9_out_0 : decode cX9_out 0 = .ok (.aload_n 0, 1) := by decide +kernel
theorem dX9_out_1 : decode cX9_out 1 = .ok (.getfield 19, 3) := by decide +kernel
theorem dX9_out_4 : decode cX9_out 4 = .ok (.iload_n 1, 1) := by decide +kernel
theorem dX9_out_5 : decode cX9_out 5 = .ok (.invokevirtual 116, 3) := by decide +kernel
theorem dX9_out_8 : decode cX9_out 8 = .ok (.ifCond .ne 6, 3) := by decide +kernel
theorem dX9_out_11 : decode cX9_out 11 = .ok (.bipush (-2), 2) := by decide +kernel
theorem dX9_out_13 : decode cX9_out 13 = .ok (.ireturn, 1) := by decide +kernel
theorem dX9_over_0 : decode cX9_over 0 = .ok (.aload_n 0, 1) := by decide +kernel
theorem dX9_over_1 : decode cX9_over 1 = .ok (.getfield 19, 3) := by decide +kernel
theorem dX9_over_4 : decode cX9_over 4 = .ok (.iload_n 1, 1) := by decide +kernel
theorem dX9_over_5 : decode cX9_over 5 = .ok (.invokevirtual 170, 3) := by decide +kernel
theorem dX9_over_8 : decode cX9_over 8 = .ok (.ifCond .ne 6, 3) := by decide +kernel
theorem dX9_over_11 : decode cX9_over 11 = .ok (.bipush (-2), 2) := by decide +kernel
theorem dX9_over_13 : decode cX9_over 13 = .ok (.ireturn, 1) := by decide +kernel
theorem dX9_price_0 : decode cX9_price 0 = .ok (.aload_n 0, 1) := by decide +kernel
theorem dX9_price_1 : decode cX9_price 1 = .ok (.getfield 19, 3) := by decide +kernel
theorem dX9_price_4 : decode cX9_price 4 = .ok (.invokevirtual 141, 3) := by decide +kernel
theorem dX9_price_7 : decode cX9_price 7 = .ok (.ifCond .ne 14, 3) := by decide +kernel
theorem dX9_price_21 : decode cX9_price 21 = .ok (.bipush (-2), 2) := by decide +kernel
theorem dX9_price_23 : decode cX9_price 23 = .ok (.ireturn, 1) := by decide +kernel
theorem dX9_quiet_0 : decode cX9_quiet 0 = .ok (.aload_n 0, 1) := by decide +kernel
theorem dX9_quiet_1 : decode cX9_quiet 1 = .ok (.getfield 19, 3) := by decide +kernel
theorem dX9_quiet_4 : decode cX9_quiet 4 = .ok (.invokevirtual 141, 3) := by decide +kernel
theorem dX9_quiet_7 : decode cX9_quiet 7 = .ok (.ifCond .eq 6, 3) := by decide +kernel
theorem dX9_quiet_10 : decode cX9_quiet 10 = .ok (.bipush (-2), 2) := by decide +kernel
theorem dX9_quiet_12 : decode cX9_quiet 12 = .ok (.ireturn, 1) := by decide +kernel
theorem dX9_rate_0 : decode cX9_rate 0 = .ok (.aload_n 0, 1) := by decide +kernel
theorem dX9_rate_1 : decode cX9_rate 1 = .ok (.getfield 19, 3) := by decide +kernel
theorem dX9_rate_4 : decode cX9_rate 4 = .ok (.iload_n 1, 1) := by decide +kernel
theorem dX9_rate_5 : decode cX9_rate 5 = .ok (.invokevirtual 130, 3) := by decide +kernel
theorem dX9_rate_8 : decode cX9_rate 8 = .ok (.ifCond .eq 13, 3) := by decide +kernel
theorem dX9_rate_21 : decode cX9_rate 21 = .ok (.bipush (-2), 2) := by decide +kernel
theorem dX9_rate_23 : decode cX9_rate 23 = .ok (.ireturn, 1) := by decide +kernel
theorem dX9_reportRefusal_0 : decode cX9_reportRefusal 0 = .ok (.aload_n 0, 1) := by decide +kernel
theorem dX9_reportRefusal_1 : decode cX9_reportRefusal 1 = .ok (.iload_n 1, 1) := by decide +kernel
theorem dX9_reportRefusal_2 : decode cX9_reportRefusal 2 = .ok (.invokevirtual 445, 3) := by decide +kernel
theorem dX9_reportRefusal_5 : decode cX9_reportRefusal 5 = .ok (.istore_n 2, 1) := by decide +kernel
theorem dX9_reportRefusal_6 : decode cX9_reportRefusal 6 = .ok (.iload_n 2, 1) := by decide +kernel
theorem dX9_reportRefusal_7 : decode cX9_reportRefusal 7 = .ok (.ifCond .eq 5, 3) := by decide +kernel
theorem dX9_reportRefusal_10 : decode cX9_reportRefusal 10 = .ok (.iload_n 2, 1) := by decide +kernel
theorem dX9_reportRefusal_11 : decode cX9_reportRefusal 11 = .ok (.ireturn, 1) := by decide +kernel
theorem dX9_rests_0 : decode cX9_rests 0 = .ok (.aload_n 0, 1) := by decide +kernel
theorem dX9_rests_1 : decode cX9_rests 1 = .ok (.iload_n 1, 1) := by decide +kernel
theorem dX9_rests_2 : decode cX9_rests 2 = .ok (.iload_n 2, 1) := by decide +kernel
theorem dX9_rests_3 : decode cX9_rests 3 = .ok (.invokevirtual 333, 3) := by decide +kernel
theorem dX9_rests_6 : decode cX9_rests 6 = .ok (.ifCond .ne 6, 3) := by decide +kernel
theorem dX9_rests_9 : decode cX9_rests 9 = .ok (.bipush (-2), 2) := by decide +kernel
theorem dX9_rests_11 : decode cX9_rests 11 = .ok (.ireturn, 1) := by decide +kernel
theorem dX9_rowRefusal_0 : decode cX9_rowRefusal 0 = .ok (.iload_n 1, 1) := by decide +kernel
theorem dX9_rowRefusal_1 : decode cX9_rowRefusal 1 = .ok (.invokestatic 395, 3) := by decide +kernel
theorem dX9_rowRefusal_4 : decode cX9_rowRefusal 4 = .ok (.ifCond .eq 13, 3) := by decide +kernel
theorem dX9_rowRefusal_7 : decode cX9_rowRefusal 7 = .ok (.aload_n 0, 1) := by decide +kernel
theorem dX9_rowRefusal_8 : decode cX9_rowRefusal 8 = .ok (.getfield 19, 3) := by decide +kernel
theorem dX9_rowRefusal_11 : decode cX9_rowRefusal 11 = .ok (.invokevirtual 141, 3) := by decide +kernel
theorem dX9_rowRefusal_14 : decode cX9_rowRefusal 14 = .ok (.ifCond .eq 6, 3) := by decide +kernel
theorem dX9_rowRefusal_17 : decode cX9_rowRefusal 17 = .ok (.bipush (-2), 2) := by decide +kernel
theorem dX9_rowRefusal_19 : decode cX9_rowRefusal 19 = .ok (.ireturn, 1) := by decide +kernel
theorem dX9_served_0 : decode cX9_served 0 = .ok (.aload_n 0, 1) := by decide +kernel
theorem dX9_served_1 : decode cX9_served 1 = .ok (.getfield 19, 3) := by decide +kernel
theorem dX9_served_4 : decode cX9_served 4 = .ok (.invokevirtual 141, 3) := by decide +kernel
theorem dX9_served_7 : decode cX9_served 7 = .ok (.ifCond .eq 8, 3) := by decide +kernel
theorem dX9_served_10 : decode cX9_served 10 = .ok (.bipush (-2), 2) := by decide +kernel
theorem dX9_served_12 : decode cX9_served 12 = .ok (.goto 21, 3) := by decide +kernel
theorem dX9_served_33 : decode cX9_served 33 = .ok (.ireturn, 1) := by decide +kernel
theorem dX9_sightRefusal_0 : decode cX9_sightRefusal 0 = .ok (.aload_n 0, 1) := by decide +kernel
theorem dX9_sightRefusal_1 : decode cX9_sightRefusal 1 = .ok (.iload_n 1, 1) := by decide +kernel
theorem dX9_sightRefusal_2 : decode cX9_sightRefusal 2 = .ok (.invokevirtual 445, 3) := by decide +kernel
theorem dX9_sightRefusal_5 : decode cX9_sightRefusal 5 = .ok (.istore_n 2, 1) := by decide +kernel
theorem dX9_sightRefusal_6 : decode cX9_sightRefusal 6 = .ok (.iload_n 2, 1) := by decide +kernel
theorem dX9_sightRefusal_7 : decode cX9_sightRefusal 7 = .ok (.ifCond .eq 5, 3) := by decide +kernel
theorem dX9_sightRefusal_10 : decode cX9_sightRefusal 10 = .ok (.iload_n 2, 1) := by decide +kernel
theorem dX9_sightRefusal_11 : decode cX9_sightRefusal 11 = .ok (.ireturn, 1) := by decide +kernel
theorem dX9_spare_0 : decode cX9_spare 0 = .ok (.aload_n 0, 1) := by decide +kernel
theorem dX9_spare_1 : decode cX9_spare 1 = .ok (.getfield 19, 3) := by decide +kernel
theorem dX9_spare_4 : decode cX9_spare 4 = .ok (.invokevirtual 141, 3) := by decide +kernel
theorem dX9_spare_7 : decode cX9_spare 7 = .ok (.ifCond .eq 6, 3) := by decide +kernel
theorem dX9_spare_10 : decode cX9_spare 10 = .ok (.bipush (-2), 2) := by decide +kernel
theorem dX9_spare_12 : decode cX9_spare 12 = .ok (.ireturn, 1) := by decide +kernel
theorem dX9_spots_0 : decode cX9_spots 0 = .ok (.aload_n 0, 1) := by decide +kernel
theorem dX9_spots_1 : decode cX9_spots 1 = .ok (.iload_n 1, 1) := by decide +kernel
theorem dX9_spots_2 : decode cX9_spots 2 = .ok (.invokevirtual 278, 3) := by decide +kernel
theorem dX9_spots_5 : decode cX9_spots 5 = .ok (.istore_n 2, 1) := by decide +kernel
theorem dX9_spots_6 : decode cX9_spots 6 = .ok (.iload_n 2, 1) := by decide +kernel
theorem dX9_spots_7 : decode cX9_spots 7 = .ok (.ifCond .eq 5, 3) := by decide +kernel
theorem dX9_spots_10 : decode cX9_spots 10 = .ok (.iload_n 2, 1) := by decide +kernel
theorem dX9_spots_11 : decode cX9_spots 11 = .ok (.ireturn, 1) := by decide +kernel
theorem dX9_swap_0 : decode cX9_swap 0 = .ok (.aload_n 0, 1) := by decide +kernel
theorem dX9_swap_1 : decode cX9_swap 1 = .ok (.getfield 19, 3) := by decide +kernel
theorem dX9_swap_4 : decode cX9_swap 4 = .ok (.invokevirtual 141, 3) := by decide +kernel
theorem dX9_swap_7 : decode cX9_swap 7 = .ok (.ifCond .eq 8, 3) := by decide +kernel
theorem dX9_swap_10 : decode cX9_swap 10 = .ok (.bipush (-2), 2) := by decide +kernel
theorem dX9_swap_12 : decode cX9_swap 12 = .ok (.goto 10, 3) := by decide +kernel
theorem dX9_swap_22 : decode cX9_swap 22 = .ok (.ireturn, 1) := by decide +kernel
theorem dX9_swaps_0 : decode cX9_swaps 0 = .ok (.aload_n 0, 1) := by decide +kernel
theorem dX9_swaps_1 : decode cX9_swaps 1 = .ok (.getfield 19, 3) := by decide +kernel
theorem dX9_swaps_4 : decode cX9_swaps 4 = .ok (.invokevirtual 141, 3) := by decide +kernel
theorem dX9_swaps_7 : decode cX9_swaps 7 = .ok (.ifCond .eq 8, 3) := by decide +kernel
theorem dX9_swaps_10 : decode cX9_swaps 10 = .ok (.bipush (-2), 2) := by decide +kernel
theorem dX9_swaps_12 : decode cX9_swaps 12 = .ok (.goto 10, 3) := by decide +kernel
theorem dX9_swaps_22 : decode cX9_swaps 22 = .ok (.ireturn, 1) := by decide +kernel
theorem dX9_turn_0 : decode cX9_turn 0 = .ok (.aload_n 0, 1) := by decide +kernel
theorem dX9_turn_1 : decode cX9_turn 1 = .ok (.getfield 19, 3) := by decide +kernel
theorem dX9_turn_4 : decode cX9_turn 4 = .ok (.iload_n 1, 1) := by decide +kernel
theorem dX9_turn_5 : decode cX9_turn 5 = .ok (.invokevirtual 116, 3) := by decide +kernel
theorem dX9_turn_8 : decode cX9_turn 8 = .ok (.ifCond .eq 12, 3) := by decide +kernel
theorem dX9_turn_20 : decode cX9_turn 20 = .ok (.bipush (-2), 2) := by decide +kernel
theorem dX9_turn_22 : decode cX9_turn 22 = .ok (.ireturn, 1) := by decide +kernel
theorem dX9_undo_0 : decode cX9_undo 0 = .ok (.aload_n 0, 1) := by decide +kernel
theorem dX9_undo_1 : decode cX9_undo 1 = .ok (.getfield 19, 3) := by decide +kernel
theorem dX9_undo_4 : decode cX9_undo 4 = .ok (.invokevirtual 141, 3) := by decide +kernel
theorem dX9_undo_7 : decode cX9_undo 7 = .ok (.ifCond .eq 6, 3) := by decide +kernel
theorem dX9_undo_10 : decode cX9_undo 10 = .ok (.bipush (-2), 2) := by decide +kernel
theorem dX9_undo_12 : decode cX9_undo 12 = .ok (.ireturn, 1) := by decide +kernel
theorem dX9_unpaid_0 : decode cX9_unpaid 0 = .ok (.aload_n 0, 1) := by decide +kernel
theorem dX9_unpaid_1 : decode cX9_unpaid 1 = .ok (.getfield 19, 3) := by decide +kernel
theorem dX9_unpaid_4 : decode cX9_unpaid 4 = .ok (.invokevirtual 141, 3) := by decide +kernel
theorem dX9_unpaid_7 : decode cX9_unpaid 7 = .ok (.ifCond .eq 8, 3) := by decide +kernel
theorem dX9_unpaid_10 : decode cX9_unpaid 10 = .ok (.bipush (-2), 2) := by decide +kernel
theorem dX9_unpaid_12 : decode cX9_unpaid 12 = .ok (.goto 7, 3) := by decide +kernel
theorem dX9_unpaid_19 : decode cX9_unpaid 19 = .ok (.ireturn, 1) := by decide +kernel
theorem dX9_way_0 : decode cX9_way 0 = .ok (.aload_n 0, 1) := by decide +kernel
theorem dX9_way_1 : decode cX9_way 1 = .ok (.getfield 19, 3) := by decide +kernel
theorem dX9_way_4 : decode cX9_way 4 = .ok (.iload_n 1, 1) := by decide +kernel
theorem dX9_way_5 : decode cX9_way 5 = .ok (.invokevirtual 116, 3) := by decide +kernel
theorem dX9_way_8 : decode cX9_way 8 = .ok (.ifCond .ne 6, 3) := by decide +kernel
theorem dX9_way_11 : decode cX9_way 11 = .ok (.bipush (-2), 2) := by decide +kernel
theorem dX9_way_13 : decode cX9_way 13 = .ok (.ireturn, 1) := by decide +kernel
theorem dX9_who_0 : decode cX9_who 0 = .ok (.aload_n 0, 1) := by decide +kernel
theorem dX9_who_1 : decode cX9_who 1 = .ok (.iload_n 1, 1) := by decide +kernel
theorem dX9_who_2 : decode cX9_who 2 = .ok (.invokevirtual 278, 3) := by decide +kernel
theorem dX9_who_5 : decode cX9_who 5 = .ok (.istore_n 2, 1) := by decide +kernel
theorem dX9_who_6 : decode cX9_who 6 = .ok (.iload_n 2, 1) := by decide +kernel
theorem dX9_who_7 : decode cX9_who 7 = .ok (.ifCond .eq 7, 3) := by decide +kernel
theorem dX9_who_10 : decode cX9_who 10 = .ok (.iload_n 2, 1) := by decide +kernel
theorem dX9_who_11 : decode cX9_who 11 = .ok (.goto 23, 3) := by decide +kernel
theorem dX9_who_34 : decode cX9_who 34 = .ok (.ireturn, 1) := by decide +kernel
theorem wd0 : Cond.fieldLink RX3 42 "GooseShares$Land" "lines" "I" ∈ gW := gm (tm_1 51 (by decide +kernel)) rfl
theorem wd1 : Cond.fieldLink RX3 46 "GooseShares$Land" "wide" "I" ∈ gW := gm (tm_1 54 (by decide +kernel)) rfl
theorem wd2 : Cond.fieldLink RX3 49 "GooseShares$Land" "high" "I" ∈ gW := gm (tm_1 57 (by decide +kernel)) rfl
theorem wd3 : Cond.fieldLink RX3 61 "GooseShares$Land" "flights" "I" ∈ gW := gm (tm_1 75 (by decide +kernel)) rfl
theorem wd4 : Cond.fieldLink RX3 64 "GooseShares$Land" "members" "I" ∈ gW := gm (tm_1 80 (by decide +kernel)) rfl
theorem wd5 : Cond.instanceMethod yX3_cells ∈ gW := gm (tm_3 11 (by decide +kernel)) rfl
theorem wd6 : Cond.selects RX3 yX3_cells yX3_cells ∈ gW := gm (tm_3 12 (by decide +kernel)) rfl
theorem wd7 : Cond.initialized RX3 ∈ gW := gm (tm_1 3 (by decide +kernel)) rfl
theorem wd8 : Cond.code yX3_cells cX3_cells 1 (some .int) ∈ gW := gm (tm_3 13 (by decide +kernel)) rfl
theorem wd9 : Cond.methodLink RX3 79 yX3_cells ∈ gW := gm (tm_3 28 (by decide +kernel)) rfl
theorem wd10 : Cond.instanceMethod yX3_isNone ∈ gW := gm (tm_3 80 (by decide +kernel)) rfl
theorem wd11 : Cond.selects RX3 yX3_isNone yX3_isNone ∈ gW := gm (tm_3 81 (by decide +kernel)) rfl
theorem wd12 : Cond.code yX3_isNone cX3_isNone 1 (some .boolean) ∈ gW := gm (tm_3 82 (by decide +kernel)) rfl
theorem wd13 : Cond.methodLink RX3 99 yX3_isNone ∈ gW := gm (tm_4 83 (by decide +kernel)) rfl
theorem wd14 : Cond.static yX9_isSlot ∈ gW := gm (tm_4 180 (by decide +kernel)) rfl
theorem wd15 : Cond.initialized RX9 ∈ gW := gm (tm_1 1 (by decide +kernel)) rfl
theorem wd16 : Cond.code yX9_isSlot cX9_isSlot 1 (some .boolean) ∈ gW := gm (tm_4 181 (by decide +kernel)) rfl
theorem wd17 : Cond.methodLink RX9 395 yX9_isSlot ∈ gW := gm (tm_4 179 (by decide +kernel)) rfl
theorem wd18 : Cond.fieldLink RX9 19 "GooseShares" "now" "LGooseShares$Land;" ∈ gW := gm (tm_2 99 (by decide +kernel)) rfl
theorem wd19 : Cond.methodLink RX9 141 yX3_isNone ∈ gW := gm (tm_3 79 (by decide +kernel)) rfl
theorem wd20 : Cond.instanceMethod yX9_rowRefusal ∈ gW := gm (tm_4 177 (by decide +kernel)) rfl
theorem wd21 : Cond.selects RX9 yX9_rowRefusal yX9_rowRefusal ∈ gW := gm (gmP 10 (by decide +kernel)) rfl
theorem wd22 : Cond.code yX9_rowRefusal cX9_rowRefusal 2 (some .int) ∈ gW := gm (tm_4 178 (by decide +kernel)) rfl
theorem wd23 : Cond.methodLink RX9 445 yX9_rowRefusal ∈ gW := gm (tm_4 175 (by decide +kernel)) rfl
theorem wd24 : Cond.instanceMethod yX3_hasMember ∈ gW := gm (tm_3 72 (by decide +kernel)) rfl
theorem wd25 : Cond.selects RX3 yX3_hasMember yX3_hasMember ∈ gW := gm (tm_3 73 (by decide +kernel)) rfl
theorem wd26 : Cond.code yX3_hasMember cX3_hasMember 2 (some .boolean) ∈ gW := gm (tm_3 74 (by decide +kernel)) rfl
theorem wd27 : Cond.methodLink RX9 130 yX3_hasMember ∈ gW := gm (tm_3 71 (by decide +kernel)) rfl
theorem wd28 : Cond.instanceMethod yX3_hasFlight ∈ gW := gm (tm_3 64 (by decide +kernel)) rfl
theorem wd29 : Cond.selects RX3 yX3_hasFlight yX3_hasFlight ∈ gW := gm (tm_3 65 (by decide +kernel)) rfl
theorem wd30 : Cond.code yX3_hasFlight cX3_hasFlight 2 (some .boolean) ∈ gW := gm (tm_3 66 (by decide +kernel)) rfl
theorem wd31 : Cond.methodLink RX9 116 yX3_hasFlight ∈ gW := gm (tm_3 63 (by decide +kernel)) rfl
theorem wd32 : Cond.instanceMethod yX3_hasCell ∈ gW := gm (tm_3 150 (by decide +kernel)) rfl
theorem wd33 : Cond.selects RX3 yX3_hasCell yX3_hasCell ∈ gW := gm (tm_3 151 (by decide +kernel)) rfl
theorem wd34 : Cond.code yX3_hasCell cX3_hasCell 2 (some .boolean) ∈ gW := gm (tm_3 152 (by decide +kernel)) rfl
theorem wd35 : Cond.methodLink RX9 170 yX3_hasCell ∈ gW := gm (tm_3 149 (by decide +kernel)) rfl
theorem wd36 : Cond.instanceMethod yX3_hasSet ∈ gW := gm (tm_4 80 (by decide +kernel)) rfl
theorem wd37 : Cond.selects RX3 yX3_hasSet yX3_hasSet ∈ gW := gm (tm_4 81 (by decide +kernel)) rfl
theorem wd38 : Cond.code yX3_hasSet cX3_hasSet 2 (some .boolean) ∈ gW := gm (tm_4 82 (by decide +kernel)) rfl
theorem wd39 : Cond.methodLink RX9 238 yX3_hasSet ∈ gW := gm (tm_4 79 (by decide +kernel)) rfl
theorem wd40 : Cond.instanceMethod yX9_sightRefusal ∈ gW := gm (tm_4 173 (by decide +kernel)) rfl
theorem wd41 : Cond.selects RX9 yX9_sightRefusal yX9_sightRefusal ∈ gW := gm (gmP 9 (by decide +kernel)) rfl
theorem wd42 : Cond.code yX9_sightRefusal cX9_sightRefusal 3 (some .int) ∈ gW := gm (tm_4 174 (by decide +kernel)) rfl
theorem wd43 : Cond.methodLink RX9 268 yX9_sightRefusal ∈ gW := gm (tm_4 171 (by decide +kernel)) rfl
theorem wd44 : Cond.instanceMethod yX9_reportRefusal ∈ gW := gm (tm_4 227 (by decide +kernel)) rfl
theorem wd45 : Cond.selects RX9 yX9_reportRefusal yX9_reportRefusal ∈ gW := gm (gmP 11 (by decide +kernel)) rfl
theorem wd46 : Cond.code yX9_reportRefusal cX9_reportRefusal 3 (some .int) ∈ gW := gm (tm_4 228 (by decide +kernel)) rfl
theorem wd47 : Cond.methodLink RX9 278 yX9_reportRefusal ∈ gW := gm (tm_4 225 (by decide +kernel)) rfl
theorem wd48 : Cond.instanceMethod yX9_areTwo ∈ gW := gm (tm_5 152 (by decide +kernel)) rfl
theorem wd49 : Cond.selects RX9 yX9_areTwo yX9_areTwo ∈ gW := gm (gmP 12 (by decide +kernel)) rfl
theorem wd50 : Cond.code yX9_areTwo cX9_areTwo 3 (some .boolean) ∈ gW := gm (tm_5 153 (by decide +kernel)) rfl
theorem wd51 : Cond.methodLink RX9 333 yX9_areTwo ∈ gW := gm (tm_5 150 (by decide +kernel)) rfl
theorem my_X3_cells : gWV RX3 yX3_cells cX3_cells 1 (some .int) 0 := ⟨⟨wd5, wd6, wd7, wd8⟩, ⟨rfl, by decide +kernel, by decide +kernel, by decide +kernel⟩⟩
theorem my_X3_isNone : gWV RX3 yX3_isNone cX3_isNone 1 (some .boolean) 0 := ⟨⟨wd10, wd11, wd7, wd12⟩, ⟨rfl, by decide +kernel, by decide +kernel, by decide +kernel⟩⟩
theorem my_X9_isSlot : gWS RX9 yX9_isSlot cX9_isSlot 1 (some .boolean) 1 := ⟨⟨wd14, wd15, wd16⟩, ⟨rfl, by decide +kernel, by decide +kernel, by decide +kernel⟩⟩
theorem my_X9_rowRefusal : gWV RX9 yX9_rowRefusal cX9_rowRefusal 2 (some .int) 1 := ⟨⟨wd20, wd21, wd15, wd22⟩, ⟨rfl, by decide +kernel, by decide +kernel, by decide +kernel⟩⟩
theorem my_X3_hasMember : gWV RX3 yX3_hasMember cX3_hasMember 2 (some .boolean) 1 := ⟨⟨wd24, wd25, wd7, wd26⟩, ⟨rfl, by decide +kernel, by decide +kernel, by decide +kernel⟩⟩
theorem my_X3_hasFlight : gWV RX3 yX3_hasFlight cX3_hasFlight 2 (some .boolean) 1 := ⟨⟨wd28, wd29, wd7, wd30⟩, ⟨rfl, by decide +kernel, by decide +kernel, by decide +kernel⟩⟩
theorem my_X3_hasCell : gWV RX3 yX3_hasCell cX3_hasCell 2 (some .boolean) 1 := ⟨⟨wd32, wd33, wd7, wd34⟩, ⟨rfl, by decide +kernel, by decide +kernel, by decide +kernel⟩⟩
theorem my_X3_hasSet : gWV RX3 yX3_hasSet cX3_hasSet 2 (some .boolean) 1 := ⟨⟨wd36, wd37, wd7, wd38⟩, ⟨rfl, by decide +kernel, by decide +kernel, by decide +kernel⟩⟩
theorem my_X9_sightRefusal : gWV RX9 yX9_sightRefusal cX9_sightRefusal 3 (some .int) 1 := ⟨⟨wd40, wd41, wd15, wd42⟩, ⟨rfl, by decide +kernel, by decide +kernel, by decide +kernel⟩⟩
theorem my_X9_reportRefusal : gWV RX9 yX9_reportRefusal cX9_reportRefusal 3 (some .int) 1 := ⟨⟨wd44, wd45, wd15, wd46⟩, ⟨rfl, by decide +kernel, by decide +kernel, by decide +kernel⟩⟩
theorem my_X9_areTwo : gWV RX9 yX9_areTwo cX9_areTwo 3 (some .boolean) 2 := ⟨⟨wd48, wd49, wd15, wd50⟩, ⟨rfl, by decide +kernel, by decide +kernel, by decide +kernel⟩⟩
theorem ti_0 : (0 : Int32).toInt = 0 := by decide
end
section
set_option maxHeartbeats 4000000 in
set_option maxRecDepth 100000 in
theorem k_isNone (l : Launch) (E : gE) (L : List Nat) (f : gF) {xn : Nat} {na : Nat → Nat} (mn : xn ∈ L) (fn : f xn = .inr (3, [.int (0 : Int32), .int (0 : Int32), .int (0 : Int32), .int (0 : Int32), .int (0 : Int32), .int (0 : Int32), .int (0 : Int32), .int (0 : Int32), .int (0 : Int32), .int (0 : Int32), .ref (na 0), .ref (na 1), .ref (na 2), .ref (na 3), .ref (na 4), .ref (na 5), .ref (na 6), .ref (na 7), .ref (na 8), .ref (na 9)])) : gMi l E yX3_isNone cX3_isNone 1 .boolean (gRm 1 0 0) [.ref xn] L f (gRO (1 : Int32) L f) := by
  refine gMi.intro (by decide) (Nat.le_of_ble_eq_true rfl) ?_
  intro p e s m below meth c A ls C hr hA hH hl
  have C : gC E cX3_isNone 1 RX3 p s m _ meth c := C
  have hl : lv_has ls 1 [(0, .ref xn)] := hl
  have hx := C.1
  have hb := C.2.1
  refine lv_aload_n hx hb dX3_isNone_0 rfl (lv_at hl 0 rfl) ?_
  refine g_get C hH mn fn iX3 rfl 0 (by decide) wd0 rfl rfl dX3_isNone_1 ?_
  refine lv_if_ne (tgt := 11) hx hb dX3_isNone_4 (by decide) (fun h => absurd (by decide) h) (fun _ => ?_)
  refine lv_iconst (v := (1 : Int32)) hx hb dX3_isNone_7 (by decide) ?_
  refine lv_goto (tgt := 12) hx hb dX3_isNone_8 (by decide) ?_
  refine g_zret C hr (by first | rfl | decide | (exact rfl)) hH (Nat.le_of_ble_eq_true rfl) (Nat.le_of_ble_eq_true rfl) dX3_isNone_12 ?_
  exact ⟨rfl, rfl, rfl⟩
set_option maxHeartbeats 4000000 in
set_option maxRecDepth 100000 in
theorem k_cells (l : Launch) (E : gE) (L : List Nat) (f : gF) {xn : Nat} {na : Nat → Nat} (mn : xn ∈ L) (fn : f xn = .inr (3, [.int (0 : Int32), .int (0 : Int32), .int (0 : Int32), .int (0 : Int32), .int (0 : Int32), .int (0 : Int32), .int (0 : Int32), .int (0 : Int32), .int (0 : Int32), .int (0 : Int32), .ref (na 0), .ref (na 1), .ref (na 2), .ref (na 3), .ref (na 4), .ref (na 5), .ref (na 6), .ref (na 7), .ref (na 8), .ref (na 9)])) : gMi l E yX3_cells cX3_cells 1 .int (gRm 1 0 0) [.ref xn] L f (gRO (0 : Int32) L f) := by
  refine gMi.intro (by decide) (Nat.le_of_ble_eq_true rfl) ?_
  intro p e s m below meth c A ls C hr hA hH hl
  have C : gC E cX3_cells 1 RX3 p s m _ meth c := C
  have hl : lv_has ls 1 [(0, .ref xn)] := hl
  have hx := C.1
  have hb := C.2.1
  refine lv_aload_n hx hb dX3_cells_0 rfl (lv_at hl 0 rfl) ?_
  refine g_get C hH mn fn iX3 rfl 1 (by decide) wd1 rfl rfl dX3_cells_1 ?_
  refine lv_aload_n hx hb dX3_cells_4 rfl (lv_at hl 0 rfl) ?_
  refine g_get C hH mn fn iX3 rfl 2 (by decide) wd2 rfl rfl dX3_cells_5 ?_
  refine lv_imul hx hb dX3_cells_8 ?_
  refine lv_topi (fun z1 ez1 => ?_)
  obtain rfl : z1 = (0 : Int32) := ez1.trans (by decide)
  refine g_iret C hr hH (Nat.le_of_ble_eq_true rfl) (Nat.le_of_ble_eq_true rfl) dX3_cells_9 ?_
  exact ⟨rfl, rfl, rfl⟩
set_option maxHeartbeats 4000000 in
set_option maxRecDepth 100000 in
theorem k_hasFlight (l : Launch) (E : gE) (L : List Nat) (f : gF) {xn : Nat} {na : Nat → Nat} (mn : xn ∈ L) (fn : f xn = .inr (3, [.int (0 : Int32), .int (0 : Int32), .int (0 : Int32), .int (0 : Int32), .int (0 : Int32), .int (0 : Int32), .int (0 : Int32), .int (0 : Int32), .int (0 : Int32), .int (0 : Int32), .ref (na 0), .ref (na 1), .ref (na 2), .ref (na 3), .ref (na 4), .ref (na 5), .ref (na 6), .ref (na 7), .ref (na 8), .ref (na 9)])) (p0 : Int32) : gMi l E yX3_hasFlight cX3_hasFlight 2 .boolean (gRm 1 0 0) [.ref xn, .int p0] L f (gRO (0 : Int32) L f) := by
  refine gMi.intro (by decide) (Nat.le_of_ble_eq_true rfl) ?_
  intro p e s m below meth c A ls C hr hA hH hl
  have C : gC E cX3_hasFlight 2 RX3 p s m _ meth c := C
  have hl : lv_has ls 2 [(0, .ref xn), (1, .int p0)] := hl
  have hx := C.1
  have hb := C.2.1
  refine lv_iload_n hx hb dX3_hasFlight_0 rfl (lv_at hl 1 rfl) ?_
  refine lv_if_lt (tgt := 16) hx hb dX3_hasFlight_1 (by decide) (fun c1 => ?_) (fun c1 => ?_)
  · skip
    refine lv_iconst (v := (0 : Int32)) hx hb dX3_hasFlight_16 (by decide) ?_
    refine g_zret C hr (by first | rfl | decide | (exact rfl)) hH (Nat.le_of_ble_eq_true rfl) (Nat.le_of_ble_eq_true rfl) dX3_hasFlight_17 ?_
    exact ⟨rfl, rfl, rfl⟩
  · skip
    refine lv_iload_n hx hb dX3_hasFlight_4 rfl (lv_at hl 1 rfl) ?_
    refine lv_aload_n hx hb dX3_hasFlight_5 rfl (lv_at hl 0 rfl) ?_
    refine g_get C hH mn fn iX3 rfl 6 (by decide) wd3 rfl rfl dX3_hasFlight_6 ?_
    refine lv_icmp_ge (tgt := 16) hx hb dX3_hasFlight_9 (by decide) (fun c2 => ?_) (fun c2 => ?_)
    · skip
      refine lv_iconst (v := (0 : Int32)) hx hb dX3_hasFlight_16 (by decide) ?_
      refine g_zret C hr (by first | rfl | decide | (exact rfl)) hH (Nat.le_of_ble_eq_true rfl) (Nat.le_of_ble_eq_true rfl) dX3_hasFlight_17 ?_
      exact ⟨rfl, rfl, rfl⟩
    · skip
      exfalso; simp only [fa_lt, fa_le, fa_eq, ti_0] at c1 c2; omega
set_option maxHeartbeats 4000000 in
set_option maxRecDepth 100000 in
theorem k_hasMember (l : Launch) (E : gE) (L : List Nat) (f : gF) {xn : Nat} {na : Nat → Nat} (mn : xn ∈ L) (fn : f xn = .inr (3, [.int (0 : Int32), .int (0 : Int32), .int (0 : Int32), .int (0 : Int32), .int (0 : Int32), .int (0 : Int32), .int (0 : Int32), .int (0 : Int32), .int (0 : Int32), .int (0 : Int32), .ref (na 0), .ref (na 1), .ref (na 2), .ref (na 3), .ref (na 4), .ref (na 5), .ref (na 6), .ref (na 7), .ref (na 8), .ref (na 9)])) (p0 : Int32) : gMi l E yX3_hasMember cX3_hasMember 2 .boolean (gRm 1 0 0) [.ref xn, .int p0] L f (gRO (0 : Int32) L f) := by
  refine gMi.intro (by decide) (Nat.le_of_ble_eq_true rfl) ?_
  intro p e s m below meth c A ls C hr hA hH hl
  have C : gC E cX3_hasMember 2 RX3 p s m _ meth c := C
  have hl : lv_has ls 2 [(0, .ref xn), (1, .int p0)] := hl
  have hx := C.1
  have hb := C.2.1
  refine lv_iload_n hx hb dX3_hasMember_0 rfl (lv_at hl 1 rfl) ?_
  refine lv_if_lt (tgt := 16) hx hb dX3_hasMember_1 (by decide) (fun c1 => ?_) (fun c1 => ?_)
  · skip
    refine lv_iconst (v := (0 : Int32)) hx hb dX3_hasMember_16 (by decide) ?_
    refine g_zret C hr (by first | rfl | decide | (exact rfl)) hH (Nat.le_of_ble_eq_true rfl) (Nat.le_of_ble_eq_true rfl) dX3_hasMember_17 ?_
    exact ⟨rfl, rfl, rfl⟩
  · skip
    refine lv_iload_n hx hb dX3_hasMember_4 rfl (lv_at hl 1 rfl) ?_
    refine lv_aload_n hx hb dX3_hasMember_5 rfl (lv_at hl 0 rfl) ?_
    refine g_get C hH mn fn iX3 rfl 7 (by decide) wd4 rfl rfl dX3_hasMember_6 ?_
    refine lv_icmp_ge (tgt := 16) hx hb dX3_hasMember_9 (by decide) (fun c2 => ?_) (fun c2 => ?_)
    · skip
      refine lv_iconst (v := (0 : Int32)) hx hb dX3_hasMember_16 (by decide) ?_
      refine g_zret C hr (by first | rfl | decide | (exact rfl)) hH (Nat.le_of_ble_eq_true rfl) (Nat.le_of_ble_eq_true rfl) dX3_hasMember_17 ?_
      exact ⟨rfl, rfl, rfl⟩
    · skip
      exfalso; simp only [fa_lt, fa_le, fa_eq, ti_0] at c1 c2; omega
set_option maxHeartbeats 4000000 in
set_option maxRecDepth 100000 in
theorem k_hasCell (l : Launch) (E : gE) (L : List Nat) (f : gF) {xn : Nat} {na : Nat → Nat} (mn : xn ∈ L) (fn : f xn = .inr (3, [.int (0 : Int32), .int (0 : Int32), .int (0 : Int32), .int (0 : Int32), .int (0 : Int32), .int (0 : Int32), .int (0 : Int32), .int (0 : Int32), .int (0 : Int32), .int (0 : Int32), .ref (na 0), .ref (na 1), .ref (na 2), .ref (na 3), .ref (na 4), .ref (na 5), .ref (na 6), .ref (na 7), .ref (na 8), .ref (na 9)])) (p0 : Int32) : gMi l E yX3_hasCell cX3_hasCell 2 .boolean (gRm 2 0 0) [.ref xn, .int p0] L f (gRO (0 : Int32) L f) := by
  refine gMi.intro (by decide) (Nat.le_of_ble_eq_true rfl) ?_
  intro p e s m below meth c A ls C hr hA hH hl
  have C : gC E cX3_hasCell 2 RX3 p s m _ meth c := C
  have hl : lv_has ls 2 [(0, .ref xn), (1, .int p0)] := hl
  have hx := C.1
  have hb := C.2.1
  refine lv_iload_n hx hb dX3_hasCell_0 rfl (lv_at hl 1 rfl) ?_
  refine lv_if_lt (tgt := 16) hx hb dX3_hasCell_1 (by decide) (fun c1 => ?_) (fun c1 => ?_)
  · skip
    refine lv_iconst (v := (0 : Int32)) hx hb dX3_hasCell_16 (by decide) ?_
    refine g_zret C hr (by first | rfl | decide | (exact rfl)) hH (Nat.le_of_ble_eq_true rfl) (Nat.le_of_ble_eq_true rfl) dX3_hasCell_17 ?_
    exact ⟨rfl, rfl, rfl⟩
  · skip
    refine lv_iload_n hx hb dX3_hasCell_4 rfl (lv_at hl 1 rfl) ?_
    refine lv_aload_n hx hb dX3_hasCell_5 rfl (lv_at hl 0 rfl) ?_
    refine g_Vi C hl.1 hA hH (As := []) (rest := [.int p0]) (k_cells l E L f mn fn) my_X3_cells wd9 mn fn rfl rfl rfl (Nat.le_of_ble_eq_true rfl) ⟨Nat.le_of_ble_eq_true rfl, Nat.le_of_ble_eq_true rfl⟩ ⟨Nat.le_of_ble_eq_true rfl, Nat.le_of_ble_eq_true rfl⟩ dX3_hasCell_6 (fun r4 L3 f2 H locs hp hH => ?_)
    obtain ⟨er4, rfl, rfl⟩ := hp
    subst er4
    refine lv_icmp_ge (tgt := 16) hx hb dX3_hasCell_9 (by decide) (fun c5 => ?_) (fun c5 => ?_)
    · skip
      refine lv_iconst (v := (0 : Int32)) hx hb dX3_hasCell_16 (by decide) ?_
      refine g_zret C hr (by first | rfl | decide | (exact rfl)) hH (Nat.le_of_ble_eq_true rfl) (Nat.le_of_ble_eq_true rfl) dX3_hasCell_17 ?_
      exact ⟨rfl, rfl, rfl⟩
    · skip
      exfalso; simp only [fa_lt, fa_le, fa_eq, ti_0] at c1 c5; omega
set_option maxHeartbeats 4000000 in
set_option maxRecDepth 100000 in
theorem k_hasSet (l : Launch) (E : gE) (L : List Nat) (f : gF) {xn : Nat} {na : Nat → Nat} (mn : xn ∈ L) (fn : f xn = .inr (3, [.int (0 : Int32), .int (0 : Int32), .int (0 : Int32), .int (0 : Int32), .int (0 : Int32), .int (0 : Int32), .int (0 : Int32), .int (0 : Int32), .int (0 : Int32), .int (0 : Int32), .ref (na 0), .ref (na 1), .ref (na 2), .ref (na 3), .ref (na 4), .ref (na 5), .ref (na 6), .ref (na 7), .ref (na 8), .ref (na 9)])) (p0 : Int32) : gMi l E yX3_hasSet cX3_hasSet 2 .boolean (gRm 2 0 0) [.ref xn, .int p0] L f (gRO (0 : Int32) L f) := by
  refine gMi.intro (by decide) (Nat.le_of_ble_eq_true rfl) ?_
  intro p e s m below meth c A ls C hr hA hH hl
  have C : gC E cX3_hasSet 2 RX3 p s m _ meth c := C
  have hl : lv_has ls 2 [(0, .ref xn), (1, .int p0)] := hl
  have hx := C.1
  have hb := C.2.1
  refine lv_aload_n hx hb dX3_hasSet_0 rfl (lv_at hl 0 rfl) ?_
  refine g_Vi C hl.1 hA hH (As := []) (rest := []) (k_isNone l E L f mn fn) my_X3_isNone wd13 mn fn rfl rfl rfl (Nat.le_of_ble_eq_true rfl) ⟨Nat.le_of_ble_eq_true rfl, Nat.le_of_ble_eq_true rfl⟩ ⟨Nat.le_of_ble_eq_true rfl, Nat.le_of_ble_eq_true rfl⟩ dX3_hasSet_1 (fun r3 L2 f1 H locs hp hH => ?_)
  obtain ⟨er3, rfl, rfl⟩ := hp
  subst er3
  refine lv_if_ne (tgt := 23) hx hb dX3_hasSet_4 (by decide) (fun _ => ?_) (fun h => absurd h (by decide))
  refine lv_iconst (v := (0 : Int32)) hx hb dX3_hasSet_23 (by decide) ?_
  refine g_zret C hr (by first | rfl | decide | (exact rfl)) hH (Nat.le_of_ble_eq_true rfl) (Nat.le_of_ble_eq_true rfl) dX3_hasSet_24 ?_
  exact ⟨rfl, rfl, rfl⟩
set_option maxHeartbeats 4000000 in
set_option maxRecDepth 100000 in
theorem k_isSlot (l : Launch) (E : gE) (L : List Nat) (f : gF) (p0 : Int32) : gMi l E yX9_isSlot cX9_isSlot 1 .boolean (gRm 1 0 0) [.int p0] L f (gRO (gSlot p0) L f) := by
  refine gMi.intro (by decide) (Nat.le_of_ble_eq_true rfl) ?_
  intro p e s m below meth c A ls C hr hA hH hl
  have C : gC E cX9_isSlot 1 RX9 p s m _ meth c := C
  have hl : lv_has ls 1 [(0, .int p0)] := hl
  have hx := C.1
  have hb := C.2.1
  refine lv_iload_n hx hb dX9_isSlot_0 rfl (lv_at hl 0 rfl) ?_
  refine lv_if_lt (tgt := 13) hx hb dX9_isSlot_1 (by decide) (fun c1 => ?_) (fun c1 => ?_)
  · skip
    refine lv_iconst (v := (0 : Int32)) hx hb dX9_isSlot_13 (by decide) ?_
    refine g_zret C hr (by first | rfl | decide | (exact rfl)) hH (Nat.le_of_ble_eq_true rfl) (Nat.le_of_ble_eq_true rfl) dX9_isSlot_14 ?_
    exact ⟨by rw [gSlot, if_pos c1], rfl, rfl⟩
  · skip
    refine lv_iload_n hx hb dX9_isSlot_4 rfl (lv_at hl 0 rfl) ?_
    refine lv_iconst (v := (4 : Int32)) hx hb dX9_isSlot_5 (by decide) ?_
    refine lv_icmp_ge (tgt := 13) hx hb dX9_isSlot_6 (by decide) (fun c2 => ?_) (fun c2 => ?_)
    · skip
      refine lv_iconst (v := (0 : Int32)) hx hb dX9_isSlot_13 (by decide) ?_
      refine g_zret C hr (by first | rfl | decide | (exact rfl)) hH (Nat.le_of_ble_eq_true rfl) (Nat.le_of_ble_eq_true rfl) dX9_isSlot_14 ?_
      exact ⟨by rw [gSlot, if_neg c1, if_pos c2], rfl, rfl⟩
    · skip
      refine lv_iconst (v := (1 : Int32)) hx hb dX9_isSlot_9 (by decide) ?_
      refine lv_goto (tgt := 14) hx hb dX9_isSlot_10 (by decide) ?_
      refine g_zret C hr (by first | rfl | decide | (exact rfl)) hH (Nat.le_of_ble_eq_true rfl) (Nat.le_of_ble_eq_true rfl) dX9_isSlot_14 ?_
      exact ⟨by rw [gSlot, if_neg c1, if_neg c2], rfl, rfl⟩
set_option maxHeartbeats 4000000 in
set_option maxRecDepth 100000 in
theorem k_rowRefusal (l : Launch) (E : gE) (L : List Nat) (f : gF) {x xt xn xr xi xw xs xl xc xh xf xm : Nat} (mx : x ∈ L) (fx : f x = .inr (9, [.ref xt, .ref xn, .ref xr, .ref xi, .ref xw, .ref xs, .ref xl, .ref xc, .ref xh, .ref xf, .ref xm])) {na : Nat → Nat} (mn : xn ∈ L) (fn : f xn = .inr (3, [.int (0 : Int32), .int (0 : Int32), .int (0 : Int32), .int (0 : Int32), .int (0 : Int32), .int (0 : Int32), .int (0 : Int32), .int (0 : Int32), .int (0 : Int32), .int (0 : Int32), .ref (na 0), .ref (na 1), .ref (na 2), .ref (na 3), .ref (na 4), .ref (na 5), .ref (na 6), .ref (na 7), .ref (na 8), .ref (na 9)])) (p0 : Int32) : gMi l E yX9_rowRefusal cX9_rowRefusal 2 .int (gRm 3 0 0) [.ref x, .int p0] L f (gRO (-2 : Int32) L f) := by
  refine gMi.intro (by decide) (Nat.le_of_ble_eq_true rfl) ?_
  intro p e s m below meth c A ls C hr hA hH hl
  have C : gC E cX9_rowRefusal 2 RX9 p s m _ meth c := C
  have hl : lv_has ls 2 [(0, .ref x), (1, .int p0)] := hl
  have hx := C.1
  have hb := C.2.1
  refine lv_iload_n hx hb dX9_rowRefusal_0 rfl (lv_at hl 1 rfl) ?_
  refine g_Si C hl.1 hA hH (As := [.int p0]) (rest := []) (k_isSlot l E L f p0) my_X9_isSlot wd17 rfl rfl (Nat.le_of_ble_eq_true rfl) ⟨Nat.le_of_ble_eq_true rfl, Nat.le_of_ble_eq_true rfl⟩ ⟨Nat.le_of_ble_eq_true rfl, Nat.le_of_ble_eq_true rfl⟩ dX9_rowRefusal_1 (fun r3 L2 f1 H locs hp hH => ?_)
  obtain ⟨er3, rfl, rfl⟩ := hp
  subst er3
  refine lv_if_eq (tgt := 17) hx hb dX9_rowRefusal_4 (by decide) (fun c4 => ?_) (fun c4 => ?_)
  · skip
    refine lv_bipush (v := (-2 : Int32)) hx hb dX9_rowRefusal_17 (by decide) ?_
    refine g_iret C hr hH (Nat.le_of_ble_eq_true rfl) (Nat.le_of_ble_eq_true rfl) dX9_rowRefusal_19 ?_
    exact ⟨rfl, rfl, rfl⟩
  · skip
    refine lv_aload_n hx hb dX9_rowRefusal_7 rfl (lv_at hl 0 rfl) ?_
    refine g_get C hH mx fx iX9 rfl 1 (by decide) wd18 rfl rfl dX9_rowRefusal_8 ?_
    refine g_Vi C hl.1 hA hH (As := []) (rest := []) (k_isNone l E L f mn fn) my_X3_isNone wd19 mn fn rfl rfl rfl (Nat.le_of_ble_eq_true rfl) ⟨Nat.le_of_ble_eq_true rfl, Nat.le_of_ble_eq_true rfl⟩ ⟨Nat.le_of_ble_eq_true rfl, Nat.le_of_ble_eq_true rfl⟩ dX9_rowRefusal_11 (fun r7 L6 f5 H locs hp hH => ?_)
    obtain ⟨er7, rfl, rfl⟩ := hp
    subst er7
    refine lv_if_eq (tgt := 20) hx hb dX9_rowRefusal_14 (by decide) (fun h => absurd h (by decide)) (fun _ => ?_)
    refine lv_bipush (v := (-2 : Int32)) hx hb dX9_rowRefusal_17 (by decide) ?_
    refine g_iret C hr hH (Nat.le_of_ble_eq_true rfl) (Nat.le_of_ble_eq_true rfl) dX9_rowRefusal_19 ?_
    exact ⟨rfl, rfl, rfl⟩
set_option maxHeartbeats 4000000 in
set_option maxRecDepth 100000 in
theorem k_sightRefusal (l : Launch) (E : gE) (L : List Nat) (f : gF) {x xt xn xr xi xw xs xl xc xh xf xm : Nat} (mx : x ∈ L) (fx : f x = .inr (9, [.ref xt, .ref xn, .ref xr, .ref xi, .ref xw, .ref xs, .ref xl, .ref xc, .ref xh, .ref xf, .ref xm])) {na : Nat → Nat} (mn : xn ∈ L) (fn : f xn = .inr (3, [.int (0 : Int32), .int (0 : Int32), .int (0 : Int32), .int (0 : Int32), .int (0 : Int32), .int (0 : Int32), .int (0 : Int32), .int (0 : Int32), .int (0 : Int32), .int (0 : Int32), .ref (na 0), .ref (na 1), .ref (na 2), .ref (na 3), .ref (na 4), .ref (na 5), .ref (na 6), .ref (na 7), .ref (na 8), .ref (na 9)])) (p0 : Int32) : gMi l E yX9_sightRefusal cX9_sightRefusal 3 .int (gRm 4 0 0) [.ref x, .int p0] L f (gRO (-2 : Int32) L f) := by
  refine gMi.intro (by decide) (Nat.le_of_ble_eq_true rfl) ?_
  intro p e s m below meth c A ls C hr hA hH hl
  have C : gC E cX9_sightRefusal 3 RX9 p s m _ meth c := C
  have hl : lv_has ls 3 [(0, .ref x), (1, .int p0)] := hl
  have hx := C.1
  have hb := C.2.1
  refine lv_aload_n hx hb dX9_sightRefusal_0 rfl (lv_at hl 0 rfl) ?_
  refine lv_iload_n hx hb dX9_sightRefusal_1 rfl (lv_at hl 1 rfl) ?_
  refine g_Vi C hl.1 hA hH (As := [.int p0]) (rest := []) (k_rowRefusal l E L f mx fx mn fn p0) my_X9_rowRefusal wd23 mx fx rfl rfl rfl (Nat.le_of_ble_eq_true rfl) ⟨Nat.le_of_ble_eq_true rfl, Nat.le_of_ble_eq_true rfl⟩ ⟨Nat.le_of_ble_eq_true rfl, Nat.le_of_ble_eq_true rfl⟩ dX9_sightRefusal_2 (fun r3 L2 f1 H locs hp hH => ?_)
  obtain ⟨er3, rfl, rfl⟩ := hp
  subst er3
  refine lv_istore_n (lv' := [(2, .int (-2 : Int32)), (0, .ref x), (1, .int p0)]) hx hb dX9_sightRefusal_5 rfl hl (by decide) rfl (fun ls hl => ?_)
  refine lv_iload_n hx hb dX9_sightRefusal_6 rfl (lv_at hl 0 rfl) ?_
  refine lv_if_eq (tgt := 12) hx hb dX9_sightRefusal_7 (by decide) (fun h => absurd h (by decide)) (fun _ => ?_)
  refine lv_iload_n hx hb dX9_sightRefusal_10 rfl (lv_at hl 0 rfl) ?_
  refine g_iret C hr hH (Nat.le_of_ble_eq_true rfl) (Nat.le_of_ble_eq_true rfl) dX9_sightRefusal_11 ?_
  exact ⟨rfl, rfl, rfl⟩
set_option maxHeartbeats 4000000 in
set_option maxRecDepth 100000 in
theorem k_reportRefusal (l : Launch) (E : gE) (L : List Nat) (f : gF) {x xt xn xr xi xw xs xl xc xh xf xm : Nat} (mx : x ∈ L) (fx : f x = .inr (9, [.ref xt, .ref xn, .ref xr, .ref xi, .ref xw, .ref xs, .ref xl, .ref xc, .ref xh, .ref xf, .ref xm])) {na : Nat → Nat} (mn : xn ∈ L) (fn : f xn = .inr (3, [.int (0 : Int32), .int (0 : Int32), .int (0 : Int32), .int (0 : Int32), .int (0 : Int32), .int (0 : Int32), .int (0 : Int32), .int (0 : Int32), .int (0 : Int32), .int (0 : Int32), .ref (na 0), .ref (na 1), .ref (na 2), .ref (na 3), .ref (na 4), .ref (na 5), .ref (na 6), .ref (na 7), .ref (na 8), .ref (na 9)])) (p0 : Int32) : gMi l E yX9_reportRefusal cX9_reportRefusal 3 .int (gRm 4 0 0) [.ref x, .int p0] L f (gRO (-2 : Int32) L f) := by
  refine gMi.intro (by decide) (Nat.le_of_ble_eq_true rfl) ?_
  intro p e s m below meth c A ls C hr hA hH hl
  have C : gC E cX9_reportRefusal 3 RX9 p s m _ meth c := C
  have hl : lv_has ls 3 [(0, .ref x), (1, .int p0)] := hl
  have hx := C.1
  have hb := C.2.1
  refine lv_aload_n hx hb dX9_reportRefusal_0 rfl (lv_at hl 0 rfl) ?_
  refine lv_iload_n hx hb dX9_reportRefusal_1 rfl (lv_at hl 1 rfl) ?_
  refine g_Vi C hl.1 hA hH (As := [.int p0]) (rest := []) (k_rowRefusal l E L f mx fx mn fn p0) my_X9_rowRefusal wd23 mx fx rfl rfl rfl (Nat.le_of_ble_eq_true rfl) ⟨Nat.le_of_ble_eq_true rfl, Nat.le_of_ble_eq_true rfl⟩ ⟨Nat.le_of_ble_eq_true rfl, Nat.le_of_ble_eq_true rfl⟩ dX9_reportRefusal_2 (fun r3 L2 f1 H locs hp hH => ?_)
  obtain ⟨er3, rfl, rfl⟩ := hp
  subst er3
  refine lv_istore_n (lv' := [(2, .int (-2 : Int32)), (0, .ref x), (1, .int p0)]) hx hb dX9_reportRefusal_5 rfl hl (by decide) rfl (fun ls hl => ?_)
  refine lv_iload_n hx hb dX9_reportRefusal_6 rfl (lv_at hl 0 rfl) ?_
  refine lv_if_eq (tgt := 12) hx hb dX9_reportRefusal_7 (by decide) (fun h => absurd h (by decide)) (fun _ => ?_)
  refine lv_iload_n hx hb dX9_reportRefusal_10 rfl (lv_at hl 0 rfl) ?_
  refine g_iret C hr hH (Nat.le_of_ble_eq_true rfl) (Nat.le_of_ble_eq_true rfl) dX9_reportRefusal_11 ?_
  exact ⟨rfl, rfl, rfl⟩
set_option maxHeartbeats 4000000 in
set_option maxRecDepth 100000 in
theorem k_areTwo (l : Launch) (E : gE) (L : List Nat) (f : gF) {x xt xn xr xi xw xs xl xc xh xf xm : Nat} (mx : x ∈ L) (fx : f x = .inr (9, [.ref xt, .ref xn, .ref xr, .ref xi, .ref xw, .ref xs, .ref xl, .ref xc, .ref xh, .ref xf, .ref xm])) {na : Nat → Nat} (mn : xn ∈ L) (fn : f xn = .inr (3, [.int (0 : Int32), .int (0 : Int32), .int (0 : Int32), .int (0 : Int32), .int (0 : Int32), .int (0 : Int32), .int (0 : Int32), .int (0 : Int32), .int (0 : Int32), .int (0 : Int32), .ref (na 0), .ref (na 1), .ref (na 2), .ref (na 3), .ref (na 4), .ref (na 5), .ref (na 6), .ref (na 7), .ref (na 8), .ref (na 9)])) (p0 p1 : Int32) : gMi l E yX9_areTwo cX9_areTwo 3 .boolean (gRm 3 0 0) [.ref x, .int p0, .int p1] L f (gRO (0 : Int32) L f) := by
  refine gMi.intro (by decide) (Nat.le_of_ble_eq_true rfl) ?_
  intro p e s m below meth c A ls C hr hA hH hl
  have C : gC E cX9_areTwo 3 RX9 p s m _ meth c := C
  have hl : lv_has ls 3 [(0, .ref x), (1, .int p0), (2, .int p1)] := hl
  have hx := C.1
  have hb := C.2.1
  refine lv_aload_n hx hb dX9_areTwo_0 rfl (lv_at hl 0 rfl) ?_
  refine g_get C hH mx fx iX9 rfl 1 (by decide) wd18 rfl rfl dX9_areTwo_1 ?_
  refine lv_iload_n hx hb dX9_areTwo_4 rfl (lv_at hl 1 rfl) ?_
  refine g_Vi C hl.1 hA hH (As := [.int p0]) (rest := []) (k_hasMember l E L f mn fn p0) my_X3_hasMember wd27 mn fn rfl rfl rfl (Nat.le_of_ble_eq_true rfl) ⟨Nat.le_of_ble_eq_true rfl, Nat.le_of_ble_eq_true rfl⟩ ⟨Nat.le_of_ble_eq_true rfl, Nat.le_of_ble_eq_true rfl⟩ dX9_areTwo_5 (fun r3 L2 f1 H locs hp hH => ?_)
  obtain ⟨er3, rfl, rfl⟩ := hp
  subst er3
  refine lv_if_eq (tgt := 31) hx hb dX9_areTwo_8 (by decide) (fun _ => ?_) (fun h => absurd (by decide) h)
  refine lv_iconst (v := (0 : Int32)) hx hb dX9_areTwo_31 (by decide) ?_
  refine g_zret C hr (by first | rfl | decide | (exact rfl)) hH (Nat.le_of_ble_eq_true rfl) (Nat.le_of_ble_eq_true rfl) dX9_areTwo_32 ?_
  exact ⟨rfl, rfl, rfl⟩
set_option maxHeartbeats 4000000 in
set_option maxRecDepth 100000 in
theorem k_flight (l : Launch) (E : gE) (L : List Nat) (f : gF) {x xt xn xr xi xw xs xl xc xh xf xm : Nat} (mx : x ∈ L) (fx : f x = .inr (9, [.ref xt, .ref xn, .ref xr, .ref xi, .ref xw, .ref xs, .ref xl, .ref xc, .ref xh, .ref xf, .ref xm])) {na : Nat → Nat} (mn : xn ∈ L) (fn : f xn = .inr (3, [.int (0 : Int32), .int (0 : Int32), .int (0 : Int32), .int (0 : Int32), .int (0 : Int32), .int (0 : Int32), .int (0 : Int32), .int (0 : Int32), .int (0 : Int32), .int (0 : Int32), .ref (na 0), .ref (na 1), .ref (na 2), .ref (na 3), .ref (na 4), .ref (na 5), .ref (na 6), .ref (na 7), .ref (na 8), .ref (na 9)])) (p0 p1 : Int32) : gMi l E yX9_flight cX9_flight 3 .int (gRm 5 0 0) [.ref x, .int p0, .int p1] L f (gRO (-2 : Int32) L f) := by
  refine gMi.intro (by decide) (Nat.le_of_ble_eq_true rfl) ?_
  intro p e s m below meth c A ls C hr hA hH hl
  have C : gC E cX9_flight 3 RX9 p s m _ meth c := C
  have hl : lv_has ls 3 [(0, .ref x), (1, .int p0), (2, .int p1)] := hl
  have hx := C.1
  have hb := C.2.1
  refine lv_aload_n hx hb dX9_flight_0 rfl (lv_at hl 0 rfl) ?_
  refine g_get C hH mx fx iX9 rfl 1 (by decide) wd18 rfl rfl dX9_flight_1 ?_
  refine lv_iload_n hx hb dX9_flight_4 rfl (lv_at hl 1 rfl) ?_
  refine g_Vi C hl.1 hA hH (As := [.int p0]) (rest := []) (k_hasFlight l E L f mn fn p0) my_X3_hasFlight wd31 mn fn rfl rfl rfl (Nat.le_of_ble_eq_true rfl) ⟨Nat.le_of_ble_eq_true rfl, Nat.le_of_ble_eq_true rfl⟩ ⟨Nat.le_of_ble_eq_true rfl, Nat.le_of_ble_eq_true rfl⟩ dX9_flight_5 (fun r3 L2 f1 H locs hp hH => ?_)
  obtain ⟨er3, rfl, rfl⟩ := hp
  subst er3
  refine lv_if_ne (tgt := 14) hx hb dX9_flight_8 (by decide) (fun h => absurd (by decide) h) (fun _ => ?_)
  refine lv_bipush (v := (-2 : Int32)) hx hb dX9_flight_11 (by decide) ?_
  refine g_iret C hr hH (Nat.le_of_ble_eq_true rfl) (Nat.le_of_ble_eq_true rfl) dX9_flight_13 ?_
  exact ⟨rfl, rfl, rfl⟩
set_option maxHeartbeats 4000000 in
set_option maxRecDepth 100000 in
theorem k_member (l : Launch) (E : gE) (L : List Nat) (f : gF) {x xt xn xr xi xw xs xl xc xh xf xm : Nat} (mx : x ∈ L) (fx : f x = .inr (9, [.ref xt, .ref xn, .ref xr, .ref xi, .ref xw, .ref xs, .ref xl, .ref xc, .ref xh, .ref xf, .ref xm])) {na : Nat → Nat} (mn : xn ∈ L) (fn : f xn = .inr (3, [.int (0 : Int32), .int (0 : Int32), .int (0 : Int32), .int (0 : Int32), .int (0 : Int32), .int (0 : Int32), .int (0 : Int32), .int (0 : Int32), .int (0 : Int32), .int (0 : Int32), .ref (na 0), .ref (na 1), .ref (na 2), .ref (na 3), .ref (na 4), .ref (na 5), .ref (na 6), .ref (na 7), .ref (na 8), .ref (na 9)])) (p0 p1 : Int32) : gMi l E yX9_member cX9_member 3 .int (gRm 5 0 0) [.ref x, .int p0, .int p1] L f (gRO (-2 : Int32) L f) := by
  refine gMi.intro (by decide) (Nat.le_of_ble_eq_true rfl) ?_
  intro p e s m below meth c A ls C hr hA hH hl
  have C : gC E cX9_member 3 RX9 p s m _ meth c := C
  have hl : lv_has ls 3 [(0, .ref x), (1, .int p0), (2, .int p1)] := hl
  have hx := C.1
  have hb := C.2.1
  refine lv_aload_n hx hb dX9_member_0 rfl (lv_at hl 0 rfl) ?_
  refine g_get C hH mx fx iX9 rfl 1 (by decide) wd18 rfl rfl dX9_member_1 ?_
  refine lv_iload_n hx hb dX9_member_4 rfl (lv_at hl 1 rfl) ?_
  refine g_Vi C hl.1 hA hH (As := [.int p0]) (rest := []) (k_hasMember l E L f mn fn p0) my_X3_hasMember wd27 mn fn rfl rfl rfl (Nat.le_of_ble_eq_true rfl) ⟨Nat.le_of_ble_eq_true rfl, Nat.le_of_ble_eq_true rfl⟩ ⟨Nat.le_of_ble_eq_true rfl, Nat.le_of_ble_eq_true rfl⟩ dX9_member_5 (fun r3 L2 f1 H locs hp hH => ?_)
  obtain ⟨er3, rfl, rfl⟩ := hp
  subst er3
  refine lv_if_ne (tgt := 14) hx hb dX9_member_8 (by decide) (fun h => absurd (by decide) h) (fun _ => ?_)
  refine lv_bipush (v := (-2 : Int32)) hx hb dX9_member_11 (by decide) ?_
  refine g_iret C hr hH (Nat.le_of_ble_eq_true rfl) (Nat.le_of_ble_eq_true rfl) dX9_member_13 ?_
  exact ⟨rfl, rfl, rfl⟩
set_option maxHeartbeats 4000000 in
set_option maxRecDepth 100000 in
theorem k_lamps (l : Launch) (E : gE) (L : List Nat) (f : gF) {x xt xn xr xi xw xs xl xc xh xf xm : Nat} (mx : x ∈ L) (fx : f x = .inr (9, [.ref xt, .ref xn, .ref xr, .ref xi, .ref xw, .ref xs, .ref xl, .ref xc, .ref xh, .ref xf, .ref xm])) {na : Nat → Nat} (mn : xn ∈ L) (fn : f xn = .inr (3, [.int (0 : Int32), .int (0 : Int32), .int (0 : Int32), .int (0 : Int32), .int (0 : Int32), .int (0 : Int32), .int (0 : Int32), .int (0 : Int32), .int (0 : Int32), .int (0 : Int32), .ref (na 0), .ref (na 1), .ref (na 2), .ref (na 3), .ref (na 4), .ref (na 5), .ref (na 6), .ref (na 7), .ref (na 8), .ref (na 9)])) : gMi l E yX9_lamps cX9_lamps 1 .int (gRm 5 0 0) [.ref x] L f (gRO (-2 : Int32) L f) := by
  refine gMi.intro (by decide) (Nat.le_of_ble_eq_true rfl) ?_
  intro p e s m below meth c A ls C hr hA hH hl
  have C : gC E cX9_lamps 1 RX9 p s m _ meth c := C
  have hl : lv_has ls 1 [(0, .ref x)] := hl
  have hx := C.1
  have hb := C.2.1
  refine lv_aload_n hx hb dX9_lamps_0 rfl (lv_at hl 0 rfl) ?_
  refine g_get C hH mx fx iX9 rfl 1 (by decide) wd18 rfl rfl dX9_lamps_1 ?_
  refine g_Vi C hl.1 hA hH (As := []) (rest := []) (k_isNone l E L f mn fn) my_X3_isNone wd19 mn fn rfl rfl rfl (Nat.le_of_ble_eq_true rfl) ⟨Nat.le_of_ble_eq_true rfl, Nat.le_of_ble_eq_true rfl⟩ ⟨Nat.le_of_ble_eq_true rfl, Nat.le_of_ble_eq_true rfl⟩ dX9_lamps_4 (fun r3 L2 f1 H locs hp hH => ?_)
  obtain ⟨er3, rfl, rfl⟩ := hp
  subst er3
  refine lv_if_eq (tgt := 15) hx hb dX9_lamps_7 (by decide) (fun h => absurd h (by decide)) (fun _ => ?_)
  refine lv_bipush (v := (-2 : Int32)) hx hb dX9_lamps_10 (by decide) ?_
  refine lv_goto (tgt := 22) hx hb dX9_lamps_12 (by decide) ?_
  refine g_iret C hr hH (Nat.le_of_ble_eq_true rfl) (Nat.le_of_ble_eq_true rfl) dX9_lamps_22 ?_
  exact ⟨rfl, rfl, rfl⟩
set_option maxHeartbeats 4000000 in
set_option maxRecDepth 100000 in
theorem k_at (l : Launch) (E : gE) (L : List Nat) (f : gF) {x xt xn xr xi xw xs xl xc xh xf xm : Nat} (mx : x ∈ L) (fx : f x = .inr (9, [.ref xt, .ref xn, .ref xr, .ref xi, .ref xw, .ref xs, .ref xl, .ref xc, .ref xh, .ref xf, .ref xm])) {na : Nat → Nat} (mn : xn ∈ L) (fn : f xn = .inr (3, [.int (0 : Int32), .int (0 : Int32), .int (0 : Int32), .int (0 : Int32), .int (0 : Int32), .int (0 : Int32), .int (0 : Int32), .int (0 : Int32), .int (0 : Int32), .int (0 : Int32), .ref (na 0), .ref (na 1), .ref (na 2), .ref (na 3), .ref (na 4), .ref (na 5), .ref (na 6), .ref (na 7), .ref (na 8), .ref (na 9)])) (p0 p1 : Int32) : gMi l E yX9_at cX9_at 3 .int (gRm 5 0 0) [.ref x, .int p0, .int p1] L f (gRO (-2 : Int32) L f) := by
  refine gMi.intro (by decide) (Nat.le_of_ble_eq_true rfl) ?_
  intro p e s m below meth c A ls C hr hA hH hl
  have C : gC E cX9_at 3 RX9 p s m _ meth c := C
  have hl : lv_has ls 3 [(0, .ref x), (1, .int p0), (2, .int p1)] := hl
  have hx := C.1
  have hb := C.2.1
  refine lv_aload_n hx hb dX9_at_0 rfl (lv_at hl 0 rfl) ?_
  refine g_get C hH mx fx iX9 rfl 1 (by decide) wd18 rfl rfl dX9_at_1 ?_
  refine lv_iload_n hx hb dX9_at_4 rfl (lv_at hl 1 rfl) ?_
  refine g_Vi C hl.1 hA hH (As := [.int p0]) (rest := []) (k_hasFlight l E L f mn fn p0) my_X3_hasFlight wd31 mn fn rfl rfl rfl (Nat.le_of_ble_eq_true rfl) ⟨Nat.le_of_ble_eq_true rfl, Nat.le_of_ble_eq_true rfl⟩ ⟨Nat.le_of_ble_eq_true rfl, Nat.le_of_ble_eq_true rfl⟩ dX9_at_5 (fun r3 L2 f1 H locs hp hH => ?_)
  obtain ⟨er3, rfl, rfl⟩ := hp
  subst er3
  refine lv_if_eq (tgt := 18) hx hb dX9_at_8 (by decide) (fun _ => ?_) (fun h => absurd (by decide) h)
  refine lv_bipush (v := (-2 : Int32)) hx hb dX9_at_18 (by decide) ?_
  refine g_iret C hr hH (Nat.le_of_ble_eq_true rfl) (Nat.le_of_ble_eq_true rfl) dX9_at_20 ?_
  exact ⟨rfl, rfl, rfl⟩
set_option maxHeartbeats 4000000 in
set_option maxRecDepth 100000 in
theorem k_heads (l : Launch) (E : gE) (L : List Nat) (f : gF) {x xt xn xr xi xw xs xl xc xh xf xm : Nat} (mx : x ∈ L) (fx : f x = .inr (9, [.ref xt, .ref xn, .ref xr, .ref xi, .ref xw, .ref xs, .ref xl, .ref xc, .ref xh, .ref xf, .ref xm])) {na : Nat → Nat} (mn : xn ∈ L) (fn : f xn = .inr (3, [.int (0 : Int32), .int (0 : Int32), .int (0 : Int32), .int (0 : Int32), .int (0 : Int32), .int (0 : Int32), .int (0 : Int32), .int (0 : Int32), .int (0 : Int32), .int (0 : Int32), .ref (na 0), .ref (na 1), .ref (na 2), .ref (na 3), .ref (na 4), .ref (na 5), .ref (na 6), .ref (na 7), .ref (na 8), .ref (na 9)])) (p0 p1 : Int32) : gMi l E yX9_heads cX9_heads 3 .int (gRm 5 0 0) [.ref x, .int p0, .int p1] L f (gRO (-2 : Int32) L f) := by
  refine gMi.intro (by decide) (Nat.le_of_ble_eq_true rfl) ?_
  intro p e s m below meth c A ls C hr hA hH hl
  have C : gC E cX9_heads 3 RX9 p s m _ meth c := C
  have hl : lv_has ls 3 [(0, .ref x), (1, .int p0), (2, .int p1)] := hl
  have hx := C.1
  have hb := C.2.1
  refine lv_aload_n hx hb dX9_heads_0 rfl (lv_at hl 0 rfl) ?_
  refine g_get C hH mx fx iX9 rfl 1 (by decide) wd18 rfl rfl dX9_heads_1 ?_
  refine lv_iload_n hx hb dX9_heads_4 rfl (lv_at hl 1 rfl) ?_
  refine g_Vi C hl.1 hA hH (As := [.int p0]) (rest := []) (k_hasFlight l E L f mn fn p0) my_X3_hasFlight wd31 mn fn rfl rfl rfl (Nat.le_of_ble_eq_true rfl) ⟨Nat.le_of_ble_eq_true rfl, Nat.le_of_ble_eq_true rfl⟩ ⟨Nat.le_of_ble_eq_true rfl, Nat.le_of_ble_eq_true rfl⟩ dX9_heads_5 (fun r3 L2 f1 H locs hp hH => ?_)
  obtain ⟨er3, rfl, rfl⟩ := hp
  subst er3
  refine lv_if_eq (tgt := 18) hx hb dX9_heads_8 (by decide) (fun _ => ?_) (fun h => absurd (by decide) h)
  refine lv_bipush (v := (-2 : Int32)) hx hb dX9_heads_18 (by decide) ?_
  refine g_iret C hr hH (Nat.le_of_ble_eq_true rfl) (Nat.le_of_ble_eq_true rfl) dX9_heads_20 ?_
  exact ⟨rfl, rfl, rfl⟩
set_option maxHeartbeats 4000000 in
set_option maxRecDepth 100000 in
theorem k_out (l : Launch) (E : gE) (L : List Nat) (f : gF) {x xt xn xr xi xw xs xl xc xh xf xm : Nat} (mx : x ∈ L) (fx : f x = .inr (9, [.ref xt, .ref xn, .ref xr, .ref xi, .ref xw, .ref xs, .ref xl, .ref xc, .ref xh, .ref xf, .ref xm])) {na : Nat → Nat} (mn : xn ∈ L) (fn : f xn = .inr (3, [.int (0 : Int32), .int (0 : Int32), .int (0 : Int32), .int (0 : Int32), .int (0 : Int32), .int (0 : Int32), .int (0 : Int32), .int (0 : Int32), .int (0 : Int32), .int (0 : Int32), .ref (na 0), .ref (na 1), .ref (na 2), .ref (na 3), .ref (na 4), .ref (na 5), .ref (na 6), .ref (na 7), .ref (na 8), .ref (na 9)])) (p0 : Int32) : gMi l E yX9_out cX9_out 2 .int (gRm 5 0 0) [.ref x, .int p0] L f (gRO (-2 : Int32) L f) := by
  refine gMi.intro (by decide) (Nat.le_of_ble_eq_true rfl) ?_
  intro p e s m below meth c A ls C hr hA hH hl
  have C : gC E cX9_out 2 RX9 p s m _ meth c := C
  have hl : lv_has ls 2 [(0, .ref x), (1, .int p0)] := hl
  have hx := C.1
  have hb := C.2.1
  refine lv_aload_n hx hb dX9_out_0 rfl (lv_at hl 0 rfl) ?_
  refine g_get C hH mx fx iX9 rfl 1 (by decide) wd18 rfl rfl dX9_out_1 ?_
  refine lv_iload_n hx hb dX9_out_4 rfl (lv_at hl 1 rfl) ?_
  refine g_Vi C hl.1 hA hH (As := [.int p0]) (rest := []) (k_hasFlight l E L f mn fn p0) my_X3_hasFlight wd31 mn fn rfl rfl rfl (Nat.le_of_ble_eq_true rfl) ⟨Nat.le_of_ble_eq_true rfl, Nat.le_of_ble_eq_true rfl⟩ ⟨Nat.le_of_ble_eq_true rfl, Nat.le_of_ble_eq_true rfl⟩ dX9_out_5 (fun r3 L2 f1 H locs hp hH => ?_)
  obtain ⟨er3, rfl, rfl⟩ := hp
  subst er3
  refine lv_if_ne (tgt := 14) hx hb dX9_out_8 (by decide) (fun h => absurd (by decide) h) (fun _ => ?_)
  refine lv_bipush (v := (-2 : Int32)) hx hb dX9_out_11 (by decide) ?_
  refine g_iret C hr hH (Nat.le_of_ble_eq_true rfl) (Nat.le_of_ble_eq_true rfl) dX9_out_13 ?_
  exact ⟨rfl, rfl, rfl⟩
set_option maxHeartbeats 4000000 in
set_option maxRecDepth 100000 in
theorem k_bends (l : Launch) (E : gE) (L : List Nat) (f : gF) {x xt xn xr xi xw xs xl xc xh xf xm : Nat} (mx : x ∈ L) (fx : f x = .inr (9, [.ref xt, .ref xn, .ref xr, .ref xi, .ref xw, .ref xs, .ref xl, .ref xc, .ref xh, .ref xf, .ref xm])) {na : Nat → Nat} (mn : xn ∈ L) (fn : f xn = .inr (3, [.int (0 : Int32), .int (0 : Int32), .int (0 : Int32), .int (0 : Int32), .int (0 : Int32), .int (0 : Int32), .int (0 : Int32), .int (0 : Int32), .int (0 : Int32), .int (0 : Int32), .ref (na 0), .ref (na 1), .ref (na 2), .ref (na 3), .ref (na 4), .ref (na 5), .ref (na 6), .ref (na 7), .ref (na 8), .ref (na 9)])) (p0 : Int32) : gMi l E yX9_bends cX9_bends 2 .int (gRm 5 0 0) [.ref x, .int p0] L f (gRO (-2 : Int32) L f) := by
  refine gMi.intro (by decide) (Nat.le_of_ble_eq_true rfl) ?_
  intro p e s m below meth c A ls C hr hA hH hl
  have C : gC E cX9_bends 2 RX9 p s m _ meth c := C
  have hl : lv_has ls 2 [(0, .ref x), (1, .int p0)] := hl
  have hx := C.1
  have hb := C.2.1
  refine lv_aload_n hx hb dX9_bends_0 rfl (lv_at hl 0 rfl) ?_
  refine g_get C hH mx fx iX9 rfl 1 (by decide) wd18 rfl rfl dX9_bends_1 ?_
  refine lv_iload_n hx hb dX9_bends_4 rfl (lv_at hl 1 rfl) ?_
  refine g_Vi C hl.1 hA hH (As := [.int p0]) (rest := []) (k_hasFlight l E L f mn fn p0) my_X3_hasFlight wd31 mn fn rfl rfl rfl (Nat.le_of_ble_eq_true rfl) ⟨Nat.le_of_ble_eq_true rfl, Nat.le_of_ble_eq_true rfl⟩ ⟨Nat.le_of_ble_eq_true rfl, Nat.le_of_ble_eq_true rfl⟩ dX9_bends_5 (fun r3 L2 f1 H locs hp hH => ?_)
  obtain ⟨er3, rfl, rfl⟩ := hp
  subst er3
  refine lv_if_ne (tgt := 14) hx hb dX9_bends_8 (by decide) (fun h => absurd (by decide) h) (fun _ => ?_)
  refine lv_bipush (v := (-2 : Int32)) hx hb dX9_bends_11 (by decide) ?_
  refine g_iret C hr hH (Nat.le_of_ble_eq_true rfl) (Nat.le_of_ble_eq_true rfl) dX9_bends_13 ?_
  exact ⟨rfl, rfl, rfl⟩
set_option maxHeartbeats 4000000 in
set_option maxRecDepth 100000 in
theorem k_way (l : Launch) (E : gE) (L : List Nat) (f : gF) {x xt xn xr xi xw xs xl xc xh xf xm : Nat} (mx : x ∈ L) (fx : f x = .inr (9, [.ref xt, .ref xn, .ref xr, .ref xi, .ref xw, .ref xs, .ref xl, .ref xc, .ref xh, .ref xf, .ref xm])) {na : Nat → Nat} (mn : xn ∈ L) (fn : f xn = .inr (3, [.int (0 : Int32), .int (0 : Int32), .int (0 : Int32), .int (0 : Int32), .int (0 : Int32), .int (0 : Int32), .int (0 : Int32), .int (0 : Int32), .int (0 : Int32), .int (0 : Int32), .ref (na 0), .ref (na 1), .ref (na 2), .ref (na 3), .ref (na 4), .ref (na 5), .ref (na 6), .ref (na 7), .ref (na 8), .ref (na 9)])) (p0 : Int32) : gMi l E yX9_way cX9_way 2 .int (gRm 5 0 0) [.ref x, .int p0] L f (gRO (-2 : Int32) L f) := by
  refine gMi.intro (by decide) (Nat.le_of_ble_eq_true rfl) ?_
  intro p e s m below meth c A ls C hr hA hH hl
  have C : gC E cX9_way 2 RX9 p s m _ meth c := C
  have hl : lv_has ls 2 [(0, .ref x), (1, .int p0)] := hl
  have hx := C.1
  have hb := C.2.1
  refine lv_aload_n hx hb dX9_way_0 rfl (lv_at hl 0 rfl) ?_
  refine g_get C hH mx fx iX9 rfl 1 (by decide) wd18 rfl rfl dX9_way_1 ?_
  refine lv_iload_n hx hb dX9_way_4 rfl (lv_at hl 1 rfl) ?_
  refine g_Vi C hl.1 hA hH (As := [.int p0]) (rest := []) (k_hasFlight l E L f mn fn p0) my_X3_hasFlight wd31 mn fn rfl rfl rfl (Nat.le_of_ble_eq_true rfl) ⟨Nat.le_of_ble_eq_true rfl, Nat.le_of_ble_eq_true rfl⟩ ⟨Nat.le_of_ble_eq_true rfl, Nat.le_of_ble_eq_true rfl⟩ dX9_way_5 (fun r3 L2 f1 H locs hp hH => ?_)
  obtain ⟨er3, rfl, rfl⟩ := hp
  subst er3
  refine lv_if_ne (tgt := 14) hx hb dX9_way_8 (by decide) (fun h => absurd (by decide) h) (fun _ => ?_)
  refine lv_bipush (v := (-2 : Int32)) hx hb dX9_way_11 (by decide) ?_
  refine g_iret C hr hH (Nat.le_of_ble_eq_true rfl) (Nat.le_of_ble_eq_true rfl) dX9_way_13 ?_
  exact ⟨rfl, rfl, rfl⟩
set_option maxHeartbeats 4000000 in
set_option maxRecDepth 100000 in
theorem k_over (l : Launch) (E : gE) (L : List Nat) (f : gF) {x xt xn xr xi xw xs xl xc xh xf xm : Nat} (mx : x ∈ L) (fx : f x = .inr (9, [.ref xt, .ref xn, .ref xr, .ref xi, .ref xw, .ref xs, .ref xl, .ref xc, .ref xh, .ref xf, .ref xm])) {na : Nat → Nat} (mn : xn ∈ L) (fn : f xn = .inr (3, [.int (0 : Int32), .int (0 : Int32), .int (0 : Int32), .int (0 : Int32), .int (0 : Int32), .int (0 : Int32), .int (0 : Int32), .int (0 : Int32), .int (0 : Int32), .int (0 : Int32), .ref (na 0), .ref (na 1), .ref (na 2), .ref (na 3), .ref (na 4), .ref (na 5), .ref (na 6), .ref (na 7), .ref (na 8), .ref (na 9)])) (p0 : Int32) : gMi l E yX9_over cX9_over 2 .int (gRm 5 0 0) [.ref x, .int p0] L f (gRO (-2 : Int32) L f) := by
  refine gMi.intro (by decide) (Nat.le_of_ble_eq_true rfl) ?_
  intro p e s m below meth c A ls C hr hA hH hl
  have C : gC E cX9_over 2 RX9 p s m _ meth c := C
  have hl : lv_has ls 2 [(0, .ref x), (1, .int p0)] := hl
  have hx := C.1
  have hb := C.2.1
  refine lv_aload_n hx hb dX9_over_0 rfl (lv_at hl 0 rfl) ?_
  refine g_get C hH mx fx iX9 rfl 1 (by decide) wd18 rfl rfl dX9_over_1 ?_
  refine lv_iload_n hx hb dX9_over_4 rfl (lv_at hl 1 rfl) ?_
  refine g_Vi C hl.1 hA hH (As := [.int p0]) (rest := []) (k_hasCell l E L f mn fn p0) my_X3_hasCell wd35 mn fn rfl rfl rfl (Nat.le_of_ble_eq_true rfl) ⟨Nat.le_of_ble_eq_true rfl, Nat.le_of_ble_eq_true rfl⟩ ⟨Nat.le_of_ble_eq_true rfl, Nat.le_of_ble_eq_true rfl⟩ dX9_over_5 (fun r3 L2 f1 H locs hp hH => ?_)
  obtain ⟨er3, rfl, rfl⟩ := hp
  subst er3
  refine lv_if_ne (tgt := 14) hx hb dX9_over_8 (by decide) (fun h => absurd (by decide) h) (fun _ => ?_)
  refine lv_bipush (v := (-2 : Int32)) hx hb dX9_over_11 (by decide) ?_
  refine g_iret C hr hH (Nat.le_of_ble_eq_true rfl) (Nat.le_of_ble_eq_true rfl) dX9_over_13 ?_
  exact ⟨rfl, rfl, rfl⟩
set_option maxHeartbeats 4000000 in
set_option maxRecDepth 100000 in
theorem k_geese (l : Launch) (E : gE) (L : List Nat) (f : gF) {x xt xn xr xi xw xs xl xc xh xf xm : Nat} (mx : x ∈ L) (fx : f x = .inr (9, [.ref xt, .ref xn, .ref xr, .ref xi, .ref xw, .ref xs, .ref xl, .ref xc, .ref xh, .ref xf, .ref xm])) {na : Nat → Nat} (mn : xn ∈ L) (fn : f xn = .inr (3, [.int (0 : Int32), .int (0 : Int32), .int (0 : Int32), .int (0 : Int32), .int (0 : Int32), .int (0 : Int32), .int (0 : Int32), .int (0 : Int32), .int (0 : Int32), .int (0 : Int32), .ref (na 0), .ref (na 1), .ref (na 2), .ref (na 3), .ref (na 4), .ref (na 5), .ref (na 6), .ref (na 7), .ref (na 8), .ref (na 9)])) (p0 p1 : Int32) : gMi l E yX9_geese cX9_geese 3 .int (gRm 5 0 0) [.ref x, .int p0, .int p1] L f (gRO (-2 : Int32) L f) := by
  refine gMi.intro (by decide) (Nat.le_of_ble_eq_true rfl) ?_
  intro p e s m below meth c A ls C hr hA hH hl
  have C : gC E cX9_geese 3 RX9 p s m _ meth c := C
  have hl : lv_has ls 3 [(0, .ref x), (1, .int p0), (2, .int p1)] := hl
  have hx := C.1
  have hb := C.2.1
  refine lv_aload_n hx hb dX9_geese_0 rfl (lv_at hl 0 rfl) ?_
  refine g_get C hH mx fx iX9 rfl 1 (by decide) wd18 rfl rfl dX9_geese_1 ?_
  refine lv_iload_n hx hb dX9_geese_4 rfl (lv_at hl 1 rfl) ?_
  refine g_Vi C hl.1 hA hH (As := [.int p0]) (rest := []) (k_hasCell l E L f mn fn p0) my_X3_hasCell wd35 mn fn rfl rfl rfl (Nat.le_of_ble_eq_true rfl) ⟨Nat.le_of_ble_eq_true rfl, Nat.le_of_ble_eq_true rfl⟩ ⟨Nat.le_of_ble_eq_true rfl, Nat.le_of_ble_eq_true rfl⟩ dX9_geese_5 (fun r3 L2 f1 H locs hp hH => ?_)
  obtain ⟨er3, rfl, rfl⟩ := hp
  subst er3
  refine lv_if_eq (tgt := 18) hx hb dX9_geese_8 (by decide) (fun _ => ?_) (fun h => absurd (by decide) h)
  refine lv_bipush (v := (-2 : Int32)) hx hb dX9_geese_18 (by decide) ?_
  refine g_iret C hr hH (Nat.le_of_ble_eq_true rfl) (Nat.le_of_ble_eq_true rfl) dX9_geese_20 ?_
  exact ⟨rfl, rfl, rfl⟩
set_option maxHeartbeats 4000000 in
set_option maxRecDepth 100000 in
theorem k_hears (l : Launch) (E : gE) (L : List Nat) (f : gF) {x xt xn xr xi xw xs xl xc xh xf xm : Nat} (mx : x ∈ L) (fx : f x = .inr (9, [.ref xt, .ref xn, .ref xr, .ref xi, .ref xw, .ref xs, .ref xl, .ref xc, .ref xh, .ref xf, .ref xm])) {na : Nat → Nat} (mn : xn ∈ L) (fn : f xn = .inr (3, [.int (0 : Int32), .int (0 : Int32), .int (0 : Int32), .int (0 : Int32), .int (0 : Int32), .int (0 : Int32), .int (0 : Int32), .int (0 : Int32), .int (0 : Int32), .int (0 : Int32), .ref (na 0), .ref (na 1), .ref (na 2), .ref (na 3), .ref (na 4), .ref (na 5), .ref (na 6), .ref (na 7), .ref (na 8), .ref (na 9)])) (p0 p1 : Int32) : gMi l E yX9_hears cX9_hears 3 .int (gRm 5 0 0) [.ref x, .int p0, .int p1] L f (gRO (-2 : Int32) L f) := by
  refine gMi.intro (by decide) (Nat.le_of_ble_eq_true rfl) ?_
  intro p e s m below meth c A ls C hr hA hH hl
  have C : gC E cX9_hears 3 RX9 p s m _ meth c := C
  have hl : lv_has ls 3 [(0, .ref x), (1, .int p0), (2, .int p1)] := hl
  have hx := C.1
  have hb := C.2.1
  refine lv_aload_n hx hb dX9_hears_0 rfl (lv_at hl 0 rfl) ?_
  refine g_get C hH mx fx iX9 rfl 1 (by decide) wd18 rfl rfl dX9_hears_1 ?_
  refine lv_iload_n hx hb dX9_hears_4 rfl (lv_at hl 1 rfl) ?_
  refine g_Vi C hl.1 hA hH (As := [.int p0]) (rest := []) (k_hasMember l E L f mn fn p0) my_X3_hasMember wd27 mn fn rfl rfl rfl (Nat.le_of_ble_eq_true rfl) ⟨Nat.le_of_ble_eq_true rfl, Nat.le_of_ble_eq_true rfl⟩ ⟨Nat.le_of_ble_eq_true rfl, Nat.le_of_ble_eq_true rfl⟩ dX9_hears_5 (fun r3 L2 f1 H locs hp hH => ?_)
  obtain ⟨er3, rfl, rfl⟩ := hp
  subst er3
  refine lv_if_eq (tgt := 22) hx hb dX9_hears_8 (by decide) (fun _ => ?_) (fun h => absurd (by decide) h)
  refine lv_bipush (v := (-2 : Int32)) hx hb dX9_hears_22 (by decide) ?_
  refine g_iret C hr hH (Nat.le_of_ble_eq_true rfl) (Nat.le_of_ble_eq_true rfl) dX9_hears_24 ?_
  exact ⟨rfl, rfl, rfl⟩
set_option maxHeartbeats 4000000 in
set_option maxRecDepth 100000 in
theorem k_heard (l : Launch) (E : gE) (L : List Nat) (f : gF) {x xt xn xr xi xw xs xl xc xh xf xm : Nat} (mx : x ∈ L) (fx : f x = .inr (9, [.ref xt, .ref xn, .ref xr, .ref xi, .ref xw, .ref xs, .ref xl, .ref xc, .ref xh, .ref xf, .ref xm])) {na : Nat → Nat} (mn : xn ∈ L) (fn : f xn = .inr (3, [.int (0 : Int32), .int (0 : Int32), .int (0 : Int32), .int (0 : Int32), .int (0 : Int32), .int (0 : Int32), .int (0 : Int32), .int (0 : Int32), .int (0 : Int32), .int (0 : Int32), .ref (na 0), .ref (na 1), .ref (na 2), .ref (na 3), .ref (na 4), .ref (na 5), .ref (na 6), .ref (na 7), .ref (na 8), .ref (na 9)])) (p0 : Int32) : gMi l E yX9_heard cX9_heard 2 .int (gRm 5 0 0) [.ref x, .int p0] L f (gRO (-2 : Int32) L f) := by
  refine gMi.intro (by decide) (Nat.le_of_ble_eq_true rfl) ?_
  intro p e s m below meth c A ls C hr hA hH hl
  have C : gC E cX9_heard 2 RX9 p s m _ meth c := C
  have hl : lv_has ls 2 [(0, .ref x), (1, .int p0)] := hl
  have hx := C.1
  have hb := C.2.1
  refine lv_aload_n hx hb dX9_heard_0 rfl (lv_at hl 0 rfl) ?_
  refine g_get C hH mx fx iX9 rfl 1 (by decide) wd18 rfl rfl dX9_heard_1 ?_
  refine lv_iload_n hx hb dX9_heard_4 rfl (lv_at hl 1 rfl) ?_
  refine g_Vi C hl.1 hA hH (As := [.int p0]) (rest := []) (k_hasMember l E L f mn fn p0) my_X3_hasMember wd27 mn fn rfl rfl rfl (Nat.le_of_ble_eq_true rfl) ⟨Nat.le_of_ble_eq_true rfl, Nat.le_of_ble_eq_true rfl⟩ ⟨Nat.le_of_ble_eq_true rfl, Nat.le_of_ble_eq_true rfl⟩ dX9_heard_5 (fun r3 L2 f1 H locs hp hH => ?_)
  obtain ⟨er3, rfl, rfl⟩ := hp
  subst er3
  refine lv_if_ne (tgt := 14) hx hb dX9_heard_8 (by decide) (fun h => absurd (by decide) h) (fun _ => ?_)
  refine lv_bipush (v := (-2 : Int32)) hx hb dX9_heard_11 (by decide) ?_
  refine g_iret C hr hH (Nat.le_of_ble_eq_true rfl) (Nat.le_of_ble_eq_true rfl) dX9_heard_13 ?_
  exact ⟨rfl, rfl, rfl⟩
set_option maxHeartbeats 4000000 in
set_option maxRecDepth 100000 in
theorem k_ears (l : Launch) (E : gE) (L : List Nat) (f : gF) {x xt xn xr xi xw xs xl xc xh xf xm : Nat} (mx : x ∈ L) (fx : f x = .inr (9, [.ref xt, .ref xn, .ref xr, .ref xi, .ref xw, .ref xs, .ref xl, .ref xc, .ref xh, .ref xf, .ref xm])) {na : Nat → Nat} (mn : xn ∈ L) (fn : f xn = .inr (3, [.int (0 : Int32), .int (0 : Int32), .int (0 : Int32), .int (0 : Int32), .int (0 : Int32), .int (0 : Int32), .int (0 : Int32), .int (0 : Int32), .int (0 : Int32), .int (0 : Int32), .ref (na 0), .ref (na 1), .ref (na 2), .ref (na 3), .ref (na 4), .ref (na 5), .ref (na 6), .ref (na 7), .ref (na 8), .ref (na 9)])) (p0 : Int32) : gMi l E yX9_ears cX9_ears 2 .int (gRm 5 0 0) [.ref x, .int p0] L f (gRO (-2 : Int32) L f) := by
  refine gMi.intro (by decide) (Nat.le_of_ble_eq_true rfl) ?_
  intro p e s m below meth c A ls C hr hA hH hl
  have C : gC E cX9_ears 2 RX9 p s m _ meth c := C
  have hl : lv_has ls 2 [(0, .ref x), (1, .int p0)] := hl
  have hx := C.1
  have hb := C.2.1
  refine lv_aload_n hx hb dX9_ears_0 rfl (lv_at hl 0 rfl) ?_
  refine g_get C hH mx fx iX9 rfl 1 (by decide) wd18 rfl rfl dX9_ears_1 ?_
  refine lv_iload_n hx hb dX9_ears_4 rfl (lv_at hl 1 rfl) ?_
  refine g_Vi C hl.1 hA hH (As := [.int p0]) (rest := []) (k_hasCell l E L f mn fn p0) my_X3_hasCell wd35 mn fn rfl rfl rfl (Nat.le_of_ble_eq_true rfl) ⟨Nat.le_of_ble_eq_true rfl, Nat.le_of_ble_eq_true rfl⟩ ⟨Nat.le_of_ble_eq_true rfl, Nat.le_of_ble_eq_true rfl⟩ dX9_ears_5 (fun r3 L2 f1 H locs hp hH => ?_)
  obtain ⟨er3, rfl, rfl⟩ := hp
  subst er3
  refine lv_if_ne (tgt := 14) hx hb dX9_ears_8 (by decide) (fun h => absurd (by decide) h) (fun _ => ?_)
  refine lv_bipush (v := (-2 : Int32)) hx hb dX9_ears_11 (by decide) ?_
  refine g_iret C hr hH (Nat.le_of_ble_eq_true rfl) (Nat.le_of_ble_eq_true rfl) dX9_ears_13 ?_
  exact ⟨rfl, rfl, rfl⟩
set_option maxHeartbeats 4000000 in
set_option maxRecDepth 100000 in
theorem k_loud (l : Launch) (E : gE) (L : List Nat) (f : gF) {x xt xn xr xi xw xs xl xc xh xf xm : Nat} (mx : x ∈ L) (fx : f x = .inr (9, [.ref xt, .ref xn, .ref xr, .ref xi, .ref xw, .ref xs, .ref xl, .ref xc, .ref xh, .ref xf, .ref xm])) {na : Nat → Nat} (mn : xn ∈ L) (fn : f xn = .inr (3, [.int (0 : Int32), .int (0 : Int32), .int (0 : Int32), .int (0 : Int32), .int (0 : Int32), .int (0 : Int32), .int (0 : Int32), .int (0 : Int32), .int (0 : Int32), .int (0 : Int32), .ref (na 0), .ref (na 1), .ref (na 2), .ref (na 3), .ref (na 4), .ref (na 5), .ref (na 6), .ref (na 7), .ref (na 8), .ref (na 9)])) : gMi l E yX9_loud cX9_loud 3 .int (gRm 5 0 0) [.ref x] L f (gRO (-2 : Int32) L f) := by
  refine gMi.intro (by decide) (Nat.le_of_ble_eq_true rfl) ?_
  intro p e s m below meth c A ls C hr hA hH hl
  have C : gC E cX9_loud 3 RX9 p s m _ meth c := C
  have hl : lv_has ls 3 [(0, .ref x)] := hl
  have hx := C.1
  have hb := C.2.1
  refine lv_aload_n hx hb dX9_loud_0 rfl (lv_at hl 0 rfl) ?_
  refine g_get C hH mx fx iX9 rfl 1 (by decide) wd18 rfl rfl dX9_loud_1 ?_
  refine g_Vi C hl.1 hA hH (As := []) (rest := []) (k_isNone l E L f mn fn) my_X3_isNone wd19 mn fn rfl rfl rfl (Nat.le_of_ble_eq_true rfl) ⟨Nat.le_of_ble_eq_true rfl, Nat.le_of_ble_eq_true rfl⟩ ⟨Nat.le_of_ble_eq_true rfl, Nat.le_of_ble_eq_true rfl⟩ dX9_loud_4 (fun r3 L2 f1 H locs hp hH => ?_)
  obtain ⟨er3, rfl, rfl⟩ := hp
  subst er3
  refine lv_if_eq (tgt := 13) hx hb dX9_loud_7 (by decide) (fun h => absurd h (by decide)) (fun _ => ?_)
  refine lv_bipush (v := (-2 : Int32)) hx hb dX9_loud_10 (by decide) ?_
  refine g_iret C hr hH (Nat.le_of_ble_eq_true rfl) (Nat.le_of_ble_eq_true rfl) dX9_loud_12 ?_
  exact ⟨rfl, rfl, rfl⟩
set_option maxHeartbeats 4000000 in
set_option maxRecDepth 100000 in
theorem k_quiet (l : Launch) (E : gE) (L : List Nat) (f : gF) {x xt xn xr xi xw xs xl xc xh xf xm : Nat} (mx : x ∈ L) (fx : f x = .inr (9, [.ref xt, .ref xn, .ref xr, .ref xi, .ref xw, .ref xs, .ref xl, .ref xc, .ref xh, .ref xf, .ref xm])) {na : Nat → Nat} (mn : xn ∈ L) (fn : f xn = .inr (3, [.int (0 : Int32), .int (0 : Int32), .int (0 : Int32), .int (0 : Int32), .int (0 : Int32), .int (0 : Int32), .int (0 : Int32), .int (0 : Int32), .int (0 : Int32), .int (0 : Int32), .ref (na 0), .ref (na 1), .ref (na 2), .ref (na 3), .ref (na 4), .ref (na 5), .ref (na 6), .ref (na 7), .ref (na 8), .ref (na 9)])) : gMi l E yX9_quiet cX9_quiet 3 .int (gRm 5 0 0) [.ref x] L f (gRO (-2 : Int32) L f) := by
  refine gMi.intro (by decide) (Nat.le_of_ble_eq_true rfl) ?_
  intro p e s m below meth c A ls C hr hA hH hl
  have C : gC E cX9_quiet 3 RX9 p s m _ meth c := C
  have hl : lv_has ls 3 [(0, .ref x)] := hl
  have hx := C.1
  have hb := C.2.1
  refine lv_aload_n hx hb dX9_quiet_0 rfl (lv_at hl 0 rfl) ?_
  refine g_get C hH mx fx iX9 rfl 1 (by decide) wd18 rfl rfl dX9_quiet_1 ?_
  refine g_Vi C hl.1 hA hH (As := []) (rest := []) (k_isNone l E L f mn fn) my_X3_isNone wd19 mn fn rfl rfl rfl (Nat.le_of_ble_eq_true rfl) ⟨Nat.le_of_ble_eq_true rfl, Nat.le_of_ble_eq_true rfl⟩ ⟨Nat.le_of_ble_eq_true rfl, Nat.le_of_ble_eq_true rfl⟩ dX9_quiet_4 (fun r3 L2 f1 H locs hp hH => ?_)
  obtain ⟨er3, rfl, rfl⟩ := hp
  subst er3
  refine lv_if_eq (tgt := 13) hx hb dX9_quiet_7 (by decide) (fun h => absurd h (by decide)) (fun _ => ?_)
  refine lv_bipush (v := (-2 : Int32)) hx hb dX9_quiet_10 (by decide) ?_
  refine g_iret C hr hH (Nat.le_of_ble_eq_true rfl) (Nat.le_of_ble_eq_true rfl) dX9_quiet_12 ?_
  exact ⟨rfl, rfl, rfl⟩
set_option maxHeartbeats 4000000 in
set_option maxRecDepth 100000 in
theorem k_served (l : Launch) (E : gE) (L : List Nat) (f : gF) {x xt xn xr xi xw xs xl xc xh xf xm : Nat} (mx : x ∈ L) (fx : f x = .inr (9, [.ref xt, .ref xn, .ref xr, .ref xi, .ref xw, .ref xs, .ref xl, .ref xc, .ref xh, .ref xf, .ref xm])) {na : Nat → Nat} (mn : xn ∈ L) (fn : f xn = .inr (3, [.int (0 : Int32), .int (0 : Int32), .int (0 : Int32), .int (0 : Int32), .int (0 : Int32), .int (0 : Int32), .int (0 : Int32), .int (0 : Int32), .int (0 : Int32), .int (0 : Int32), .ref (na 0), .ref (na 1), .ref (na 2), .ref (na 3), .ref (na 4), .ref (na 5), .ref (na 6), .ref (na 7), .ref (na 8), .ref (na 9)])) : gMi l E yX9_served cX9_served 1 .int (gRm 5 0 0) [.ref x] L f (gRO (-2 : Int32) L f) := by
  refine gMi.intro (by decide) (Nat.le_of_ble_eq_true rfl) ?_
  intro p e s m below meth c A ls C hr hA hH hl
  have C : gC E cX9_served 1 RX9 p s m _ meth c := C
  have hl : lv_has ls 1 [(0, .ref x)] := hl
  have hx := C.1
  have hb := C.2.1
  refine lv_aload_n hx hb dX9_served_0 rfl (lv_at hl 0 rfl) ?_
  refine g_get C hH mx fx iX9 rfl 1 (by decide) wd18 rfl rfl dX9_served_1 ?_
  refine g_Vi C hl.1 hA hH (As := []) (rest := []) (k_isNone l E L f mn fn) my_X3_isNone wd19 mn fn rfl rfl rfl (Nat.le_of_ble_eq_true rfl) ⟨Nat.le_of_ble_eq_true rfl, Nat.le_of_ble_eq_true rfl⟩ ⟨Nat.le_of_ble_eq_true rfl, Nat.le_of_ble_eq_true rfl⟩ dX9_served_4 (fun r3 L2 f1 H locs hp hH => ?_)
  obtain ⟨er3, rfl, rfl⟩ := hp
  subst er3
  refine lv_if_eq (tgt := 15) hx hb dX9_served_7 (by decide) (fun h => absurd h (by decide)) (fun _ => ?_)
  refine lv_bipush (v := (-2 : Int32)) hx hb dX9_served_10 (by decide) ?_
  refine lv_goto (tgt := 33) hx hb dX9_served_12 (by decide) ?_
  refine g_iret C hr hH (Nat.le_of_ble_eq_true rfl) (Nat.le_of_ble_eq_true rfl) dX9_served_33 ?_
  exact ⟨rfl, rfl, rfl⟩
set_option maxHeartbeats 4000000 in
set_option maxRecDepth 100000 in
theorem k_income (l : Launch) (E : gE) (L : List Nat) (f : gF) {x xt xn xr xi xw xs xl xc xh xf xm : Nat} (mx : x ∈ L) (fx : f x = .inr (9, [.ref xt, .ref xn, .ref xr, .ref xi, .ref xw, .ref xs, .ref xl, .ref xc, .ref xh, .ref xf, .ref xm])) {na : Nat → Nat} (mn : xn ∈ L) (fn : f xn = .inr (3, [.int (0 : Int32), .int (0 : Int32), .int (0 : Int32), .int (0 : Int32), .int (0 : Int32), .int (0 : Int32), .int (0 : Int32), .int (0 : Int32), .int (0 : Int32), .int (0 : Int32), .ref (na 0), .ref (na 1), .ref (na 2), .ref (na 3), .ref (na 4), .ref (na 5), .ref (na 6), .ref (na 7), .ref (na 8), .ref (na 9)])) : gMi l E yX9_income cX9_income 1 .int (gRm 5 0 0) [.ref x] L f (gRO (-2 : Int32) L f) := by
  refine gMi.intro (by decide) (Nat.le_of_ble_eq_true rfl) ?_
  intro p e s m below meth c A ls C hr hA hH hl
  have C : gC E cX9_income 1 RX9 p s m _ meth c := C
  have hl : lv_has ls 1 [(0, .ref x)] := hl
  have hx := C.1
  have hb := C.2.1
  refine lv_aload_n hx hb dX9_income_0 rfl (lv_at hl 0 rfl) ?_
  refine g_get C hH mx fx iX9 rfl 1 (by decide) wd18 rfl rfl dX9_income_1 ?_
  refine g_Vi C hl.1 hA hH (As := []) (rest := []) (k_isNone l E L f mn fn) my_X3_isNone wd19 mn fn rfl rfl rfl (Nat.le_of_ble_eq_true rfl) ⟨Nat.le_of_ble_eq_true rfl, Nat.le_of_ble_eq_true rfl⟩ ⟨Nat.le_of_ble_eq_true rfl, Nat.le_of_ble_eq_true rfl⟩ dX9_income_4 (fun r3 L2 f1 H locs hp hH => ?_)
  obtain ⟨er3, rfl, rfl⟩ := hp
  subst er3
  refine lv_if_eq (tgt := 15) hx hb dX9_income_7 (by decide) (fun h => absurd h (by decide)) (fun _ => ?_)
  refine lv_bipush (v := (-2 : Int32)) hx hb dX9_income_10 (by decide) ?_
  refine lv_goto (tgt := 33) hx hb dX9_income_12 (by decide) ?_
  refine g_iret C hr hH (Nat.le_of_ble_eq_true rfl) (Nat.le_of_ble_eq_true rfl) dX9_income_33 ?_
  exact ⟨rfl, rfl, rfl⟩
set_option maxHeartbeats 4000000 in
set_option maxRecDepth 100000 in
theorem k_unpaid (l : Launch) (E : gE) (L : List Nat) (f : gF) {x xt xn xr xi xw xs xl xc xh xf xm : Nat} (mx : x ∈ L) (fx : f x = .inr (9, [.ref xt, .ref xn, .ref xr, .ref xi, .ref xw, .ref xs, .ref xl, .ref xc, .ref xh, .ref xf, .ref xm])) {na : Nat → Nat} (mn : xn ∈ L) (fn : f xn = .inr (3, [.int (0 : Int32), .int (0 : Int32), .int (0 : Int32), .int (0 : Int32), .int (0 : Int32), .int (0 : Int32), .int (0 : Int32), .int (0 : Int32), .int (0 : Int32), .int (0 : Int32), .ref (na 0), .ref (na 1), .ref (na 2), .ref (na 3), .ref (na 4), .ref (na 5), .ref (na 6), .ref (na 7), .ref (na 8), .ref (na 9)])) : gMi l E yX9_unpaid cX9_unpaid 1 .int (gRm 5 0 0) [.ref x] L f (gRO (-2 : Int32) L f) := by
  refine gMi.intro (by decide) (Nat.le_of_ble_eq_true rfl) ?_
  intro p e s m below meth c A ls C hr hA hH hl
  have C : gC E cX9_unpaid 1 RX9 p s m _ meth c := C
  have hl : lv_has ls 1 [(0, .ref x)] := hl
  have hx := C.1
  have hb := C.2.1
  refine lv_aload_n hx hb dX9_unpaid_0 rfl (lv_at hl 0 rfl) ?_
  refine g_get C hH mx fx iX9 rfl 1 (by decide) wd18 rfl rfl dX9_unpaid_1 ?_
  refine g_Vi C hl.1 hA hH (As := []) (rest := []) (k_isNone l E L f mn fn) my_X3_isNone wd19 mn fn rfl rfl rfl (Nat.le_of_ble_eq_true rfl) ⟨Nat.le_of_ble_eq_true rfl, Nat.le_of_ble_eq_true rfl⟩ ⟨Nat.le_of_ble_eq_true rfl, Nat.le_of_ble_eq_true rfl⟩ dX9_unpaid_4 (fun r3 L2 f1 H locs hp hH => ?_)
  obtain ⟨er3, rfl, rfl⟩ := hp
  subst er3
  refine lv_if_eq (tgt := 15) hx hb dX9_unpaid_7 (by decide) (fun h => absurd h (by decide)) (fun _ => ?_)
  refine lv_bipush (v := (-2 : Int32)) hx hb dX9_unpaid_10 (by decide) ?_
  refine lv_goto (tgt := 19) hx hb dX9_unpaid_12 (by decide) ?_
  refine g_iret C hr hH (Nat.le_of_ble_eq_true rfl) (Nat.le_of_ble_eq_true rfl) dX9_unpaid_19 ?_
  exact ⟨rfl, rfl, rfl⟩
set_option maxHeartbeats 4000000 in
set_option maxRecDepth 100000 in
theorem k_first (l : Launch) (E : gE) (L : List Nat) (f : gF) {x xt xn xr xi xw xs xl xc xh xf xm : Nat} (mx : x ∈ L) (fx : f x = .inr (9, [.ref xt, .ref xn, .ref xr, .ref xi, .ref xw, .ref xs, .ref xl, .ref xc, .ref xh, .ref xf, .ref xm])) {na : Nat → Nat} (mn : xn ∈ L) (fn : f xn = .inr (3, [.int (0 : Int32), .int (0 : Int32), .int (0 : Int32), .int (0 : Int32), .int (0 : Int32), .int (0 : Int32), .int (0 : Int32), .int (0 : Int32), .int (0 : Int32), .int (0 : Int32), .ref (na 0), .ref (na 1), .ref (na 2), .ref (na 3), .ref (na 4), .ref (na 5), .ref (na 6), .ref (na 7), .ref (na 8), .ref (na 9)])) : gMi l E yX9_first cX9_first 5 .int (gRm 5 0 0) [.ref x] L f (gRO (-2 : Int32) L f) := by
  refine gMi.intro (by decide) (Nat.le_of_ble_eq_true rfl) ?_
  intro p e s m below meth c A ls C hr hA hH hl
  have C : gC E cX9_first 5 RX9 p s m _ meth c := C
  have hl : lv_has ls 5 [(0, .ref x)] := hl
  have hx := C.1
  have hb := C.2.1
  refine lv_aload_n hx hb dX9_first_0 rfl (lv_at hl 0 rfl) ?_
  refine g_get C hH mx fx iX9 rfl 1 (by decide) wd18 rfl rfl dX9_first_1 ?_
  refine g_Vi C hl.1 hA hH (As := []) (rest := []) (k_isNone l E L f mn fn) my_X3_isNone wd19 mn fn rfl rfl rfl (Nat.le_of_ble_eq_true rfl) ⟨Nat.le_of_ble_eq_true rfl, Nat.le_of_ble_eq_true rfl⟩ ⟨Nat.le_of_ble_eq_true rfl, Nat.le_of_ble_eq_true rfl⟩ dX9_first_4 (fun r3 L2 f1 H locs hp hH => ?_)
  obtain ⟨er3, rfl, rfl⟩ := hp
  subst er3
  refine lv_if_eq (tgt := 13) hx hb dX9_first_7 (by decide) (fun h => absurd h (by decide)) (fun _ => ?_)
  refine lv_bipush (v := (-2 : Int32)) hx hb dX9_first_10 (by decide) ?_
  refine g_iret C hr hH (Nat.le_of_ble_eq_true rfl) (Nat.le_of_ble_eq_true rfl) dX9_first_12 ?_
  exact ⟨rfl, rfl, rfl⟩
set_option maxHeartbeats 4000000 in
set_option maxRecDepth 100000 in
theorem k_lacks (l : Launch) (E : gE) (L : List Nat) (f : gF) {x xt xn xr xi xw xs xl xc xh xf xm : Nat} (mx : x ∈ L) (fx : f x = .inr (9, [.ref xt, .ref xn, .ref xr, .ref xi, .ref xw, .ref xs, .ref xl, .ref xc, .ref xh, .ref xf, .ref xm])) {na : Nat → Nat} (mn : xn ∈ L) (fn : f xn = .inr (3, [.int (0 : Int32), .int (0 : Int32), .int (0 : Int32), .int (0 : Int32), .int (0 : Int32), .int (0 : Int32), .int (0 : Int32), .int (0 : Int32), .int (0 : Int32), .int (0 : Int32), .ref (na 0), .ref (na 1), .ref (na 2), .ref (na 3), .ref (na 4), .ref (na 5), .ref (na 6), .ref (na 7), .ref (na 8), .ref (na 9)])) : gMi l E yX9_lacks cX9_lacks 5 .int (gRm 5 0 0) [.ref x] L f (gRO (-2 : Int32) L f) := by
  refine gMi.intro (by decide) (Nat.le_of_ble_eq_true rfl) ?_
  intro p e s m below meth c A ls C hr hA hH hl
  have C : gC E cX9_lacks 5 RX9 p s m _ meth c := C
  have hl : lv_has ls 5 [(0, .ref x)] := hl
  have hx := C.1
  have hb := C.2.1
  refine lv_aload_n hx hb dX9_lacks_0 rfl (lv_at hl 0 rfl) ?_
  refine g_get C hH mx fx iX9 rfl 1 (by decide) wd18 rfl rfl dX9_lacks_1 ?_
  refine g_Vi C hl.1 hA hH (As := []) (rest := []) (k_isNone l E L f mn fn) my_X3_isNone wd19 mn fn rfl rfl rfl (Nat.le_of_ble_eq_true rfl) ⟨Nat.le_of_ble_eq_true rfl, Nat.le_of_ble_eq_true rfl⟩ ⟨Nat.le_of_ble_eq_true rfl, Nat.le_of_ble_eq_true rfl⟩ dX9_lacks_4 (fun r3 L2 f1 H locs hp hH => ?_)
  obtain ⟨er3, rfl, rfl⟩ := hp
  subst er3
  refine lv_if_eq (tgt := 13) hx hb dX9_lacks_7 (by decide) (fun h => absurd h (by decide)) (fun _ => ?_)
  refine lv_bipush (v := (-2 : Int32)) hx hb dX9_lacks_10 (by decide) ?_
  refine g_iret C hr hH (Nat.le_of_ble_eq_true rfl) (Nat.le_of_ble_eq_true rfl) dX9_lacks_12 ?_
  exact ⟨rfl, rfl, rfl⟩
set_option maxHeartbeats 4000000 in
set_option maxRecDepth 100000 in
theorem k_near (l : Launch) (E : gE) (L : List Nat) (f : gF) {x xt xn xr xi xw xs xl xc xh xf xm : Nat} (mx : x ∈ L) (fx : f x = .inr (9, [.ref xt, .ref xn, .ref xr, .ref xi, .ref xw, .ref xs, .ref xl, .ref xc, .ref xh, .ref xf, .ref xm])) {na : Nat → Nat} (mn : xn ∈ L) (fn : f xn = .inr (3, [.int (0 : Int32), .int (0 : Int32), .int (0 : Int32), .int (0 : Int32), .int (0 : Int32), .int (0 : Int32), .int (0 : Int32), .int (0 : Int32), .int (0 : Int32), .int (0 : Int32), .ref (na 0), .ref (na 1), .ref (na 2), .ref (na 3), .ref (na 4), .ref (na 5), .ref (na 6), .ref (na 7), .ref (na 8), .ref (na 9)])) (p0 : Int32) : gMi l E yX9_near cX9_near 2 .int (gRm 5 0 0) [.ref x, .int p0] L f (gRO (-2 : Int32) L f) := by
  refine gMi.intro (by decide) (Nat.le_of_ble_eq_true rfl) ?_
  intro p e s m below meth c A ls C hr hA hH hl
  have C : gC E cX9_near 2 RX9 p s m _ meth c := C
  have hl : lv_has ls 2 [(0, .ref x), (1, .int p0)] := hl
  have hx := C.1
  have hb := C.2.1
  refine lv_aload_n hx hb dX9_near_0 rfl (lv_at hl 0 rfl) ?_
  refine g_get C hH mx fx iX9 rfl 1 (by decide) wd18 rfl rfl dX9_near_1 ?_
  refine lv_iload_n hx hb dX9_near_4 rfl (lv_at hl 1 rfl) ?_
  refine g_Vi C hl.1 hA hH (As := [.int p0]) (rest := []) (k_hasMember l E L f mn fn p0) my_X3_hasMember wd27 mn fn rfl rfl rfl (Nat.le_of_ble_eq_true rfl) ⟨Nat.le_of_ble_eq_true rfl, Nat.le_of_ble_eq_true rfl⟩ ⟨Nat.le_of_ble_eq_true rfl, Nat.le_of_ble_eq_true rfl⟩ dX9_near_5 (fun r3 L2 f1 H locs hp hH => ?_)
  obtain ⟨er3, rfl, rfl⟩ := hp
  subst er3
  refine lv_if_ne (tgt := 14) hx hb dX9_near_8 (by decide) (fun h => absurd (by decide) h) (fun _ => ?_)
  refine lv_bipush (v := (-2 : Int32)) hx hb dX9_near_11 (by decide) ?_
  refine g_iret C hr hH (Nat.le_of_ble_eq_true rfl) (Nat.le_of_ble_eq_true rfl) dX9_near_13 ?_
  exact ⟨rfl, rfl, rfl⟩
set_option maxHeartbeats 4000000 in
set_option maxRecDepth 100000 in
theorem k_lone (l : Launch) (E : gE) (L : List Nat) (f : gF) {x xt xn xr xi xw xs xl xc xh xf xm : Nat} (mx : x ∈ L) (fx : f x = .inr (9, [.ref xt, .ref xn, .ref xr, .ref xi, .ref xw, .ref xs, .ref xl, .ref xc, .ref xh, .ref xf, .ref xm])) {na : Nat → Nat} (mn : xn ∈ L) (fn : f xn = .inr (3, [.int (0 : Int32), .int (0 : Int32), .int (0 : Int32), .int (0 : Int32), .int (0 : Int32), .int (0 : Int32), .int (0 : Int32), .int (0 : Int32), .int (0 : Int32), .int (0 : Int32), .ref (na 0), .ref (na 1), .ref (na 2), .ref (na 3), .ref (na 4), .ref (na 5), .ref (na 6), .ref (na 7), .ref (na 8), .ref (na 9)])) : gMi l E yX9_lone cX9_lone 1 .int (gRm 5 0 0) [.ref x] L f (gRO (-2 : Int32) L f) := by
  refine gMi.intro (by decide) (Nat.le_of_ble_eq_true rfl) ?_
  intro p e s m below meth c A ls C hr hA hH hl
  have C : gC E cX9_lone 1 RX9 p s m _ meth c := C
  have hl : lv_has ls 1 [(0, .ref x)] := hl
  have hx := C.1
  have hb := C.2.1
  refine lv_aload_n hx hb dX9_lone_0 rfl (lv_at hl 0 rfl) ?_
  refine g_get C hH mx fx iX9 rfl 1 (by decide) wd18 rfl rfl dX9_lone_1 ?_
  refine g_Vi C hl.1 hA hH (As := []) (rest := []) (k_isNone l E L f mn fn) my_X3_isNone wd19 mn fn rfl rfl rfl (Nat.le_of_ble_eq_true rfl) ⟨Nat.le_of_ble_eq_true rfl, Nat.le_of_ble_eq_true rfl⟩ ⟨Nat.le_of_ble_eq_true rfl, Nat.le_of_ble_eq_true rfl⟩ dX9_lone_4 (fun r3 L2 f1 H locs hp hH => ?_)
  obtain ⟨er3, rfl, rfl⟩ := hp
  subst er3
  refine lv_if_eq (tgt := 13) hx hb dX9_lone_7 (by decide) (fun h => absurd h (by decide)) (fun _ => ?_)
  refine lv_bipush (v := (-2 : Int32)) hx hb dX9_lone_10 (by decide) ?_
  refine g_iret C hr hH (Nat.le_of_ble_eq_true rfl) (Nat.le_of_ble_eq_true rfl) dX9_lone_12 ?_
  exact ⟨rfl, rfl, rfl⟩
set_option maxHeartbeats 4000000 in
set_option maxRecDepth 100000 in
theorem k_meets (l : Launch) (E : gE) (L : List Nat) (f : gF) {x xt xn xr xi xw xs xl xc xh xf xm : Nat} (mx : x ∈ L) (fx : f x = .inr (9, [.ref xt, .ref xn, .ref xr, .ref xi, .ref xw, .ref xs, .ref xl, .ref xc, .ref xh, .ref xf, .ref xm])) {na : Nat → Nat} (mn : xn ∈ L) (fn : f xn = .inr (3, [.int (0 : Int32), .int (0 : Int32), .int (0 : Int32), .int (0 : Int32), .int (0 : Int32), .int (0 : Int32), .int (0 : Int32), .int (0 : Int32), .int (0 : Int32), .int (0 : Int32), .ref (na 0), .ref (na 1), .ref (na 2), .ref (na 3), .ref (na 4), .ref (na 5), .ref (na 6), .ref (na 7), .ref (na 8), .ref (na 9)])) (p0 p1 : Int32) : gMi l E yX9_meets cX9_meets 3 .int (gRm 5 0 0) [.ref x, .int p0, .int p1] L f (gRO (-2 : Int32) L f) := by
  refine gMi.intro (by decide) (Nat.le_of_ble_eq_true rfl) ?_
  intro p e s m below meth c A ls C hr hA hH hl
  have C : gC E cX9_meets 3 RX9 p s m _ meth c := C
  have hl : lv_has ls 3 [(0, .ref x), (1, .int p0), (2, .int p1)] := hl
  have hx := C.1
  have hb := C.2.1
  refine lv_aload_n hx hb dX9_meets_0 rfl (lv_at hl 0 rfl) ?_
  refine g_get C hH mx fx iX9 rfl 1 (by decide) wd18 rfl rfl dX9_meets_1 ?_
  refine lv_iload_n hx hb dX9_meets_4 rfl (lv_at hl 1 rfl) ?_
  refine g_Vi C hl.1 hA hH (As := [.int p0]) (rest := []) (k_hasFlight l E L f mn fn p0) my_X3_hasFlight wd31 mn fn rfl rfl rfl (Nat.le_of_ble_eq_true rfl) ⟨Nat.le_of_ble_eq_true rfl, Nat.le_of_ble_eq_true rfl⟩ ⟨Nat.le_of_ble_eq_true rfl, Nat.le_of_ble_eq_true rfl⟩ dX9_meets_5 (fun r3 L2 f1 H locs hp hH => ?_)
  obtain ⟨er3, rfl, rfl⟩ := hp
  subst er3
  refine lv_if_eq (tgt := 22) hx hb dX9_meets_8 (by decide) (fun _ => ?_) (fun h => absurd (by decide) h)
  refine lv_bipush (v := (-2 : Int32)) hx hb dX9_meets_22 (by decide) ?_
  refine g_iret C hr hH (Nat.le_of_ble_eq_true rfl) (Nat.le_of_ble_eq_true rfl) dX9_meets_24 ?_
  exact ⟨rfl, rfl, rfl⟩
set_option maxHeartbeats 4000000 in
set_option maxRecDepth 100000 in
theorem k_spare (l : Launch) (E : gE) (L : List Nat) (f : gF) {x xt xn xr xi xw xs xl xc xh xf xm : Nat} (mx : x ∈ L) (fx : f x = .inr (9, [.ref xt, .ref xn, .ref xr, .ref xi, .ref xw, .ref xs, .ref xl, .ref xc, .ref xh, .ref xf, .ref xm])) {na : Nat → Nat} (mn : xn ∈ L) (fn : f xn = .inr (3, [.int (0 : Int32), .int (0 : Int32), .int (0 : Int32), .int (0 : Int32), .int (0 : Int32), .int (0 : Int32), .int (0 : Int32), .int (0 : Int32), .int (0 : Int32), .int (0 : Int32), .ref (na 0), .ref (na 1), .ref (na 2), .ref (na 3), .ref (na 4), .ref (na 5), .ref (na 6), .ref (na 7), .ref (na 8), .ref (na 9)])) : gMi l E yX9_spare cX9_spare 4 .int (gRm 5 0 0) [.ref x] L f (gRO (-2 : Int32) L f) := by
  refine gMi.intro (by decide) (Nat.le_of_ble_eq_true rfl) ?_
  intro p e s m below meth c A ls C hr hA hH hl
  have C : gC E cX9_spare 4 RX9 p s m _ meth c := C
  have hl : lv_has ls 4 [(0, .ref x)] := hl
  have hx := C.1
  have hb := C.2.1
  refine lv_aload_n hx hb dX9_spare_0 rfl (lv_at hl 0 rfl) ?_
  refine g_get C hH mx fx iX9 rfl 1 (by decide) wd18 rfl rfl dX9_spare_1 ?_
  refine g_Vi C hl.1 hA hH (As := []) (rest := []) (k_isNone l E L f mn fn) my_X3_isNone wd19 mn fn rfl rfl rfl (Nat.le_of_ble_eq_true rfl) ⟨Nat.le_of_ble_eq_true rfl, Nat.le_of_ble_eq_true rfl⟩ ⟨Nat.le_of_ble_eq_true rfl, Nat.le_of_ble_eq_true rfl⟩ dX9_spare_4 (fun r3 L2 f1 H locs hp hH => ?_)
  obtain ⟨er3, rfl, rfl⟩ := hp
  subst er3
  refine lv_if_eq (tgt := 13) hx hb dX9_spare_7 (by decide) (fun h => absurd h (by decide)) (fun _ => ?_)
  refine lv_bipush (v := (-2 : Int32)) hx hb dX9_spare_10 (by decide) ?_
  refine g_iret C hr hH (Nat.le_of_ble_eq_true rfl) (Nat.le_of_ble_eq_true rfl) dX9_spare_12 ?_
  exact ⟨rfl, rfl, rfl⟩
set_option maxHeartbeats 4000000 in
set_option maxRecDepth 100000 in
theorem k_calls (l : Launch) (E : gE) (L : List Nat) (f : gF) {x xt xn xr xi xw xs xl xc xh xf xm : Nat} (mx : x ∈ L) (fx : f x = .inr (9, [.ref xt, .ref xn, .ref xr, .ref xi, .ref xw, .ref xs, .ref xl, .ref xc, .ref xh, .ref xf, .ref xm])) {na : Nat → Nat} (mn : xn ∈ L) (fn : f xn = .inr (3, [.int (0 : Int32), .int (0 : Int32), .int (0 : Int32), .int (0 : Int32), .int (0 : Int32), .int (0 : Int32), .int (0 : Int32), .int (0 : Int32), .int (0 : Int32), .int (0 : Int32), .ref (na 0), .ref (na 1), .ref (na 2), .ref (na 3), .ref (na 4), .ref (na 5), .ref (na 6), .ref (na 7), .ref (na 8), .ref (na 9)])) (p0 : Int32) : gMi l E yX9_calls cX9_calls 2 .int (gRm 5 0 0) [.ref x, .int p0] L f (gRO (-2 : Int32) L f) := by
  refine gMi.intro (by decide) (Nat.le_of_ble_eq_true rfl) ?_
  intro p e s m below meth c A ls C hr hA hH hl
  have C : gC E cX9_calls 2 RX9 p s m _ meth c := C
  have hl : lv_has ls 2 [(0, .ref x), (1, .int p0)] := hl
  have hx := C.1
  have hb := C.2.1
  refine lv_aload_n hx hb dX9_calls_0 rfl (lv_at hl 0 rfl) ?_
  refine g_get C hH mx fx iX9 rfl 1 (by decide) wd18 rfl rfl dX9_calls_1 ?_
  refine g_Vi C hl.1 hA hH (As := []) (rest := []) (k_isNone l E L f mn fn) my_X3_isNone wd19 mn fn rfl rfl rfl (Nat.le_of_ble_eq_true rfl) ⟨Nat.le_of_ble_eq_true rfl, Nat.le_of_ble_eq_true rfl⟩ ⟨Nat.le_of_ble_eq_true rfl, Nat.le_of_ble_eq_true rfl⟩ dX9_calls_4 (fun r3 L2 f1 H locs hp hH => ?_)
  obtain ⟨er3, rfl, rfl⟩ := hp
  subst er3
  refine lv_if_ne (tgt := 17) hx hb dX9_calls_7 (by decide) (fun _ => ?_) (fun h => absurd h (by decide))
  refine lv_bipush (v := (-2 : Int32)) hx hb dX9_calls_17 (by decide) ?_
  refine g_iret C hr hH (Nat.le_of_ble_eq_true rfl) (Nat.le_of_ble_eq_true rfl) dX9_calls_19 ?_
  exact ⟨rfl, rfl, rfl⟩
set_option maxHeartbeats 4000000 in
set_option maxRecDepth 100000 in
theorem k_farthest (l : Launch) (E : gE) (L : List Nat) (f : gF) {x xt xn xr xi xw xs xl xc xh xf xm : Nat} (mx : x ∈ L) (fx : f x = .inr (9, [.ref xt, .ref xn, .ref xr, .ref xi, .ref xw, .ref xs, .ref xl, .ref xc, .ref xh, .ref xf, .ref xm])) {na : Nat → Nat} (mn : xn ∈ L) (fn : f xn = .inr (3, [.int (0 : Int32), .int (0 : Int32), .int (0 : Int32), .int (0 : Int32), .int (0 : Int32), .int (0 : Int32), .int (0 : Int32), .int (0 : Int32), .int (0 : Int32), .int (0 : Int32), .ref (na 0), .ref (na 1), .ref (na 2), .ref (na 3), .ref (na 4), .ref (na 5), .ref (na 6), .ref (na 7), .ref (na 8), .ref (na 9)])) (p0 : Int32) : gMi l E yX9_farthest cX9_farthest 6 .int (gRm 5 0 0) [.ref x, .int p0] L f (gRO (-2 : Int32) L f) := by
  refine gMi.intro (by decide) (Nat.le_of_ble_eq_true rfl) ?_
  intro p e s m below meth c A ls C hr hA hH hl
  have C : gC E cX9_farthest 6 RX9 p s m _ meth c := C
  have hl : lv_has ls 6 [(0, .ref x), (1, .int p0)] := hl
  have hx := C.1
  have hb := C.2.1
  refine lv_aload_n hx hb dX9_farthest_0 rfl (lv_at hl 0 rfl) ?_
  refine g_get C hH mx fx iX9 rfl 1 (by decide) wd18 rfl rfl dX9_farthest_1 ?_
  refine lv_iload_n hx hb dX9_farthest_4 rfl (lv_at hl 1 rfl) ?_
  refine g_Vi C hl.1 hA hH (As := [.int p0]) (rest := []) (k_hasFlight l E L f mn fn p0) my_X3_hasFlight wd31 mn fn rfl rfl rfl (Nat.le_of_ble_eq_true rfl) ⟨Nat.le_of_ble_eq_true rfl, Nat.le_of_ble_eq_true rfl⟩ ⟨Nat.le_of_ble_eq_true rfl, Nat.le_of_ble_eq_true rfl⟩ dX9_farthest_5 (fun r3 L2 f1 H locs hp hH => ?_)
  obtain ⟨er3, rfl, rfl⟩ := hp
  subst er3
  refine lv_if_ne (tgt := 14) hx hb dX9_farthest_8 (by decide) (fun h => absurd (by decide) h) (fun _ => ?_)
  refine lv_bipush (v := (-2 : Int32)) hx hb dX9_farthest_11 (by decide) ?_
  refine g_iret C hr hH (Nat.le_of_ble_eq_true rfl) (Nat.le_of_ble_eq_true rfl) dX9_farthest_13 ?_
  exact ⟨rfl, rfl, rfl⟩
set_option maxHeartbeats 4000000 in
set_option maxRecDepth 100000 in
theorem k_fewest (l : Launch) (E : gE) (L : List Nat) (f : gF) {x xt xn xr xi xw xs xl xc xh xf xm : Nat} (mx : x ∈ L) (fx : f x = .inr (9, [.ref xt, .ref xn, .ref xr, .ref xi, .ref xw, .ref xs, .ref xl, .ref xc, .ref xh, .ref xf, .ref xm])) {na : Nat → Nat} (mn : xn ∈ L) (fn : f xn = .inr (3, [.int (0 : Int32), .int (0 : Int32), .int (0 : Int32), .int (0 : Int32), .int (0 : Int32), .int (0 : Int32), .int (0 : Int32), .int (0 : Int32), .int (0 : Int32), .int (0 : Int32), .ref (na 0), .ref (na 1), .ref (na 2), .ref (na 3), .ref (na 4), .ref (na 5), .ref (na 6), .ref (na 7), .ref (na 8), .ref (na 9)])) (p0 : Int32) : gMi l E yX9_fewest cX9_fewest 3 .int (gRm 5 0 0) [.ref x, .int p0] L f (gRO (-2 : Int32) L f) := by
  refine gMi.intro (by decide) (Nat.le_of_ble_eq_true rfl) ?_
  intro p e s m below meth c A ls C hr hA hH hl
  have C : gC E cX9_fewest 3 RX9 p s m _ meth c := C
  have hl : lv_has ls 3 [(0, .ref x), (1, .int p0)] := hl
  have hx := C.1
  have hb := C.2.1
  refine lv_aload_n hx hb dX9_fewest_0 rfl (lv_at hl 0 rfl) ?_
  refine g_get C hH mx fx iX9 rfl 1 (by decide) wd18 rfl rfl dX9_fewest_1 ?_
  refine lv_iload_n hx hb dX9_fewest_4 rfl (lv_at hl 1 rfl) ?_
  refine g_Vi C hl.1 hA hH (As := [.int p0]) (rest := []) (k_hasSet l E L f mn fn p0) my_X3_hasSet wd39 mn fn rfl rfl rfl (Nat.le_of_ble_eq_true rfl) ⟨Nat.le_of_ble_eq_true rfl, Nat.le_of_ble_eq_true rfl⟩ ⟨Nat.le_of_ble_eq_true rfl, Nat.le_of_ble_eq_true rfl⟩ dX9_fewest_5 (fun r3 L2 f1 H locs hp hH => ?_)
  obtain ⟨er3, rfl, rfl⟩ := hp
  subst er3
  refine lv_if_ne (tgt := 14) hx hb dX9_fewest_8 (by decide) (fun h => absurd (by decide) h) (fun _ => ?_)
  refine lv_bipush (v := (-2 : Int32)) hx hb dX9_fewest_11 (by decide) ?_
  refine g_iret C hr hH (Nat.le_of_ble_eq_true rfl) (Nat.le_of_ble_eq_true rfl) dX9_fewest_13 ?_
  exact ⟨rfl, rfl, rfl⟩
set_option maxHeartbeats 4000000 in
set_option maxRecDepth 100000 in
theorem k_lights (l : Launch) (E : gE) (L : List Nat) (f : gF) {x xt xn xr xi xw xs xl xc xh xf xm : Nat} (mx : x ∈ L) (fx : f x = .inr (9, [.ref xt, .ref xn, .ref xr, .ref xi, .ref xw, .ref xs, .ref xl, .ref xc, .ref xh, .ref xf, .ref xm])) {na : Nat → Nat} (mn : xn ∈ L) (fn : f xn = .inr (3, [.int (0 : Int32), .int (0 : Int32), .int (0 : Int32), .int (0 : Int32), .int (0 : Int32), .int (0 : Int32), .int (0 : Int32), .int (0 : Int32), .int (0 : Int32), .int (0 : Int32), .ref (na 0), .ref (na 1), .ref (na 2), .ref (na 3), .ref (na 4), .ref (na 5), .ref (na 6), .ref (na 7), .ref (na 8), .ref (na 9)])) (p0 : Int32) : gMi l E yX9_lights cX9_lights 3 .int (gRm 5 0 0) [.ref x, .int p0] L f (gRO (-2 : Int32) L f) := by
  refine gMi.intro (by decide) (Nat.le_of_ble_eq_true rfl) ?_
  intro p e s m below meth c A ls C hr hA hH hl
  have C : gC E cX9_lights 3 RX9 p s m _ meth c := C
  have hl : lv_has ls 3 [(0, .ref x), (1, .int p0)] := hl
  have hx := C.1
  have hb := C.2.1
  refine lv_aload_n hx hb dX9_lights_0 rfl (lv_at hl 0 rfl) ?_
  refine g_get C hH mx fx iX9 rfl 1 (by decide) wd18 rfl rfl dX9_lights_1 ?_
  refine lv_iload_n hx hb dX9_lights_4 rfl (lv_at hl 1 rfl) ?_
  refine g_Vi C hl.1 hA hH (As := [.int p0]) (rest := []) (k_hasSet l E L f mn fn p0) my_X3_hasSet wd39 mn fn rfl rfl rfl (Nat.le_of_ble_eq_true rfl) ⟨Nat.le_of_ble_eq_true rfl, Nat.le_of_ble_eq_true rfl⟩ ⟨Nat.le_of_ble_eq_true rfl, Nat.le_of_ble_eq_true rfl⟩ dX9_lights_5 (fun r3 L2 f1 H locs hp hH => ?_)
  obtain ⟨er3, rfl, rfl⟩ := hp
  subst er3
  refine lv_if_ne (tgt := 14) hx hb dX9_lights_8 (by decide) (fun h => absurd (by decide) h) (fun _ => ?_)
  refine lv_bipush (v := (-2 : Int32)) hx hb dX9_lights_11 (by decide) ?_
  refine g_iret C hr hH (Nat.le_of_ble_eq_true rfl) (Nat.le_of_ble_eq_true rfl) dX9_lights_13 ?_
  exact ⟨rfl, rfl, rfl⟩
set_option maxHeartbeats 4000000 in
set_option maxRecDepth 100000 in
theorem k_best (l : Launch) (E : gE) (L : List Nat) (f : gF) {x xt xn xr xi xw xs xl xc xh xf xm : Nat} (mx : x ∈ L) (fx : f x = .inr (9, [.ref xt, .ref xn, .ref xr, .ref xi, .ref xw, .ref xs, .ref xl, .ref xc, .ref xh, .ref xf, .ref xm])) {na : Nat → Nat} (mn : xn ∈ L) (fn : f xn = .inr (3, [.int (0 : Int32), .int (0 : Int32), .int (0 : Int32), .int (0 : Int32), .int (0 : Int32), .int (0 : Int32), .int (0 : Int32), .int (0 : Int32), .int (0 : Int32), .int (0 : Int32), .ref (na 0), .ref (na 1), .ref (na 2), .ref (na 3), .ref (na 4), .ref (na 5), .ref (na 6), .ref (na 7), .ref (na 8), .ref (na 9)])) (p0 : Int32) : gMi l E yX9_best cX9_best 2 .int (gRm 5 0 0) [.ref x, .int p0] L f (gRO (-2 : Int32) L f) := by
  refine gMi.intro (by decide) (Nat.le_of_ble_eq_true rfl) ?_
  intro p e s m below meth c A ls C hr hA hH hl
  have C : gC E cX9_best 2 RX9 p s m _ meth c := C
  have hl : lv_has ls 2 [(0, .ref x), (1, .int p0)] := hl
  have hx := C.1
  have hb := C.2.1
  refine lv_aload_n hx hb dX9_best_0 rfl (lv_at hl 0 rfl) ?_
  refine g_get C hH mx fx iX9 rfl 1 (by decide) wd18 rfl rfl dX9_best_1 ?_
  refine g_Vi C hl.1 hA hH (As := []) (rest := []) (k_isNone l E L f mn fn) my_X3_isNone wd19 mn fn rfl rfl rfl (Nat.le_of_ble_eq_true rfl) ⟨Nat.le_of_ble_eq_true rfl, Nat.le_of_ble_eq_true rfl⟩ ⟨Nat.le_of_ble_eq_true rfl, Nat.le_of_ble_eq_true rfl⟩ dX9_best_4 (fun r3 L2 f1 H locs hp hH => ?_)
  obtain ⟨er3, rfl, rfl⟩ := hp
  subst er3
  refine lv_if_ne (tgt := 17) hx hb dX9_best_7 (by decide) (fun _ => ?_) (fun h => absurd h (by decide))
  refine lv_bipush (v := (-2 : Int32)) hx hb dX9_best_17 (by decide) ?_
  refine g_iret C hr hH (Nat.le_of_ble_eq_true rfl) (Nat.le_of_ble_eq_true rfl) dX9_best_19 ?_
  exact ⟨rfl, rfl, rfl⟩
set_option maxHeartbeats 4000000 in
set_option maxRecDepth 100000 in
theorem k_bests (l : Launch) (E : gE) (L : List Nat) (f : gF) {x xt xn xr xi xw xs xl xc xh xf xm : Nat} (mx : x ∈ L) (fx : f x = .inr (9, [.ref xt, .ref xn, .ref xr, .ref xi, .ref xw, .ref xs, .ref xl, .ref xc, .ref xh, .ref xf, .ref xm])) {na : Nat → Nat} (mn : xn ∈ L) (fn : f xn = .inr (3, [.int (0 : Int32), .int (0 : Int32), .int (0 : Int32), .int (0 : Int32), .int (0 : Int32), .int (0 : Int32), .int (0 : Int32), .int (0 : Int32), .int (0 : Int32), .int (0 : Int32), .ref (na 0), .ref (na 1), .ref (na 2), .ref (na 3), .ref (na 4), .ref (na 5), .ref (na 6), .ref (na 7), .ref (na 8), .ref (na 9)])) (p0 : Int32) : gMi l E yX9_bests cX9_bests 2 .int (gRm 5 0 0) [.ref x, .int p0] L f (gRO (-2 : Int32) L f) := by
  refine gMi.intro (by decide) (Nat.le_of_ble_eq_true rfl) ?_
  intro p e s m below meth c A ls C hr hA hH hl
  have C : gC E cX9_bests 2 RX9 p s m _ meth c := C
  have hl : lv_has ls 2 [(0, .ref x), (1, .int p0)] := hl
  have hx := C.1
  have hb := C.2.1
  refine lv_aload_n hx hb dX9_bests_0 rfl (lv_at hl 0 rfl) ?_
  refine g_get C hH mx fx iX9 rfl 1 (by decide) wd18 rfl rfl dX9_bests_1 ?_
  refine g_Vi C hl.1 hA hH (As := []) (rest := []) (k_isNone l E L f mn fn) my_X3_isNone wd19 mn fn rfl rfl rfl (Nat.le_of_ble_eq_true rfl) ⟨Nat.le_of_ble_eq_true rfl, Nat.le_of_ble_eq_true rfl⟩ ⟨Nat.le_of_ble_eq_true rfl, Nat.le_of_ble_eq_true rfl⟩ dX9_bests_4 (fun r3 L2 f1 H locs hp hH => ?_)
  obtain ⟨er3, rfl, rfl⟩ := hp
  subst er3
  refine lv_if_ne (tgt := 17) hx hb dX9_bests_7 (by decide) (fun _ => ?_) (fun h => absurd h (by decide))
  refine lv_bipush (v := (-2 : Int32)) hx hb dX9_bests_17 (by decide) ?_
  refine g_iret C hr hH (Nat.le_of_ble_eq_true rfl) (Nat.le_of_ble_eq_true rfl) dX9_bests_19 ?_
  exact ⟨rfl, rfl, rfl⟩
set_option maxHeartbeats 4000000 in
set_option maxRecDepth 100000 in
theorem k_most (l : Launch) (E : gE) (L : List Nat) (f : gF) {x xt xn xr xi xw xs xl xc xh xf xm : Nat} (mx : x ∈ L) (fx : f x = .inr (9, [.ref xt, .ref xn, .ref xr, .ref xi, .ref xw, .ref xs, .ref xl, .ref xc, .ref xh, .ref xf, .ref xm])) {na : Nat → Nat} (mn : xn ∈ L) (fn : f xn = .inr (3, [.int (0 : Int32), .int (0 : Int32), .int (0 : Int32), .int (0 : Int32), .int (0 : Int32), .int (0 : Int32), .int (0 : Int32), .int (0 : Int32), .int (0 : Int32), .int (0 : Int32), .ref (na 0), .ref (na 1), .ref (na 2), .ref (na 3), .ref (na 4), .ref (na 5), .ref (na 6), .ref (na 7), .ref (na 8), .ref (na 9)])) (p0 : Int32) : gMi l E yX9_most cX9_most 2 .int (gRm 5 0 0) [.ref x, .int p0] L f (gRO (-2 : Int32) L f) := by
  refine gMi.intro (by decide) (Nat.le_of_ble_eq_true rfl) ?_
  intro p e s m below meth c A ls C hr hA hH hl
  have C : gC E cX9_most 2 RX9 p s m _ meth c := C
  have hl : lv_has ls 2 [(0, .ref x), (1, .int p0)] := hl
  have hx := C.1
  have hb := C.2.1
  refine lv_aload_n hx hb dX9_most_0 rfl (lv_at hl 0 rfl) ?_
  refine g_get C hH mx fx iX9 rfl 1 (by decide) wd18 rfl rfl dX9_most_1 ?_
  refine g_Vi C hl.1 hA hH (As := []) (rest := []) (k_isNone l E L f mn fn) my_X3_isNone wd19 mn fn rfl rfl rfl (Nat.le_of_ble_eq_true rfl) ⟨Nat.le_of_ble_eq_true rfl, Nat.le_of_ble_eq_true rfl⟩ ⟨Nat.le_of_ble_eq_true rfl, Nat.le_of_ble_eq_true rfl⟩ dX9_most_4 (fun r3 L2 f1 H locs hp hH => ?_)
  obtain ⟨er3, rfl, rfl⟩ := hp
  subst er3
  refine lv_if_ne (tgt := 17) hx hb dX9_most_7 (by decide) (fun _ => ?_) (fun h => absurd h (by decide))
  refine lv_bipush (v := (-2 : Int32)) hx hb dX9_most_17 (by decide) ?_
  refine g_iret C hr hH (Nat.le_of_ble_eq_true rfl) (Nat.le_of_ble_eq_true rfl) dX9_most_19 ?_
  exact ⟨rfl, rfl, rfl⟩
set_option maxHeartbeats 4000000 in
set_option maxRecDepth 100000 in
theorem k_more (l : Launch) (E : gE) (L : List Nat) (f : gF) {x xt xn xr xi xw xs xl xc xh xf xm : Nat} (mx : x ∈ L) (fx : f x = .inr (9, [.ref xt, .ref xn, .ref xr, .ref xi, .ref xw, .ref xs, .ref xl, .ref xc, .ref xh, .ref xf, .ref xm])) {na : Nat → Nat} (mn : xn ∈ L) (fn : f xn = .inr (3, [.int (0 : Int32), .int (0 : Int32), .int (0 : Int32), .int (0 : Int32), .int (0 : Int32), .int (0 : Int32), .int (0 : Int32), .int (0 : Int32), .int (0 : Int32), .int (0 : Int32), .ref (na 0), .ref (na 1), .ref (na 2), .ref (na 3), .ref (na 4), .ref (na 5), .ref (na 6), .ref (na 7), .ref (na 8), .ref (na 9)])) : gMi l E yX9_more cX9_more 1 .int (gRm 5 0 0) [.ref x] L f (gRO (-2 : Int32) L f) := by
  refine gMi.intro (by decide) (Nat.le_of_ble_eq_true rfl) ?_
  intro p e s m below meth c A ls C hr hA hH hl
  have C : gC E cX9_more 1 RX9 p s m _ meth c := C
  have hl : lv_has ls 1 [(0, .ref x)] := hl
  have hx := C.1
  have hb := C.2.1
  refine lv_aload_n hx hb dX9_more_0 rfl (lv_at hl 0 rfl) ?_
  refine g_get C hH mx fx iX9 rfl 1 (by decide) wd18 rfl rfl dX9_more_1 ?_
  refine g_Vi C hl.1 hA hH (As := []) (rest := []) (k_isNone l E L f mn fn) my_X3_isNone wd19 mn fn rfl rfl rfl (Nat.le_of_ble_eq_true rfl) ⟨Nat.le_of_ble_eq_true rfl, Nat.le_of_ble_eq_true rfl⟩ ⟨Nat.le_of_ble_eq_true rfl, Nat.le_of_ble_eq_true rfl⟩ dX9_more_4 (fun r3 L2 f1 H locs hp hH => ?_)
  obtain ⟨er3, rfl, rfl⟩ := hp
  subst er3
  refine lv_if_eq (tgt := 15) hx hb dX9_more_7 (by decide) (fun h => absurd h (by decide)) (fun _ => ?_)
  refine lv_bipush (v := (-2 : Int32)) hx hb dX9_more_10 (by decide) ?_
  refine lv_goto (tgt := 36) hx hb dX9_more_12 (by decide) ?_
  refine g_iret C hr hH (Nat.le_of_ble_eq_true rfl) (Nat.le_of_ble_eq_true rfl) dX9_more_36 ?_
  exact ⟨rfl, rfl, rfl⟩
set_option maxHeartbeats 4000000 in
set_option maxRecDepth 100000 in
theorem k_less (l : Launch) (E : gE) (L : List Nat) (f : gF) {x xt xn xr xi xw xs xl xc xh xf xm : Nat} (mx : x ∈ L) (fx : f x = .inr (9, [.ref xt, .ref xn, .ref xr, .ref xi, .ref xw, .ref xs, .ref xl, .ref xc, .ref xh, .ref xf, .ref xm])) {na : Nat → Nat} (mn : xn ∈ L) (fn : f xn = .inr (3, [.int (0 : Int32), .int (0 : Int32), .int (0 : Int32), .int (0 : Int32), .int (0 : Int32), .int (0 : Int32), .int (0 : Int32), .int (0 : Int32), .int (0 : Int32), .int (0 : Int32), .ref (na 0), .ref (na 1), .ref (na 2), .ref (na 3), .ref (na 4), .ref (na 5), .ref (na 6), .ref (na 7), .ref (na 8), .ref (na 9)])) : gMi l E yX9_less cX9_less 1 .int (gRm 5 0 0) [.ref x] L f (gRO (-2 : Int32) L f) := by
  refine gMi.intro (by decide) (Nat.le_of_ble_eq_true rfl) ?_
  intro p e s m below meth c A ls C hr hA hH hl
  have C : gC E cX9_less 1 RX9 p s m _ meth c := C
  have hl : lv_has ls 1 [(0, .ref x)] := hl
  have hx := C.1
  have hb := C.2.1
  refine lv_aload_n hx hb dX9_less_0 rfl (lv_at hl 0 rfl) ?_
  refine g_get C hH mx fx iX9 rfl 1 (by decide) wd18 rfl rfl dX9_less_1 ?_
  refine g_Vi C hl.1 hA hH (As := []) (rest := []) (k_isNone l E L f mn fn) my_X3_isNone wd19 mn fn rfl rfl rfl (Nat.le_of_ble_eq_true rfl) ⟨Nat.le_of_ble_eq_true rfl, Nat.le_of_ble_eq_true rfl⟩ ⟨Nat.le_of_ble_eq_true rfl, Nat.le_of_ble_eq_true rfl⟩ dX9_less_4 (fun r3 L2 f1 H locs hp hH => ?_)
  obtain ⟨er3, rfl, rfl⟩ := hp
  subst er3
  refine lv_if_eq (tgt := 15) hx hb dX9_less_7 (by decide) (fun h => absurd h (by decide)) (fun _ => ?_)
  refine lv_bipush (v := (-2 : Int32)) hx hb dX9_less_10 (by decide) ?_
  refine lv_goto (tgt := 26) hx hb dX9_less_12 (by decide) ?_
  refine g_iret C hr hH (Nat.le_of_ble_eq_true rfl) (Nat.le_of_ble_eq_true rfl) dX9_less_26 ?_
  exact ⟨rfl, rfl, rfl⟩
set_option maxHeartbeats 4000000 in
set_option maxRecDepth 100000 in
theorem k_by (l : Launch) (E : gE) (L : List Nat) (f : gF) {x xt xn xr xi xw xs xl xc xh xf xm : Nat} (mx : x ∈ L) (fx : f x = .inr (9, [.ref xt, .ref xn, .ref xr, .ref xi, .ref xw, .ref xs, .ref xl, .ref xc, .ref xh, .ref xf, .ref xm])) {na : Nat → Nat} (mn : xn ∈ L) (fn : f xn = .inr (3, [.int (0 : Int32), .int (0 : Int32), .int (0 : Int32), .int (0 : Int32), .int (0 : Int32), .int (0 : Int32), .int (0 : Int32), .int (0 : Int32), .int (0 : Int32), .int (0 : Int32), .ref (na 0), .ref (na 1), .ref (na 2), .ref (na 3), .ref (na 4), .ref (na 5), .ref (na 6), .ref (na 7), .ref (na 8), .ref (na 9)])) (p0 : Int32) : gMi l E yX9_by cX9_by 2 .int (gRm 5 0 0) [.ref x, .int p0] L f (gRO (-2 : Int32) L f) := by
  refine gMi.intro (by decide) (Nat.le_of_ble_eq_true rfl) ?_
  intro p e s m below meth c A ls C hr hA hH hl
  have C : gC E cX9_by 2 RX9 p s m _ meth c := C
  have hl : lv_has ls 2 [(0, .ref x), (1, .int p0)] := hl
  have hx := C.1
  have hb := C.2.1
  refine lv_aload_n hx hb dX9_by_0 rfl (lv_at hl 0 rfl) ?_
  refine g_get C hH mx fx iX9 rfl 1 (by decide) wd18 rfl rfl dX9_by_1 ?_
  refine g_Vi C hl.1 hA hH (As := []) (rest := []) (k_isNone l E L f mn fn) my_X3_isNone wd19 mn fn rfl rfl rfl (Nat.le_of_ble_eq_true rfl) ⟨Nat.le_of_ble_eq_true rfl, Nat.le_of_ble_eq_true rfl⟩ ⟨Nat.le_of_ble_eq_true rfl, Nat.le_of_ble_eq_true rfl⟩ dX9_by_4 (fun r3 L2 f1 H locs hp hH => ?_)
  obtain ⟨er3, rfl, rfl⟩ := hp
  subst er3
  refine lv_if_ne (tgt := 19) hx hb dX9_by_7 (by decide) (fun _ => ?_) (fun h => absurd h (by decide))
  refine lv_bipush (v := (-2 : Int32)) hx hb dX9_by_19 (by decide) ?_
  refine g_iret C hr hH (Nat.le_of_ble_eq_true rfl) (Nat.le_of_ble_eq_true rfl) dX9_by_21 ?_
  exact ⟨rfl, rfl, rfl⟩
set_option maxHeartbeats 4000000 in
set_option maxRecDepth 100000 in
theorem k_law (l : Launch) (E : gE) (L : List Nat) (f : gF) {x xt xn xr xi xw xs xl xc xh xf xm : Nat} (mx : x ∈ L) (fx : f x = .inr (9, [.ref xt, .ref xn, .ref xr, .ref xi, .ref xw, .ref xs, .ref xl, .ref xc, .ref xh, .ref xf, .ref xm])) {na : Nat → Nat} (mn : xn ∈ L) (fn : f xn = .inr (3, [.int (0 : Int32), .int (0 : Int32), .int (0 : Int32), .int (0 : Int32), .int (0 : Int32), .int (0 : Int32), .int (0 : Int32), .int (0 : Int32), .int (0 : Int32), .int (0 : Int32), .ref (na 0), .ref (na 1), .ref (na 2), .ref (na 3), .ref (na 4), .ref (na 5), .ref (na 6), .ref (na 7), .ref (na 8), .ref (na 9)])) : gMi l E yX9_law cX9_law 5 .int (gRm 5 0 0) [.ref x] L f (gRO (-2 : Int32) L f) := by
  refine gMi.intro (by decide) (Nat.le_of_ble_eq_true rfl) ?_
  intro p e s m below meth c A ls C hr hA hH hl
  have C : gC E cX9_law 5 RX9 p s m _ meth c := C
  have hl : lv_has ls 5 [(0, .ref x)] := hl
  have hx := C.1
  have hb := C.2.1
  refine lv_aload_n hx hb dX9_law_0 rfl (lv_at hl 0 rfl) ?_
  refine g_get C hH mx fx iX9 rfl 1 (by decide) wd18 rfl rfl dX9_law_1 ?_
  refine g_Vi C hl.1 hA hH (As := []) (rest := []) (k_isNone l E L f mn fn) my_X3_isNone wd19 mn fn rfl rfl rfl (Nat.le_of_ble_eq_true rfl) ⟨Nat.le_of_ble_eq_true rfl, Nat.le_of_ble_eq_true rfl⟩ ⟨Nat.le_of_ble_eq_true rfl, Nat.le_of_ble_eq_true rfl⟩ dX9_law_4 (fun r3 L2 f1 H locs hp hH => ?_)
  obtain ⟨er3, rfl, rfl⟩ := hp
  subst er3
  refine lv_if_eq (tgt := 13) hx hb dX9_law_7 (by decide) (fun h => absurd h (by decide)) (fun _ => ?_)
  refine lv_bipush (v := (-2 : Int32)) hx hb dX9_law_10 (by decide) ?_
  refine g_iret C hr hH (Nat.le_of_ble_eq_true rfl) (Nat.le_of_ble_eq_true rfl) dX9_law_12 ?_
  exact ⟨rfl, rfl, rfl⟩
set_option maxHeartbeats 4000000 in
set_option maxRecDepth 100000 in
theorem k_laws (l : Launch) (E : gE) (L : List Nat) (f : gF) {x xt xn xr xi xw xs xl xc xh xf xm : Nat} (mx : x ∈ L) (fx : f x = .inr (9, [.ref xt, .ref xn, .ref xr, .ref xi, .ref xw, .ref xs, .ref xl, .ref xc, .ref xh, .ref xf, .ref xm])) {na : Nat → Nat} (mn : xn ∈ L) (fn : f xn = .inr (3, [.int (0 : Int32), .int (0 : Int32), .int (0 : Int32), .int (0 : Int32), .int (0 : Int32), .int (0 : Int32), .int (0 : Int32), .int (0 : Int32), .int (0 : Int32), .int (0 : Int32), .ref (na 0), .ref (na 1), .ref (na 2), .ref (na 3), .ref (na 4), .ref (na 5), .ref (na 6), .ref (na 7), .ref (na 8), .ref (na 9)])) (p0 : Int32) : gMi l E yX9_laws cX9_laws 3 .int (gRm 5 0 0) [.ref x, .int p0] L f (gRO (-2 : Int32) L f) := by
  refine gMi.intro (by decide) (Nat.le_of_ble_eq_true rfl) ?_
  intro p e s m below meth c A ls C hr hA hH hl
  have C : gC E cX9_laws 3 RX9 p s m _ meth c := C
  have hl : lv_has ls 3 [(0, .ref x), (1, .int p0)] := hl
  have hx := C.1
  have hb := C.2.1
  refine lv_aload_n hx hb dX9_laws_0 rfl (lv_at hl 0 rfl) ?_
  refine lv_iload_n hx hb dX9_laws_1 rfl (lv_at hl 1 rfl) ?_
  refine g_Vi C hl.1 hA hH (As := [.int p0]) (rest := []) (k_sightRefusal l E L f mx fx mn fn p0) my_X9_sightRefusal wd43 mx fx rfl rfl rfl (Nat.le_of_ble_eq_true rfl) ⟨Nat.le_of_ble_eq_true rfl, Nat.le_of_ble_eq_true rfl⟩ ⟨Nat.le_of_ble_eq_true rfl, Nat.le_of_ble_eq_true rfl⟩ dX9_laws_2 (fun r3 L2 f1 H locs hp hH => ?_)
  obtain ⟨er3, rfl, rfl⟩ := hp
  subst er3
  refine lv_istore_n (lv' := [(2, .int (-2 : Int32)), (0, .ref x), (1, .int p0)]) hx hb dX9_laws_5 rfl hl (by decide) rfl (fun ls hl => ?_)
  refine lv_iload_n hx hb dX9_laws_6 rfl (lv_at hl 0 rfl) ?_
  refine lv_if_eq (tgt := 14) hx hb dX9_laws_7 (by decide) (fun h => absurd h (by decide)) (fun _ => ?_)
  refine lv_iload_n hx hb dX9_laws_10 rfl (lv_at hl 0 rfl) ?_
  refine lv_goto (tgt := 27) hx hb dX9_laws_11 (by decide) ?_
  refine g_iret C hr hH (Nat.le_of_ble_eq_true rfl) (Nat.le_of_ble_eq_true rfl) dX9_laws_27 ?_
  exact ⟨rfl, rfl, rfl⟩
set_option maxHeartbeats 4000000 in
set_option maxRecDepth 100000 in
theorem k_ask (l : Launch) (E : gE) (L : List Nat) (f : gF) {x xt xn xr xi xw xs xl xc xh xf xm : Nat} (mx : x ∈ L) (fx : f x = .inr (9, [.ref xt, .ref xn, .ref xr, .ref xi, .ref xw, .ref xs, .ref xl, .ref xc, .ref xh, .ref xf, .ref xm])) {na : Nat → Nat} (mn : xn ∈ L) (fn : f xn = .inr (3, [.int (0 : Int32), .int (0 : Int32), .int (0 : Int32), .int (0 : Int32), .int (0 : Int32), .int (0 : Int32), .int (0 : Int32), .int (0 : Int32), .int (0 : Int32), .int (0 : Int32), .ref (na 0), .ref (na 1), .ref (na 2), .ref (na 3), .ref (na 4), .ref (na 5), .ref (na 6), .ref (na 7), .ref (na 8), .ref (na 9)])) (p0 : Int32) : gMi l E yX9_ask cX9_ask 3 .int (gRm 5 0 0) [.ref x, .int p0] L f (gRO (-2 : Int32) L f) := by
  refine gMi.intro (by decide) (Nat.le_of_ble_eq_true rfl) ?_
  intro p e s m below meth c A ls C hr hA hH hl
  have C : gC E cX9_ask 3 RX9 p s m _ meth c := C
  have hl : lv_has ls 3 [(0, .ref x), (1, .int p0)] := hl
  have hx := C.1
  have hb := C.2.1
  refine lv_aload_n hx hb dX9_ask_0 rfl (lv_at hl 0 rfl) ?_
  refine lv_iload_n hx hb dX9_ask_1 rfl (lv_at hl 1 rfl) ?_
  refine g_Vi C hl.1 hA hH (As := [.int p0]) (rest := []) (k_sightRefusal l E L f mx fx mn fn p0) my_X9_sightRefusal wd43 mx fx rfl rfl rfl (Nat.le_of_ble_eq_true rfl) ⟨Nat.le_of_ble_eq_true rfl, Nat.le_of_ble_eq_true rfl⟩ ⟨Nat.le_of_ble_eq_true rfl, Nat.le_of_ble_eq_true rfl⟩ dX9_ask_2 (fun r3 L2 f1 H locs hp hH => ?_)
  obtain ⟨er3, rfl, rfl⟩ := hp
  subst er3
  refine lv_istore_n (lv' := [(2, .int (-2 : Int32)), (0, .ref x), (1, .int p0)]) hx hb dX9_ask_5 rfl hl (by decide) rfl (fun ls hl => ?_)
  refine lv_iload_n hx hb dX9_ask_6 rfl (lv_at hl 0 rfl) ?_
  refine lv_if_eq (tgt := 14) hx hb dX9_ask_7 (by decide) (fun h => absurd h (by decide)) (fun _ => ?_)
  refine lv_iload_n hx hb dX9_ask_10 rfl (lv_at hl 0 rfl) ?_
  refine lv_goto (tgt := 34) hx hb dX9_ask_11 (by decide) ?_
  refine g_iret C hr hH (Nat.le_of_ble_eq_true rfl) (Nat.le_of_ble_eq_true rfl) dX9_ask_34 ?_
  exact ⟨rfl, rfl, rfl⟩
set_option maxHeartbeats 4000000 in
set_option maxRecDepth 100000 in
theorem k_began (l : Launch) (E : gE) (L : List Nat) (f : gF) {x xt xn xr xi xw xs xl xc xh xf xm : Nat} (mx : x ∈ L) (fx : f x = .inr (9, [.ref xt, .ref xn, .ref xr, .ref xi, .ref xw, .ref xs, .ref xl, .ref xc, .ref xh, .ref xf, .ref xm])) {na : Nat → Nat} (mn : xn ∈ L) (fn : f xn = .inr (3, [.int (0 : Int32), .int (0 : Int32), .int (0 : Int32), .int (0 : Int32), .int (0 : Int32), .int (0 : Int32), .int (0 : Int32), .int (0 : Int32), .int (0 : Int32), .int (0 : Int32), .ref (na 0), .ref (na 1), .ref (na 2), .ref (na 3), .ref (na 4), .ref (na 5), .ref (na 6), .ref (na 7), .ref (na 8), .ref (na 9)])) (p0 : Int32) : gMi l E yX9_began cX9_began 3 .int (gRm 5 0 0) [.ref x, .int p0] L f (gRO (-2 : Int32) L f) := by
  refine gMi.intro (by decide) (Nat.le_of_ble_eq_true rfl) ?_
  intro p e s m below meth c A ls C hr hA hH hl
  have C : gC E cX9_began 3 RX9 p s m _ meth c := C
  have hl : lv_has ls 3 [(0, .ref x), (1, .int p0)] := hl
  have hx := C.1
  have hb := C.2.1
  refine lv_aload_n hx hb dX9_began_0 rfl (lv_at hl 0 rfl) ?_
  refine lv_iload_n hx hb dX9_began_1 rfl (lv_at hl 1 rfl) ?_
  refine g_Vi C hl.1 hA hH (As := [.int p0]) (rest := []) (k_reportRefusal l E L f mx fx mn fn p0) my_X9_reportRefusal wd47 mx fx rfl rfl rfl (Nat.le_of_ble_eq_true rfl) ⟨Nat.le_of_ble_eq_true rfl, Nat.le_of_ble_eq_true rfl⟩ ⟨Nat.le_of_ble_eq_true rfl, Nat.le_of_ble_eq_true rfl⟩ dX9_began_2 (fun r3 L2 f1 H locs hp hH => ?_)
  obtain ⟨er3, rfl, rfl⟩ := hp
  subst er3
  refine lv_istore_n (lv' := [(2, .int (-2 : Int32)), (0, .ref x), (1, .int p0)]) hx hb dX9_began_5 rfl hl (by decide) rfl (fun ls hl => ?_)
  refine lv_iload_n hx hb dX9_began_6 rfl (lv_at hl 0 rfl) ?_
  refine lv_if_eq (tgt := 14) hx hb dX9_began_7 (by decide) (fun h => absurd h (by decide)) (fun _ => ?_)
  refine lv_iload_n hx hb dX9_began_10 rfl (lv_at hl 0 rfl) ?_
  refine lv_goto (tgt := 27) hx hb dX9_began_11 (by decide) ?_
  refine g_iret C hr hH (Nat.le_of_ble_eq_true rfl) (Nat.le_of_ble_eq_true rfl) dX9_began_27 ?_
  exact ⟨rfl, rfl, rfl⟩
set_option maxHeartbeats 4000000 in
set_option maxRecDepth 100000 in
theorem k_spots (l : Launch) (E : gE) (L : List Nat) (f : gF) {x xt xn xr xi xw xs xl xc xh xf xm : Nat} (mx : x ∈ L) (fx : f x = .inr (9, [.ref xt, .ref xn, .ref xr, .ref xi, .ref xw, .ref xs, .ref xl, .ref xc, .ref xh, .ref xf, .ref xm])) {na : Nat → Nat} (mn : xn ∈ L) (fn : f xn = .inr (3, [.int (0 : Int32), .int (0 : Int32), .int (0 : Int32), .int (0 : Int32), .int (0 : Int32), .int (0 : Int32), .int (0 : Int32), .int (0 : Int32), .int (0 : Int32), .int (0 : Int32), .ref (na 0), .ref (na 1), .ref (na 2), .ref (na 3), .ref (na 4), .ref (na 5), .ref (na 6), .ref (na 7), .ref (na 8), .ref (na 9)])) (p0 : Int32) : gMi l E yX9_spots cX9_spots 3 .int (gRm 5 0 0) [.ref x, .int p0] L f (gRO (-2 : Int32) L f) := by
  refine gMi.intro (by decide) (Nat.le_of_ble_eq_true rfl) ?_
  intro p e s m below meth c A ls C hr hA hH hl
  have C : gC E cX9_spots 3 RX9 p s m _ meth c := C
  have hl : lv_has ls 3 [(0, .ref x), (1, .int p0)] := hl
  have hx := C.1
  have hb := C.2.1
  refine lv_aload_n hx hb dX9_spots_0 rfl (lv_at hl 0 rfl) ?_
  refine lv_iload_n hx hb dX9_spots_1 rfl (lv_at hl 1 rfl) ?_
  refine g_Vi C hl.1 hA hH (As := [.int p0]) (rest := []) (k_reportRefusal l E L f mx fx mn fn p0) my_X9_reportRefusal wd47 mx fx rfl rfl rfl (Nat.le_of_ble_eq_true rfl) ⟨Nat.le_of_ble_eq_true rfl, Nat.le_of_ble_eq_true rfl⟩ ⟨Nat.le_of_ble_eq_true rfl, Nat.le_of_ble_eq_true rfl⟩ dX9_spots_2 (fun r3 L2 f1 H locs hp hH => ?_)
  obtain ⟨er3, rfl, rfl⟩ := hp
  subst er3
  refine lv_istore_n (lv' := [(2, .int (-2 : Int32)), (0, .ref x), (1, .int p0)]) hx hb dX9_spots_5 rfl hl (by decide) rfl (fun ls hl => ?_)
  refine lv_iload_n hx hb dX9_spots_6 rfl (lv_at hl 0 rfl) ?_
  refine lv_if_eq (tgt := 12) hx hb dX9_spots_7 (by decide) (fun h => absurd h (by decide)) (fun _ => ?_)
  refine lv_iload_n hx hb dX9_spots_10 rfl (lv_at hl 0 rfl) ?_
  refine g_iret C hr hH (Nat.le_of_ble_eq_true rfl) (Nat.le_of_ble_eq_true rfl) dX9_spots_11 ?_
  exact ⟨rfl, rfl, rfl⟩
set_option maxHeartbeats 4000000 in
set_option maxRecDepth 100000 in
theorem k_who (l : Launch) (E : gE) (L : List Nat) (f : gF) {x xt xn xr xi xw xs xl xc xh xf xm : Nat} (mx : x ∈ L) (fx : f x = .inr (9, [.ref xt, .ref xn, .ref xr, .ref xi, .ref xw, .ref xs, .ref xl, .ref xc, .ref xh, .ref xf, .ref xm])) {na : Nat → Nat} (mn : xn ∈ L) (fn : f xn = .inr (3, [.int (0 : Int32), .int (0 : Int32), .int (0 : Int32), .int (0 : Int32), .int (0 : Int32), .int (0 : Int32), .int (0 : Int32), .int (0 : Int32), .int (0 : Int32), .int (0 : Int32), .ref (na 0), .ref (na 1), .ref (na 2), .ref (na 3), .ref (na 4), .ref (na 5), .ref (na 6), .ref (na 7), .ref (na 8), .ref (na 9)])) (p0 : Int32) : gMi l E yX9_who cX9_who 3 .int (gRm 5 0 0) [.ref x, .int p0] L f (gRO (-2 : Int32) L f) := by
  refine gMi.intro (by decide) (Nat.le_of_ble_eq_true rfl) ?_
  intro p e s m below meth c A ls C hr hA hH hl
  have C : gC E cX9_who 3 RX9 p s m _ meth c := C
  have hl : lv_has ls 3 [(0, .ref x), (1, .int p0)] := hl
  have hx := C.1
  have hb := C.2.1
  refine lv_aload_n hx hb dX9_who_0 rfl (lv_at hl 0 rfl) ?_
  refine lv_iload_n hx hb dX9_who_1 rfl (lv_at hl 1 rfl) ?_
  refine g_Vi C hl.1 hA hH (As := [.int p0]) (rest := []) (k_reportRefusal l E L f mx fx mn fn p0) my_X9_reportRefusal wd47 mx fx rfl rfl rfl (Nat.le_of_ble_eq_true rfl) ⟨Nat.le_of_ble_eq_true rfl, Nat.le_of_ble_eq_true rfl⟩ ⟨Nat.le_of_ble_eq_true rfl, Nat.le_of_ble_eq_true rfl⟩ dX9_who_2 (fun r3 L2 f1 H locs hp hH => ?_)
  obtain ⟨er3, rfl, rfl⟩ := hp
  subst er3
  refine lv_istore_n (lv' := [(2, .int (-2 : Int32)), (0, .ref x), (1, .int p0)]) hx hb dX9_who_5 rfl hl (by decide) rfl (fun ls hl => ?_)
  refine lv_iload_n hx hb dX9_who_6 rfl (lv_at hl 0 rfl) ?_
  refine lv_if_eq (tgt := 14) hx hb dX9_who_7 (by decide) (fun h => absurd h (by decide)) (fun _ => ?_)
  refine lv_iload_n hx hb dX9_who_10 rfl (lv_at hl 0 rfl) ?_
  refine lv_goto (tgt := 34) hx hb dX9_who_11 (by decide) ?_
  refine g_iret C hr hH (Nat.le_of_ble_eq_true rfl) (Nat.le_of_ble_eq_true rfl) dX9_who_34 ?_
  exact ⟨rfl, rfl, rfl⟩
set_option maxHeartbeats 4000000 in
set_option maxRecDepth 100000 in
theorem k_leaves (l : Launch) (E : gE) (L : List Nat) (f : gF) {x xt xn xr xi xw xs xl xc xh xf xm : Nat} (mx : x ∈ L) (fx : f x = .inr (9, [.ref xt, .ref xn, .ref xr, .ref xi, .ref xw, .ref xs, .ref xl, .ref xc, .ref xh, .ref xf, .ref xm])) {na : Nat → Nat} (mn : xn ∈ L) (fn : f xn = .inr (3, [.int (0 : Int32), .int (0 : Int32), .int (0 : Int32), .int (0 : Int32), .int (0 : Int32), .int (0 : Int32), .int (0 : Int32), .int (0 : Int32), .int (0 : Int32), .int (0 : Int32), .ref (na 0), .ref (na 1), .ref (na 2), .ref (na 3), .ref (na 4), .ref (na 5), .ref (na 6), .ref (na 7), .ref (na 8), .ref (na 9)])) (p0 : Int32) : gMi l E yX9_leaves cX9_leaves 5 .int (gRm 5 0 0) [.ref x, .int p0] L f (gRO (-2 : Int32) L f) := by
  refine gMi.intro (by decide) (Nat.le_of_ble_eq_true rfl) ?_
  intro p e s m below meth c A ls C hr hA hH hl
  have C : gC E cX9_leaves 5 RX9 p s m _ meth c := C
  have hl : lv_has ls 5 [(0, .ref x), (1, .int p0)] := hl
  have hx := C.1
  have hb := C.2.1
  refine lv_aload_n hx hb dX9_leaves_0 rfl (lv_at hl 0 rfl) ?_
  refine lv_iload_n hx hb dX9_leaves_1 rfl (lv_at hl 1 rfl) ?_
  refine g_Vi C hl.1 hA hH (As := [.int p0]) (rest := []) (k_reportRefusal l E L f mx fx mn fn p0) my_X9_reportRefusal wd47 mx fx rfl rfl rfl (Nat.le_of_ble_eq_true rfl) ⟨Nat.le_of_ble_eq_true rfl, Nat.le_of_ble_eq_true rfl⟩ ⟨Nat.le_of_ble_eq_true rfl, Nat.le_of_ble_eq_true rfl⟩ dX9_leaves_2 (fun r3 L2 f1 H locs hp hH => ?_)
  obtain ⟨er3, rfl, rfl⟩ := hp
  subst er3
  refine lv_istore_n (lv' := [(2, .int (-2 : Int32)), (0, .ref x), (1, .int p0)]) hx hb dX9_leaves_5 rfl hl (by decide) rfl (fun ls hl => ?_)
  refine lv_iload_n hx hb dX9_leaves_6 rfl (lv_at hl 0 rfl) ?_
  refine lv_if_eq (tgt := 12) hx hb dX9_leaves_7 (by decide) (fun h => absurd h (by decide)) (fun _ => ?_)
  refine lv_iload_n hx hb dX9_leaves_10 rfl (lv_at hl 0 rfl) ?_
  refine g_iret C hr hH (Nat.le_of_ble_eq_true rfl) (Nat.le_of_ble_eq_true rfl) dX9_leaves_11 ?_
  exact ⟨rfl, rfl, rfl⟩
set_option maxHeartbeats 4000000 in
set_option maxRecDepth 100000 in
theorem k_odds (l : Launch) (E : gE) (L : List Nat) (f : gF) {x xt xn xr xi xw xs xl xc xh xf xm : Nat} (mx : x ∈ L) (fx : f x = .inr (9, [.ref xt, .ref xn, .ref xr, .ref xi, .ref xw, .ref xs, .ref xl, .ref xc, .ref xh, .ref xf, .ref xm])) {na : Nat → Nat} (mn : xn ∈ L) (fn : f xn = .inr (3, [.int (0 : Int32), .int (0 : Int32), .int (0 : Int32), .int (0 : Int32), .int (0 : Int32), .int (0 : Int32), .int (0 : Int32), .int (0 : Int32), .int (0 : Int32), .int (0 : Int32), .ref (na 0), .ref (na 1), .ref (na 2), .ref (na 3), .ref (na 4), .ref (na 5), .ref (na 6), .ref (na 7), .ref (na 8), .ref (na 9)])) (p0 p1 p2 : Int32) : gMi l E yX9_odds cX9_odds 6 .int (gRm 5 0 0) [.ref x, .int p0, .int p1, .int p2] L f (gRO (-2 : Int32) L f) := by
  refine gMi.intro (by decide) (Nat.le_of_ble_eq_true rfl) ?_
  intro p e s m below meth c A ls C hr hA hH hl
  have C : gC E cX9_odds 6 RX9 p s m _ meth c := C
  have hl : lv_has ls 6 [(0, .ref x), (1, .int p0), (2, .int p1), (3, .int p2)] := hl
  have hx := C.1
  have hb := C.2.1
  refine lv_aload_n hx hb dX9_odds_0 rfl (lv_at hl 0 rfl) ?_
  refine g_get C hH mx fx iX9 rfl 1 (by decide) wd18 rfl rfl dX9_odds_1 ?_
  refine lv_iload_n hx hb dX9_odds_4 rfl (lv_at hl 2 rfl) ?_
  refine g_Vi C hl.1 hA hH (As := [.int p1]) (rest := []) (k_hasMember l E L f mn fn p1) my_X3_hasMember wd27 mn fn rfl rfl rfl (Nat.le_of_ble_eq_true rfl) ⟨Nat.le_of_ble_eq_true rfl, Nat.le_of_ble_eq_true rfl⟩ ⟨Nat.le_of_ble_eq_true rfl, Nat.le_of_ble_eq_true rfl⟩ dX9_odds_5 (fun r3 L2 f1 H locs hp hH => ?_)
  obtain ⟨er3, rfl, rfl⟩ := hp
  subst er3
  refine lv_if_eq (tgt := 18) hx hb dX9_odds_8 (by decide) (fun _ => ?_) (fun h => absurd (by decide) h)
  refine lv_bipush (v := (-2 : Int32)) hx hb dX9_odds_18 (by decide) ?_
  refine g_iret C hr hH (Nat.le_of_ble_eq_true rfl) (Nat.le_of_ble_eq_true rfl) dX9_odds_20 ?_
  exact ⟨rfl, rfl, rfl⟩
set_option maxHeartbeats 4000000 in
set_option maxRecDepth 100000 in
theorem k_homes (l : Launch) (E : gE) (L : List Nat) (f : gF) {x xt xn xr xi xw xs xl xc xh xf xm : Nat} (mx : x ∈ L) (fx : f x = .inr (9, [.ref xt, .ref xn, .ref xr, .ref xi, .ref xw, .ref xs, .ref xl, .ref xc, .ref xh, .ref xf, .ref xm])) {na : Nat → Nat} (mn : xn ∈ L) (fn : f xn = .inr (3, [.int (0 : Int32), .int (0 : Int32), .int (0 : Int32), .int (0 : Int32), .int (0 : Int32), .int (0 : Int32), .int (0 : Int32), .int (0 : Int32), .int (0 : Int32), .int (0 : Int32), .ref (na 0), .ref (na 1), .ref (na 2), .ref (na 3), .ref (na 4), .ref (na 5), .ref (na 6), .ref (na 7), .ref (na 8), .ref (na 9)])) : gMi l E yX9_homes cX9_homes 1 .int (gRm 5 0 0) [.ref x] L f (gRO (-2 : Int32) L f) := by
  refine gMi.intro (by decide) (Nat.le_of_ble_eq_true rfl) ?_
  intro p e s m below meth c A ls C hr hA hH hl
  have C : gC E cX9_homes 1 RX9 p s m _ meth c := C
  have hl : lv_has ls 1 [(0, .ref x)] := hl
  have hx := C.1
  have hb := C.2.1
  refine lv_aload_n hx hb dX9_homes_0 rfl (lv_at hl 0 rfl) ?_
  refine g_get C hH mx fx iX9 rfl 1 (by decide) wd18 rfl rfl dX9_homes_1 ?_
  refine g_Vi C hl.1 hA hH (As := []) (rest := []) (k_isNone l E L f mn fn) my_X3_isNone wd19 mn fn rfl rfl rfl (Nat.le_of_ble_eq_true rfl) ⟨Nat.le_of_ble_eq_true rfl, Nat.le_of_ble_eq_true rfl⟩ ⟨Nat.le_of_ble_eq_true rfl, Nat.le_of_ble_eq_true rfl⟩ dX9_homes_4 (fun r3 L2 f1 H locs hp hH => ?_)
  obtain ⟨er3, rfl, rfl⟩ := hp
  subst er3
  refine lv_if_eq (tgt := 13) hx hb dX9_homes_7 (by decide) (fun h => absurd h (by decide)) (fun _ => ?_)
  refine lv_bipush (v := (-2 : Int32)) hx hb dX9_homes_10 (by decide) ?_
  refine g_iret C hr hH (Nat.le_of_ble_eq_true rfl) (Nat.le_of_ble_eq_true rfl) dX9_homes_12 ?_
  exact ⟨rfl, rfl, rfl⟩
set_option maxHeartbeats 4000000 in
set_option maxRecDepth 100000 in
theorem k_home (l : Launch) (E : gE) (L : List Nat) (f : gF) {x xt xn xr xi xw xs xl xc xh xf xm : Nat} (mx : x ∈ L) (fx : f x = .inr (9, [.ref xt, .ref xn, .ref xr, .ref xi, .ref xw, .ref xs, .ref xl, .ref xc, .ref xh, .ref xf, .ref xm])) {na : Nat → Nat} (mn : xn ∈ L) (fn : f xn = .inr (3, [.int (0 : Int32), .int (0 : Int32), .int (0 : Int32), .int (0 : Int32), .int (0 : Int32), .int (0 : Int32), .int (0 : Int32), .int (0 : Int32), .int (0 : Int32), .int (0 : Int32), .ref (na 0), .ref (na 1), .ref (na 2), .ref (na 3), .ref (na 4), .ref (na 5), .ref (na 6), .ref (na 7), .ref (na 8), .ref (na 9)])) (p0 : Int32) : gMi l E yX9_home cX9_home 2 .int (gRm 5 0 0) [.ref x, .int p0] L f (gRO (-2 : Int32) L f) := by
  refine gMi.intro (by decide) (Nat.le_of_ble_eq_true rfl) ?_
  intro p e s m below meth c A ls C hr hA hH hl
  have C : gC E cX9_home 2 RX9 p s m _ meth c := C
  have hl : lv_has ls 2 [(0, .ref x), (1, .int p0)] := hl
  have hx := C.1
  have hb := C.2.1
  refine lv_aload_n hx hb dX9_home_0 rfl (lv_at hl 0 rfl) ?_
  refine g_get C hH mx fx iX9 rfl 1 (by decide) wd18 rfl rfl dX9_home_1 ?_
  refine lv_iload_n hx hb dX9_home_4 rfl (lv_at hl 1 rfl) ?_
  refine g_Vi C hl.1 hA hH (As := [.int p0]) (rest := []) (k_hasMember l E L f mn fn p0) my_X3_hasMember wd27 mn fn rfl rfl rfl (Nat.le_of_ble_eq_true rfl) ⟨Nat.le_of_ble_eq_true rfl, Nat.le_of_ble_eq_true rfl⟩ ⟨Nat.le_of_ble_eq_true rfl, Nat.le_of_ble_eq_true rfl⟩ dX9_home_5 (fun r3 L2 f1 H locs hp hH => ?_)
  obtain ⟨er3, rfl, rfl⟩ := hp
  subst er3
  refine lv_if_ne (tgt := 14) hx hb dX9_home_8 (by decide) (fun h => absurd (by decide) h) (fun _ => ?_)
  refine lv_bipush (v := (-2 : Int32)) hx hb dX9_home_11 (by decide) ?_
  refine g_iret C hr hH (Nat.le_of_ble_eq_true rfl) (Nat.le_of_ble_eq_true rfl) dX9_home_13 ?_
  exact ⟨rfl, rfl, rfl⟩
set_option maxHeartbeats 4000000 in
set_option maxRecDepth 100000 in
theorem k_swaps (l : Launch) (E : gE) (L : List Nat) (f : gF) {x xt xn xr xi xw xs xl xc xh xf xm : Nat} (mx : x ∈ L) (fx : f x = .inr (9, [.ref xt, .ref xn, .ref xr, .ref xi, .ref xw, .ref xs, .ref xl, .ref xc, .ref xh, .ref xf, .ref xm])) {na : Nat → Nat} (mn : xn ∈ L) (fn : f xn = .inr (3, [.int (0 : Int32), .int (0 : Int32), .int (0 : Int32), .int (0 : Int32), .int (0 : Int32), .int (0 : Int32), .int (0 : Int32), .int (0 : Int32), .int (0 : Int32), .int (0 : Int32), .ref (na 0), .ref (na 1), .ref (na 2), .ref (na 3), .ref (na 4), .ref (na 5), .ref (na 6), .ref (na 7), .ref (na 8), .ref (na 9)])) : gMi l E yX9_swaps cX9_swaps 1 .int (gRm 5 0 0) [.ref x] L f (gRO (-2 : Int32) L f) := by
  refine gMi.intro (by decide) (Nat.le_of_ble_eq_true rfl) ?_
  intro p e s m below meth c A ls C hr hA hH hl
  have C : gC E cX9_swaps 1 RX9 p s m _ meth c := C
  have hl : lv_has ls 1 [(0, .ref x)] := hl
  have hx := C.1
  have hb := C.2.1
  refine lv_aload_n hx hb dX9_swaps_0 rfl (lv_at hl 0 rfl) ?_
  refine g_get C hH mx fx iX9 rfl 1 (by decide) wd18 rfl rfl dX9_swaps_1 ?_
  refine g_Vi C hl.1 hA hH (As := []) (rest := []) (k_isNone l E L f mn fn) my_X3_isNone wd19 mn fn rfl rfl rfl (Nat.le_of_ble_eq_true rfl) ⟨Nat.le_of_ble_eq_true rfl, Nat.le_of_ble_eq_true rfl⟩ ⟨Nat.le_of_ble_eq_true rfl, Nat.le_of_ble_eq_true rfl⟩ dX9_swaps_4 (fun r3 L2 f1 H locs hp hH => ?_)
  obtain ⟨er3, rfl, rfl⟩ := hp
  subst er3
  refine lv_if_eq (tgt := 15) hx hb dX9_swaps_7 (by decide) (fun h => absurd h (by decide)) (fun _ => ?_)
  refine lv_bipush (v := (-2 : Int32)) hx hb dX9_swaps_10 (by decide) ?_
  refine lv_goto (tgt := 22) hx hb dX9_swaps_12 (by decide) ?_
  refine g_iret C hr hH (Nat.le_of_ble_eq_true rfl) (Nat.le_of_ble_eq_true rfl) dX9_swaps_22 ?_
  exact ⟨rfl, rfl, rfl⟩
set_option maxHeartbeats 4000000 in
set_option maxRecDepth 100000 in
theorem k_swap (l : Launch) (E : gE) (L : List Nat) (f : gF) {x xt xn xr xi xw xs xl xc xh xf xm : Nat} (mx : x ∈ L) (fx : f x = .inr (9, [.ref xt, .ref xn, .ref xr, .ref xi, .ref xw, .ref xs, .ref xl, .ref xc, .ref xh, .ref xf, .ref xm])) {na : Nat → Nat} (mn : xn ∈ L) (fn : f xn = .inr (3, [.int (0 : Int32), .int (0 : Int32), .int (0 : Int32), .int (0 : Int32), .int (0 : Int32), .int (0 : Int32), .int (0 : Int32), .int (0 : Int32), .int (0 : Int32), .int (0 : Int32), .ref (na 0), .ref (na 1), .ref (na 2), .ref (na 3), .ref (na 4), .ref (na 5), .ref (na 6), .ref (na 7), .ref (na 8), .ref (na 9)])) : gMi l E yX9_swap cX9_swap 1 .int (gRm 5 0 0) [.ref x] L f (gRO (-2 : Int32) L f) := by
  refine gMi.intro (by decide) (Nat.le_of_ble_eq_true rfl) ?_
  intro p e s m below meth c A ls C hr hA hH hl
  have C : gC E cX9_swap 1 RX9 p s m _ meth c := C
  have hl : lv_has ls 1 [(0, .ref x)] := hl
  have hx := C.1
  have hb := C.2.1
  refine lv_aload_n hx hb dX9_swap_0 rfl (lv_at hl 0 rfl) ?_
  refine g_get C hH mx fx iX9 rfl 1 (by decide) wd18 rfl rfl dX9_swap_1 ?_
  refine g_Vi C hl.1 hA hH (As := []) (rest := []) (k_isNone l E L f mn fn) my_X3_isNone wd19 mn fn rfl rfl rfl (Nat.le_of_ble_eq_true rfl) ⟨Nat.le_of_ble_eq_true rfl, Nat.le_of_ble_eq_true rfl⟩ ⟨Nat.le_of_ble_eq_true rfl, Nat.le_of_ble_eq_true rfl⟩ dX9_swap_4 (fun r3 L2 f1 H locs hp hH => ?_)
  obtain ⟨er3, rfl, rfl⟩ := hp
  subst er3
  refine lv_if_eq (tgt := 15) hx hb dX9_swap_7 (by decide) (fun h => absurd h (by decide)) (fun _ => ?_)
  refine lv_bipush (v := (-2 : Int32)) hx hb dX9_swap_10 (by decide) ?_
  refine lv_goto (tgt := 22) hx hb dX9_swap_12 (by decide) ?_
  refine g_iret C hr hH (Nat.le_of_ble_eq_true rfl) (Nat.le_of_ble_eq_true rfl) dX9_swap_22 ?_
  exact ⟨rfl, rfl, rfl⟩
set_option maxHeartbeats 4000000 in
set_option maxRecDepth 100000 in
theorem k_price (l : Launch) (E : gE) (L : List Nat) (f : gF) {x xt xn xr xi xw xs xl xc xh xf xm : Nat} (mx : x ∈ L) (fx : f x = .inr (9, [.ref xt, .ref xn, .ref xr, .ref xi, .ref xw, .ref xs, .ref xl, .ref xc, .ref xh, .ref xf, .ref xm])) {na : Nat → Nat} (mn : xn ∈ L) (fn : f xn = .inr (3, [.int (0 : Int32), .int (0 : Int32), .int (0 : Int32), .int (0 : Int32), .int (0 : Int32), .int (0 : Int32), .int (0 : Int32), .int (0 : Int32), .int (0 : Int32), .int (0 : Int32), .ref (na 0), .ref (na 1), .ref (na 2), .ref (na 3), .ref (na 4), .ref (na 5), .ref (na 6), .ref (na 7), .ref (na 8), .ref (na 9)])) (p0 : Int32) : gMi l E yX9_price cX9_price 3 .int (gRm 5 0 0) [.ref x, .int p0] L f (gRO (-2 : Int32) L f) := by
  refine gMi.intro (by decide) (Nat.le_of_ble_eq_true rfl) ?_
  intro p e s m below meth c A ls C hr hA hH hl
  have C : gC E cX9_price 3 RX9 p s m _ meth c := C
  have hl : lv_has ls 3 [(0, .ref x), (1, .int p0)] := hl
  have hx := C.1
  have hb := C.2.1
  refine lv_aload_n hx hb dX9_price_0 rfl (lv_at hl 0 rfl) ?_
  refine g_get C hH mx fx iX9 rfl 1 (by decide) wd18 rfl rfl dX9_price_1 ?_
  refine g_Vi C hl.1 hA hH (As := []) (rest := []) (k_isNone l E L f mn fn) my_X3_isNone wd19 mn fn rfl rfl rfl (Nat.le_of_ble_eq_true rfl) ⟨Nat.le_of_ble_eq_true rfl, Nat.le_of_ble_eq_true rfl⟩ ⟨Nat.le_of_ble_eq_true rfl, Nat.le_of_ble_eq_true rfl⟩ dX9_price_4 (fun r3 L2 f1 H locs hp hH => ?_)
  obtain ⟨er3, rfl, rfl⟩ := hp
  subst er3
  refine lv_if_ne (tgt := 21) hx hb dX9_price_7 (by decide) (fun _ => ?_) (fun h => absurd h (by decide))
  refine lv_bipush (v := (-2 : Int32)) hx hb dX9_price_21 (by decide) ?_
  refine g_iret C hr hH (Nat.le_of_ble_eq_true rfl) (Nat.le_of_ble_eq_true rfl) dX9_price_23 ?_
  exact ⟨rfl, rfl, rfl⟩
set_option maxHeartbeats 4000000 in
set_option maxRecDepth 100000 in
theorem k_cut (l : Launch) (E : gE) (L : List Nat) (f : gF) {x xt xn xr xi xw xs xl xc xh xf xm : Nat} (mx : x ∈ L) (fx : f x = .inr (9, [.ref xt, .ref xn, .ref xr, .ref xi, .ref xw, .ref xs, .ref xl, .ref xc, .ref xh, .ref xf, .ref xm])) {na : Nat → Nat} (mn : xn ∈ L) (fn : f xn = .inr (3, [.int (0 : Int32), .int (0 : Int32), .int (0 : Int32), .int (0 : Int32), .int (0 : Int32), .int (0 : Int32), .int (0 : Int32), .int (0 : Int32), .int (0 : Int32), .int (0 : Int32), .ref (na 0), .ref (na 1), .ref (na 2), .ref (na 3), .ref (na 4), .ref (na 5), .ref (na 6), .ref (na 7), .ref (na 8), .ref (na 9)])) (p0 p1 : Int32) : gMi l E yX9_cut cX9_cut 3 .int (gRm 5 0 0) [.ref x, .int p0, .int p1] L f (gRO (-2 : Int32) L f) := by
  refine gMi.intro (by decide) (Nat.le_of_ble_eq_true rfl) ?_
  intro p e s m below meth c A ls C hr hA hH hl
  have C : gC E cX9_cut 3 RX9 p s m _ meth c := C
  have hl : lv_has ls 3 [(0, .ref x), (1, .int p0), (2, .int p1)] := hl
  have hx := C.1
  have hb := C.2.1
  refine lv_aload_n hx hb dX9_cut_0 rfl (lv_at hl 0 rfl) ?_
  refine g_get C hH mx fx iX9 rfl 1 (by decide) wd18 rfl rfl dX9_cut_1 ?_
  refine lv_iload_n hx hb dX9_cut_4 rfl (lv_at hl 1 rfl) ?_
  refine g_Vi C hl.1 hA hH (As := [.int p0]) (rest := []) (k_hasMember l E L f mn fn p0) my_X3_hasMember wd27 mn fn rfl rfl rfl (Nat.le_of_ble_eq_true rfl) ⟨Nat.le_of_ble_eq_true rfl, Nat.le_of_ble_eq_true rfl⟩ ⟨Nat.le_of_ble_eq_true rfl, Nat.le_of_ble_eq_true rfl⟩ dX9_cut_5 (fun r3 L2 f1 H locs hp hH => ?_)
  obtain ⟨er3, rfl, rfl⟩ := hp
  subst er3
  refine lv_if_eq (tgt := 18) hx hb dX9_cut_8 (by decide) (fun _ => ?_) (fun h => absurd (by decide) h)
  refine lv_bipush (v := (-2 : Int32)) hx hb dX9_cut_18 (by decide) ?_
  refine g_iret C hr hH (Nat.le_of_ble_eq_true rfl) (Nat.le_of_ble_eq_true rfl) dX9_cut_20 ?_
  exact ⟨rfl, rfl, rfl⟩
set_option maxHeartbeats 4000000 in
set_option maxRecDepth 100000 in
theorem k_rests (l : Launch) (E : gE) (L : List Nat) (f : gF) {x xt xn xr xi xw xs xl xc xh xf xm : Nat} (mx : x ∈ L) (fx : f x = .inr (9, [.ref xt, .ref xn, .ref xr, .ref xi, .ref xw, .ref xs, .ref xl, .ref xc, .ref xh, .ref xf, .ref xm])) {na : Nat → Nat} (mn : xn ∈ L) (fn : f xn = .inr (3, [.int (0 : Int32), .int (0 : Int32), .int (0 : Int32), .int (0 : Int32), .int (0 : Int32), .int (0 : Int32), .int (0 : Int32), .int (0 : Int32), .int (0 : Int32), .int (0 : Int32), .ref (na 0), .ref (na 1), .ref (na 2), .ref (na 3), .ref (na 4), .ref (na 5), .ref (na 6), .ref (na 7), .ref (na 8), .ref (na 9)])) (p0 p1 : Int32) : gMi l E yX9_rests cX9_rests 6 .int (gRm 5 0 0) [.ref x, .int p0, .int p1] L f (gRO (-2 : Int32) L f) := by
  refine gMi.intro (by decide) (Nat.le_of_ble_eq_true rfl) ?_
  intro p e s m below meth c A ls C hr hA hH hl
  have C : gC E cX9_rests 6 RX9 p s m _ meth c := C
  have hl : lv_has ls 6 [(0, .ref x), (1, .int p0), (2, .int p1)] := hl
  have hx := C.1
  have hb := C.2.1
  refine lv_aload_n hx hb dX9_rests_0 rfl (lv_at hl 0 rfl) ?_
  refine lv_iload_n hx hb dX9_rests_1 rfl (lv_at hl 1 rfl) ?_
  refine lv_iload_n hx hb dX9_rests_2 rfl (lv_at hl 2 rfl) ?_
  refine g_Vi C hl.1 hA hH (As := [.int p0, .int p1]) (rest := []) (k_areTwo l E L f mx fx mn fn p0 p1) my_X9_areTwo wd51 mx fx rfl rfl rfl (Nat.le_of_ble_eq_true rfl) ⟨Nat.le_of_ble_eq_true rfl, Nat.le_of_ble_eq_true rfl⟩ ⟨Nat.le_of_ble_eq_true rfl, Nat.le_of_ble_eq_true rfl⟩ dX9_rests_3 (fun r3 L2 f1 H locs hp hH => ?_)
  obtain ⟨er3, rfl, rfl⟩ := hp
  subst er3
  refine lv_if_ne (tgt := 12) hx hb dX9_rests_6 (by decide) (fun h => absurd (by decide) h) (fun _ => ?_)
  refine lv_bipush (v := (-2 : Int32)) hx hb dX9_rests_9 (by decide) ?_
  refine g_iret C hr hH (Nat.le_of_ble_eq_true rfl) (Nat.le_of_ble_eq_true rfl) dX9_rests_11 ?_
  exact ⟨rfl, rfl, rfl⟩
set_option maxHeartbeats 4000000 in
set_option maxRecDepth 100000 in
theorem k_chance (l : Launch) (E : gE) (L : List Nat) (f : gF) {x xt xn xr xi xw xs xl xc xh xf xm : Nat} (mx : x ∈ L) (fx : f x = .inr (9, [.ref xt, .ref xn, .ref xr, .ref xi, .ref xw, .ref xs, .ref xl, .ref xc, .ref xh, .ref xf, .ref xm])) {na : Nat → Nat} (mn : xn ∈ L) (fn : f xn = .inr (3, [.int (0 : Int32), .int (0 : Int32), .int (0 : Int32), .int (0 : Int32), .int (0 : Int32), .int (0 : Int32), .int (0 : Int32), .int (0 : Int32), .int (0 : Int32), .int (0 : Int32), .ref (na 0), .ref (na 1), .ref (na 2), .ref (na 3), .ref (na 4), .ref (na 5), .ref (na 6), .ref (na 7), .ref (na 8), .ref (na 9)])) (p0 p1 : Int32) : gMi l E yX9_chance cX9_chance 3 .int (gRm 5 0 0) [.ref x, .int p0, .int p1] L f (gRO (-2 : Int32) L f) := by
  refine gMi.intro (by decide) (Nat.le_of_ble_eq_true rfl) ?_
  intro p e s m below meth c A ls C hr hA hH hl
  have C : gC E cX9_chance 3 RX9 p s m _ meth c := C
  have hl : lv_has ls 3 [(0, .ref x), (1, .int p0), (2, .int p1)] := hl
  have hx := C.1
  have hb := C.2.1
  refine lv_aload_n hx hb dX9_chance_0 rfl (lv_at hl 0 rfl) ?_
  refine g_get C hH mx fx iX9 rfl 1 (by decide) wd18 rfl rfl dX9_chance_1 ?_
  refine lv_iload_n hx hb dX9_chance_4 rfl (lv_at hl 1 rfl) ?_
  refine g_Vi C hl.1 hA hH (As := [.int p0]) (rest := []) (k_hasMember l E L f mn fn p0) my_X3_hasMember wd27 mn fn rfl rfl rfl (Nat.le_of_ble_eq_true rfl) ⟨Nat.le_of_ble_eq_true rfl, Nat.le_of_ble_eq_true rfl⟩ ⟨Nat.le_of_ble_eq_true rfl, Nat.le_of_ble_eq_true rfl⟩ dX9_chance_5 (fun r3 L2 f1 H locs hp hH => ?_)
  obtain ⟨er3, rfl, rfl⟩ := hp
  subst er3
  refine lv_if_eq (tgt := 18) hx hb dX9_chance_8 (by decide) (fun _ => ?_) (fun h => absurd (by decide) h)
  refine lv_bipush (v := (-2 : Int32)) hx hb dX9_chance_18 (by decide) ?_
  refine g_iret C hr hH (Nat.le_of_ble_eq_true rfl) (Nat.le_of_ble_eq_true rfl) dX9_chance_20 ?_
  exact ⟨rfl, rfl, rfl⟩
set_option maxHeartbeats 4000000 in
set_option maxRecDepth 100000 in
theorem k_mean (l : Launch) (E : gE) (L : List Nat) (f : gF) {x xt xn xr xi xw xs xl xc xh xf xm : Nat} (mx : x ∈ L) (fx : f x = .inr (9, [.ref xt, .ref xn, .ref xr, .ref xi, .ref xw, .ref xs, .ref xl, .ref xc, .ref xh, .ref xf, .ref xm])) {na : Nat → Nat} (mn : xn ∈ L) (fn : f xn = .inr (3, [.int (0 : Int32), .int (0 : Int32), .int (0 : Int32), .int (0 : Int32), .int (0 : Int32), .int (0 : Int32), .int (0 : Int32), .int (0 : Int32), .int (0 : Int32), .int (0 : Int32), .ref (na 0), .ref (na 1), .ref (na 2), .ref (na 3), .ref (na 4), .ref (na 5), .ref (na 6), .ref (na 7), .ref (na 8), .ref (na 9)])) (p0 : Int32) : gMi l E yX9_mean cX9_mean 2 .int (gRm 5 0 0) [.ref x, .int p0] L f (gRO (-2 : Int32) L f) := by
  refine gMi.intro (by decide) (Nat.le_of_ble_eq_true rfl) ?_
  intro p e s m below meth c A ls C hr hA hH hl
  have C : gC E cX9_mean 2 RX9 p s m _ meth c := C
  have hl : lv_has ls 2 [(0, .ref x), (1, .int p0)] := hl
  have hx := C.1
  have hb := C.2.1
  refine lv_aload_n hx hb dX9_mean_0 rfl (lv_at hl 0 rfl) ?_
  refine g_get C hH mx fx iX9 rfl 1 (by decide) wd18 rfl rfl dX9_mean_1 ?_
  refine g_Vi C hl.1 hA hH (As := []) (rest := []) (k_isNone l E L f mn fn) my_X3_isNone wd19 mn fn rfl rfl rfl (Nat.le_of_ble_eq_true rfl) ⟨Nat.le_of_ble_eq_true rfl, Nat.le_of_ble_eq_true rfl⟩ ⟨Nat.le_of_ble_eq_true rfl, Nat.le_of_ble_eq_true rfl⟩ dX9_mean_4 (fun r3 L2 f1 H locs hp hH => ?_)
  obtain ⟨er3, rfl, rfl⟩ := hp
  subst er3
  refine lv_if_ne (tgt := 17) hx hb dX9_mean_7 (by decide) (fun _ => ?_) (fun h => absurd h (by decide))
  refine lv_bipush (v := (-2 : Int32)) hx hb dX9_mean_17 (by decide) ?_
  refine g_iret C hr hH (Nat.le_of_ble_eq_true rfl) (Nat.le_of_ble_eq_true rfl) dX9_mean_19 ?_
  exact ⟨rfl, rfl, rfl⟩
set_option maxHeartbeats 4000000 in
set_option maxRecDepth 100000 in
theorem k_flown (l : Launch) (E : gE) (L : List Nat) (f : gF) {x xt xn xr xi xw xs xl xc xh xf xm : Nat} (mx : x ∈ L) (fx : f x = .inr (9, [.ref xt, .ref xn, .ref xr, .ref xi, .ref xw, .ref xs, .ref xl, .ref xc, .ref xh, .ref xf, .ref xm])) {na : Nat → Nat} (mn : xn ∈ L) (fn : f xn = .inr (3, [.int (0 : Int32), .int (0 : Int32), .int (0 : Int32), .int (0 : Int32), .int (0 : Int32), .int (0 : Int32), .int (0 : Int32), .int (0 : Int32), .int (0 : Int32), .int (0 : Int32), .ref (na 0), .ref (na 1), .ref (na 2), .ref (na 3), .ref (na 4), .ref (na 5), .ref (na 6), .ref (na 7), .ref (na 8), .ref (na 9)])) (p0 p1 : Int32) : gMi l E yX9_flown cX9_flown 3 .int (gRm 5 0 0) [.ref x, .int p0, .int p1] L f (gRO (-2 : Int32) L f) := by
  refine gMi.intro (by decide) (Nat.le_of_ble_eq_true rfl) ?_
  intro p e s m below meth c A ls C hr hA hH hl
  have C : gC E cX9_flown 3 RX9 p s m _ meth c := C
  have hl : lv_has ls 3 [(0, .ref x), (1, .int p0), (2, .int p1)] := hl
  have hx := C.1
  have hb := C.2.1
  refine lv_aload_n hx hb dX9_flown_0 rfl (lv_at hl 0 rfl) ?_
  refine g_get C hH mx fx iX9 rfl 1 (by decide) wd18 rfl rfl dX9_flown_1 ?_
  refine g_Vi C hl.1 hA hH (As := []) (rest := []) (k_isNone l E L f mn fn) my_X3_isNone wd19 mn fn rfl rfl rfl (Nat.le_of_ble_eq_true rfl) ⟨Nat.le_of_ble_eq_true rfl, Nat.le_of_ble_eq_true rfl⟩ ⟨Nat.le_of_ble_eq_true rfl, Nat.le_of_ble_eq_true rfl⟩ dX9_flown_4 (fun r3 L2 f1 H locs hp hH => ?_)
  obtain ⟨er3, rfl, rfl⟩ := hp
  subst er3
  refine lv_if_ne (tgt := 26) hx hb dX9_flown_7 (by decide) (fun _ => ?_) (fun h => absurd h (by decide))
  refine lv_bipush (v := (-2 : Int32)) hx hb dX9_flown_26 (by decide) ?_
  refine g_iret C hr hH (Nat.le_of_ble_eq_true rfl) (Nat.le_of_ble_eq_true rfl) dX9_flown_28 ?_
  exact ⟨rfl, rfl, rfl⟩
set_option maxHeartbeats 4000000 in
set_option maxRecDepth 100000 in
theorem k_light (l : Launch) (E : gE) (L : List Nat) (f : gF) {x xt xn xr xi xw xs xl xc xh xf xm : Nat} (mx : x ∈ L) (fx : f x = .inr (9, [.ref xt, .ref xn, .ref xr, .ref xi, .ref xw, .ref xs, .ref xl, .ref xc, .ref xh, .ref xf, .ref xm])) {na : Nat → Nat} (mn : xn ∈ L) (fn : f xn = .inr (3, [.int (0 : Int32), .int (0 : Int32), .int (0 : Int32), .int (0 : Int32), .int (0 : Int32), .int (0 : Int32), .int (0 : Int32), .int (0 : Int32), .int (0 : Int32), .int (0 : Int32), .ref (na 0), .ref (na 1), .ref (na 2), .ref (na 3), .ref (na 4), .ref (na 5), .ref (na 6), .ref (na 7), .ref (na 8), .ref (na 9)])) (p0 p1 : Int32) : gMi l E yX9_light cX9_light 3 .int (gRm 5 0 0) [.ref x, .int p0, .int p1] L f (gRO (-2 : Int32) L f) := by
  refine gMi.intro (by decide) (Nat.le_of_ble_eq_true rfl) ?_
  intro p e s m below meth c A ls C hr hA hH hl
  have C : gC E cX9_light 3 RX9 p s m _ meth c := C
  have hl : lv_has ls 3 [(0, .ref x), (1, .int p0), (2, .int p1)] := hl
  have hx := C.1
  have hb := C.2.1
  refine lv_aload_n hx hb dX9_light_0 rfl (lv_at hl 0 rfl) ?_
  refine g_get C hH mx fx iX9 rfl 1 (by decide) wd18 rfl rfl dX9_light_1 ?_
  refine lv_iload_n hx hb dX9_light_4 rfl (lv_at hl 1 rfl) ?_
  refine g_Vi C hl.1 hA hH (As := [.int p0]) (rest := []) (k_hasCell l E L f mn fn p0) my_X3_hasCell wd35 mn fn rfl rfl rfl (Nat.le_of_ble_eq_true rfl) ⟨Nat.le_of_ble_eq_true rfl, Nat.le_of_ble_eq_true rfl⟩ ⟨Nat.le_of_ble_eq_true rfl, Nat.le_of_ble_eq_true rfl⟩ dX9_light_5 (fun r3 L2 f1 H locs hp hH => ?_)
  obtain ⟨er3, rfl, rfl⟩ := hp
  subst er3
  refine lv_if_eq (tgt := 18) hx hb dX9_light_8 (by decide) (fun _ => ?_) (fun h => absurd (by decide) h)
  refine lv_bipush (v := (-2 : Int32)) hx hb dX9_light_18 (by decide) ?_
  refine g_iret C hr hH (Nat.le_of_ble_eq_true rfl) (Nat.le_of_ble_eq_true rfl) dX9_light_20 ?_
  exact ⟨rfl, rfl, rfl⟩
set_option maxHeartbeats 4000000 in
set_option maxRecDepth 100000 in
theorem k_turn (l : Launch) (E : gE) (L : List Nat) (f : gF) {x xt xn xr xi xw xs xl xc xh xf xm : Nat} (mx : x ∈ L) (fx : f x = .inr (9, [.ref xt, .ref xn, .ref xr, .ref xi, .ref xw, .ref xs, .ref xl, .ref xc, .ref xh, .ref xf, .ref xm])) {na : Nat → Nat} (mn : xn ∈ L) (fn : f xn = .inr (3, [.int (0 : Int32), .int (0 : Int32), .int (0 : Int32), .int (0 : Int32), .int (0 : Int32), .int (0 : Int32), .int (0 : Int32), .int (0 : Int32), .int (0 : Int32), .int (0 : Int32), .ref (na 0), .ref (na 1), .ref (na 2), .ref (na 3), .ref (na 4), .ref (na 5), .ref (na 6), .ref (na 7), .ref (na 8), .ref (na 9)])) (p0 p1 : Int32) : gMi l E yX9_turn cX9_turn 3 .int (gRm 5 0 0) [.ref x, .int p0, .int p1] L f (gRO (-2 : Int32) L f) := by
  refine gMi.intro (by decide) (Nat.le_of_ble_eq_true rfl) ?_
  intro p e s m below meth c A ls C hr hA hH hl
  have C : gC E cX9_turn 3 RX9 p s m _ meth c := C
  have hl : lv_has ls 3 [(0, .ref x), (1, .int p0), (2, .int p1)] := hl
  have hx := C.1
  have hb := C.2.1
  refine lv_aload_n hx hb dX9_turn_0 rfl (lv_at hl 0 rfl) ?_
  refine g_get C hH mx fx iX9 rfl 1 (by decide) wd18 rfl rfl dX9_turn_1 ?_
  refine lv_iload_n hx hb dX9_turn_4 rfl (lv_at hl 1 rfl) ?_
  refine g_Vi C hl.1 hA hH (As := [.int p0]) (rest := []) (k_hasFlight l E L f mn fn p0) my_X3_hasFlight wd31 mn fn rfl rfl rfl (Nat.le_of_ble_eq_true rfl) ⟨Nat.le_of_ble_eq_true rfl, Nat.le_of_ble_eq_true rfl⟩ ⟨Nat.le_of_ble_eq_true rfl, Nat.le_of_ble_eq_true rfl⟩ dX9_turn_5 (fun r3 L2 f1 H locs hp hH => ?_)
  obtain ⟨er3, rfl, rfl⟩ := hp
  subst er3
  refine lv_if_eq (tgt := 20) hx hb dX9_turn_8 (by decide) (fun _ => ?_) (fun h => absurd (by decide) h)
  refine lv_bipush (v := (-2 : Int32)) hx hb dX9_turn_20 (by decide) ?_
  refine g_iret C hr hH (Nat.le_of_ble_eq_true rfl) (Nat.le_of_ble_eq_true rfl) dX9_turn_22 ?_
  exact ⟨rfl, rfl, rfl⟩
set_option maxHeartbeats 4000000 in
set_option maxRecDepth 100000 in
theorem k_undo (l : Launch) (E : gE) (L : List Nat) (f : gF) {x xt xn xr xi xw xs xl xc xh xf xm : Nat} (mx : x ∈ L) (fx : f x = .inr (9, [.ref xt, .ref xn, .ref xr, .ref xi, .ref xw, .ref xs, .ref xl, .ref xc, .ref xh, .ref xf, .ref xm])) {na : Nat → Nat} (mn : xn ∈ L) (fn : f xn = .inr (3, [.int (0 : Int32), .int (0 : Int32), .int (0 : Int32), .int (0 : Int32), .int (0 : Int32), .int (0 : Int32), .int (0 : Int32), .int (0 : Int32), .int (0 : Int32), .int (0 : Int32), .ref (na 0), .ref (na 1), .ref (na 2), .ref (na 3), .ref (na 4), .ref (na 5), .ref (na 6), .ref (na 7), .ref (na 8), .ref (na 9)])) : gMi l E yX9_undo cX9_undo 1 .int (gRm 5 0 0) [.ref x] L f (gRO (-2 : Int32) L f) := by
  refine gMi.intro (by decide) (Nat.le_of_ble_eq_true rfl) ?_
  intro p e s m below meth c A ls C hr hA hH hl
  have C : gC E cX9_undo 1 RX9 p s m _ meth c := C
  have hl : lv_has ls 1 [(0, .ref x)] := hl
  have hx := C.1
  have hb := C.2.1
  refine lv_aload_n hx hb dX9_undo_0 rfl (lv_at hl 0 rfl) ?_
  refine g_get C hH mx fx iX9 rfl 1 (by decide) wd18 rfl rfl dX9_undo_1 ?_
  refine g_Vi C hl.1 hA hH (As := []) (rest := []) (k_isNone l E L f mn fn) my_X3_isNone wd19 mn fn rfl rfl rfl (Nat.le_of_ble_eq_true rfl) ⟨Nat.le_of_ble_eq_true rfl, Nat.le_of_ble_eq_true rfl⟩ ⟨Nat.le_of_ble_eq_true rfl, Nat.le_of_ble_eq_true rfl⟩ dX9_undo_4 (fun r3 L2 f1 H locs hp hH => ?_)
  obtain ⟨er3, rfl, rfl⟩ := hp
  subst er3
  refine lv_if_eq (tgt := 13) hx hb dX9_undo_7 (by decide) (fun h => absurd h (by decide)) (fun _ => ?_)
  refine lv_bipush (v := (-2 : Int32)) hx hb dX9_undo_10 (by decide) ?_
  refine g_iret C hr hH (Nat.le_of_ble_eq_true rfl) (Nat.le_of_ble_eq_true rfl) dX9_undo_12 ?_
  exact ⟨rfl, rfl, rfl⟩
set_option maxHeartbeats 4000000 in
set_option maxRecDepth 100000 in
theorem k_anew (l : Launch) (E : gE) (L : List Nat) (f : gF) {x xt xn xr xi xw xs xl xc xh xf xm : Nat} (mx : x ∈ L) (fx : f x = .inr (9, [.ref xt, .ref xn, .ref xr, .ref xi, .ref xw, .ref xs, .ref xl, .ref xc, .ref xh, .ref xf, .ref xm])) {na : Nat → Nat} (mn : xn ∈ L) (fn : f xn = .inr (3, [.int (0 : Int32), .int (0 : Int32), .int (0 : Int32), .int (0 : Int32), .int (0 : Int32), .int (0 : Int32), .int (0 : Int32), .int (0 : Int32), .int (0 : Int32), .int (0 : Int32), .ref (na 0), .ref (na 1), .ref (na 2), .ref (na 3), .ref (na 4), .ref (na 5), .ref (na 6), .ref (na 7), .ref (na 8), .ref (na 9)])) : gMi l E yX9_anew cX9_anew 3 .int (gRm 5 0 0) [.ref x] L f (gRO (-2 : Int32) L f) := by
  refine gMi.intro (by decide) (Nat.le_of_ble_eq_true rfl) ?_
  intro p e s m below meth c A ls C hr hA hH hl
  have C : gC E cX9_anew 3 RX9 p s m _ meth c := C
  have hl : lv_has ls 3 [(0, .ref x)] := hl
  have hx := C.1
  have hb := C.2.1
  refine lv_aload_n hx hb dX9_anew_0 rfl (lv_at hl 0 rfl) ?_
  refine g_get C hH mx fx iX9 rfl 1 (by decide) wd18 rfl rfl dX9_anew_1 ?_
  refine g_Vi C hl.1 hA hH (As := []) (rest := []) (k_isNone l E L f mn fn) my_X3_isNone wd19 mn fn rfl rfl rfl (Nat.le_of_ble_eq_true rfl) ⟨Nat.le_of_ble_eq_true rfl, Nat.le_of_ble_eq_true rfl⟩ ⟨Nat.le_of_ble_eq_true rfl, Nat.le_of_ble_eq_true rfl⟩ dX9_anew_4 (fun r3 L2 f1 H locs hp hH => ?_)
  obtain ⟨er3, rfl, rfl⟩ := hp
  subst er3
  refine lv_if_eq (tgt := 13) hx hb dX9_anew_7 (by decide) (fun h => absurd h (by decide)) (fun _ => ?_)
  refine lv_bipush (v := (-2 : Int32)) hx hb dX9_anew_10 (by decide) ?_
  refine g_iret C hr hH (Nat.le_of_ble_eq_true rfl) (Nat.le_of_ble_eq_true rfl) dX9_anew_12 ?_
  exact ⟨rfl, rfl, rfl⟩
set_option maxHeartbeats 4000000 in
set_option maxRecDepth 100000 in
theorem k_drawn (l : Launch) (E : gE) (L : List Nat) (f : gF) {x xt xn xr xi xw xs xl xc xh xf xm : Nat} (mx : x ∈ L) (fx : f x = .inr (9, [.ref xt, .ref xn, .ref xr, .ref xi, .ref xw, .ref xs, .ref xl, .ref xc, .ref xh, .ref xf, .ref xm])) {na : Nat → Nat} (mn : xn ∈ L) (fn : f xn = .inr (3, [.int (0 : Int32), .int (0 : Int32), .int (0 : Int32), .int (0 : Int32), .int (0 : Int32), .int (0 : Int32), .int (0 : Int32), .int (0 : Int32), .int (0 : Int32), .int (0 : Int32), .ref (na 0), .ref (na 1), .ref (na 2), .ref (na 3), .ref (na 4), .ref (na 5), .ref (na 6), .ref (na 7), .ref (na 8), .ref (na 9)])) (p0 p1 : Int32) : gMi l E yX9_drawn cX9_drawn 4 .int (gRm 5 0 0) [.ref x, .int p0, .int p1] L f (gRO (-2 : Int32) L f) := by
  refine gMi.intro (by decide) (Nat.le_of_ble_eq_true rfl) ?_
  intro p e s m below meth c A ls C hr hA hH hl
  have C : gC E cX9_drawn 4 RX9 p s m _ meth c := C
  have hl : lv_has ls 4 [(0, .ref x), (1, .int p0), (2, .int p1)] := hl
  have hx := C.1
  have hb := C.2.1
  refine lv_aload_n hx hb dX9_drawn_0 rfl (lv_at hl 0 rfl) ?_
  refine g_get C hH mx fx iX9 rfl 1 (by decide) wd18 rfl rfl dX9_drawn_1 ?_
  refine g_Vi C hl.1 hA hH (As := []) (rest := []) (k_isNone l E L f mn fn) my_X3_isNone wd19 mn fn rfl rfl rfl (Nat.le_of_ble_eq_true rfl) ⟨Nat.le_of_ble_eq_true rfl, Nat.le_of_ble_eq_true rfl⟩ ⟨Nat.le_of_ble_eq_true rfl, Nat.le_of_ble_eq_true rfl⟩ dX9_drawn_4 (fun r3 L2 f1 H locs hp hH => ?_)
  obtain ⟨er3, rfl, rfl⟩ := hp
  subst er3
  refine lv_if_ne (tgt := 26) hx hb dX9_drawn_7 (by decide) (fun _ => ?_) (fun h => absurd h (by decide))
  refine lv_bipush (v := (-2 : Int32)) hx hb dX9_drawn_26 (by decide) ?_
  refine g_iret C hr hH (Nat.le_of_ble_eq_true rfl) (Nat.le_of_ble_eq_true rfl) dX9_drawn_28 ?_
  exact ⟨rfl, rfl, rfl⟩
set_option maxHeartbeats 4000000 in
set_option maxRecDepth 100000 in
theorem k_luck (l : Launch) (E : gE) (L : List Nat) (f : gF) {x xt xn xr xi xw xs xl xc xh xf xm : Nat} (mx : x ∈ L) (fx : f x = .inr (9, [.ref xt, .ref xn, .ref xr, .ref xi, .ref xw, .ref xs, .ref xl, .ref xc, .ref xh, .ref xf, .ref xm])) {na : Nat → Nat} (mn : xn ∈ L) (fn : f xn = .inr (3, [.int (0 : Int32), .int (0 : Int32), .int (0 : Int32), .int (0 : Int32), .int (0 : Int32), .int (0 : Int32), .int (0 : Int32), .int (0 : Int32), .int (0 : Int32), .int (0 : Int32), .ref (na 0), .ref (na 1), .ref (na 2), .ref (na 3), .ref (na 4), .ref (na 5), .ref (na 6), .ref (na 7), .ref (na 8), .ref (na 9)])) (p0 p1 p2 : Int32) : gMi l E yX9_luck cX9_luck 6 .int (gRm 5 0 0) [.ref x, .int p0, .int p1, .int p2] L f (gRO (-2 : Int32) L f) := by
  refine gMi.intro (by decide) (Nat.le_of_ble_eq_true rfl) ?_
  intro p e s m below meth c A ls C hr hA hH hl
  have C : gC E cX9_luck 6 RX9 p s m _ meth c := C
  have hl : lv_has ls 6 [(0, .ref x), (1, .int p0), (2, .int p1), (3, .int p2)] := hl
  have hx := C.1
  have hb := C.2.1
  refine lv_aload_n hx hb dX9_luck_0 rfl (lv_at hl 0 rfl) ?_
  refine g_get C hH mx fx iX9 rfl 1 (by decide) wd18 rfl rfl dX9_luck_1 ?_
  refine lv_iload_n hx hb dX9_luck_4 rfl (lv_at hl 3 rfl) ?_
  refine g_Vi C hl.1 hA hH (As := [.int p2]) (rest := []) (k_hasMember l E L f mn fn p2) my_X3_hasMember wd27 mn fn rfl rfl rfl (Nat.le_of_ble_eq_true rfl) ⟨Nat.le_of_ble_eq_true rfl, Nat.le_of_ble_eq_true rfl⟩ ⟨Nat.le_of_ble_eq_true rfl, Nat.le_of_ble_eq_true rfl⟩ dX9_luck_5 (fun r3 L2 f1 H locs hp hH => ?_)
  obtain ⟨er3, rfl, rfl⟩ := hp
  subst er3
  refine lv_if_eq (tgt := 29) hx hb dX9_luck_8 (by decide) (fun _ => ?_) (fun h => absurd (by decide) h)
  refine lv_bipush (v := (-2 : Int32)) hx hb dX9_luck_29 (by decide) ?_
  refine g_iret C hr hH (Nat.le_of_ble_eq_true rfl) (Nat.le_of_ble_eq_true rfl) dX9_luck_31 ?_
  exact ⟨rfl, rfl, rfl⟩
set_option maxHeartbeats 4000000 in
set_option maxRecDepth 100000 in
theorem k_rate (l : Launch) (E : gE) (L : List Nat) (f : gF) {x xt xn xr xi xw xs xl xc xh xf xm : Nat} (mx : x ∈ L) (fx : f x = .inr (9, [.ref xt, .ref xn, .ref xr, .ref xi, .ref xw, .ref xs, .ref xl, .ref xc, .ref xh, .ref xf, .ref xm])) {na : Nat → Nat} (mn : xn ∈ L) (fn : f xn = .inr (3, [.int (0 : Int32), .int (0 : Int32), .int (0 : Int32), .int (0 : Int32), .int (0 : Int32), .int (0 : Int32), .int (0 : Int32), .int (0 : Int32), .int (0 : Int32), .int (0 : Int32), .ref (na 0), .ref (na 1), .ref (na 2), .ref (na 3), .ref (na 4), .ref (na 5), .ref (na 6), .ref (na 7), .ref (na 8), .ref (na 9)])) (p0 p1 : Int32) : gMi l E yX9_rate cX9_rate 4 .int (gRm 5 0 0) [.ref x, .int p0, .int p1] L f (gRO (-2 : Int32) L f) := by
  refine gMi.intro (by decide) (Nat.le_of_ble_eq_true rfl) ?_
  intro p e s m below meth c A ls C hr hA hH hl
  have C : gC E cX9_rate 4 RX9 p s m _ meth c := C
  have hl : lv_has ls 4 [(0, .ref x), (1, .int p0), (2, .int p1)] := hl
  have hx := C.1
  have hb := C.2.1
  refine lv_aload_n hx hb dX9_rate_0 rfl (lv_at hl 0 rfl) ?_
  refine g_get C hH mx fx iX9 rfl 1 (by decide) wd18 rfl rfl dX9_rate_1 ?_
  refine lv_iload_n hx hb dX9_rate_4 rfl (lv_at hl 1 rfl) ?_
  refine g_Vi C hl.1 hA hH (As := [.int p0]) (rest := []) (k_hasMember l E L f mn fn p0) my_X3_hasMember wd27 mn fn rfl rfl rfl (Nat.le_of_ble_eq_true rfl) ⟨Nat.le_of_ble_eq_true rfl, Nat.le_of_ble_eq_true rfl⟩ ⟨Nat.le_of_ble_eq_true rfl, Nat.le_of_ble_eq_true rfl⟩ dX9_rate_5 (fun r3 L2 f1 H locs hp hH => ?_)
  obtain ⟨er3, rfl, rfl⟩ := hp
  subst er3
  refine lv_if_eq (tgt := 21) hx hb dX9_rate_8 (by decide) (fun _ => ?_) (fun h => absurd (by decide) h)
  refine lv_bipush (v := (-2 : Int32)) hx hb dX9_rate_21 (by decide) ?_
  refine g_iret C hr hH (Nat.le_of_ble_eq_true rfl) (Nat.le_of_ble_eq_true rfl) dX9_rate_23 ?_
  exact ⟨rfl, rfl, rfl⟩
set_option maxHeartbeats 4000000 in
set_option maxRecDepth 100000 in
theorem k_has (l : Launch) (E : gE) (L : List Nat) (f : gF) {x xt xn xr xi xw xs xl xc xh xf xm : Nat} (mx : x ∈ L) (fx : f x = .inr (9, [.ref xt, .ref xn, .ref xr, .ref xi, .ref xw, .ref xs, .ref xl, .ref xc, .ref xh, .ref xf, .ref xm])) {na : Nat → Nat} (mn : xn ∈ L) (fn : f xn = .inr (3, [.int (0 : Int32), .int (0 : Int32), .int (0 : Int32), .int (0 : Int32), .int (0 : Int32), .int (0 : Int32), .int (0 : Int32), .int (0 : Int32), .int (0 : Int32), .int (0 : Int32), .ref (na 0), .ref (na 1), .ref (na 2), .ref (na 3), .ref (na 4), .ref (na 5), .ref (na 6), .ref (na 7), .ref (na 8), .ref (na 9)])) (p0 p1 p2 p3 : Int32) : gMi l E yX9_has cX9_has 5 .int (gRm 5 0 0) [.ref x, .int p0, .int p1, .int p2, .int p3] L f (gRO (-1000 : Int32) L f) := by
  refine gMi.intro (by decide) (Nat.le_of_ble_eq_true rfl) ?_
  intro p e s m below meth c A ls C hr hA hH hl
  have C : gC E cX9_has 5 RX9 p s m _ meth c := C
  have hl : lv_has ls 5 [(0, .ref x), (1, .int p0), (2, .int p1), (3, .int p2), (4, .int p3)] := hl
  have hx := C.1
  have hb := C.2.1
  refine lv_aload_n hx hb dX9_has_0 rfl (lv_at hl 0 rfl) ?_
  refine lv_iload_n hx hb dX9_has_1 rfl (lv_at hl 1 rfl) ?_
  refine lv_iload_n hx hb dX9_has_2 rfl (lv_at hl 2 rfl) ?_
  refine g_Vi C hl.1 hA hH (As := [.int p0, .int p1]) (rest := []) (k_areTwo l E L f mx fx mn fn p0 p1) my_X9_areTwo wd51 mx fx rfl rfl rfl (Nat.le_of_ble_eq_true rfl) ⟨Nat.le_of_ble_eq_true rfl, Nat.le_of_ble_eq_true rfl⟩ ⟨Nat.le_of_ble_eq_true rfl, Nat.le_of_ble_eq_true rfl⟩ dX9_has_3 (fun r3 L2 f1 H locs hp hH => ?_)
  obtain ⟨er3, rfl, rfl⟩ := hp
  subst er3
  refine lv_if_eq (tgt := 24) hx hb dX9_has_6 (by decide) (fun _ => ?_) (fun h => absurd (by decide) h)
  refine lv_sipush (v := (-1000 : Int32)) hx hb dX9_has_24 (by decide) ?_
  refine g_iret C hr hH (Nat.le_of_ble_eq_true rfl) (Nat.le_of_ble_eq_true rfl) dX9_has_27 ?_
  exact ⟨rfl, rfl, rfl⟩
end
section
theorem dX6_isNothing_0 : decode cX6_isNothing 0 = .ok (.aload_n 0, 1) := by decide +kernel
theorem dX6_isNothing_1 : decode cX6_isNothing 1 = .ok (.getfield 15, 3) := by decide +kernel
theorem dX6_isNothing_4 : decode cX6_isNothing 4 = .ok (.iconst (-1), 1) := by decide +kernel
theorem dX6_isNothing_5 : decode cX6_isNothing 5 = .ok (.if_icmp .ne 7, 3) := by decide +kernel
theorem dX6_isNothing_8 : decode cX6_isNothing 8 = .ok (.iconst 1, 1) := by decide +kernel
theorem dX6_isNothing_9 : decode cX6_isNothing 9 = .ok (.goto 4, 3) := by decide +kernel
theorem dX6_isNothing_13 : decode cX6_isNothing 13 = .ok (.ireturn, 1) := by decide +kernel
theorem dX8_append_0 : decode cX8_append 0 = .ok (.bipush 24, 2) := by decide +kernel
theorem dX8_append_2 : decode cX8_append 2 = .ok (.istore_n 2, 1) := by decide +kernel
theorem dX8_append_3 : decode cX8_append 3 = .ok (.iload_n 2, 1) := by decide +kernel
theorem dX8_append_4 : decode cX8_append 4 = .ok (.ifCond .lt 42, 3) := by decide +kernel
theorem dX8_append_7 : decode cX8_append 7 = .ok (.aload_n 0, 1) := by decide +kernel
theorem dX8_append_8 : decode cX8_append 8 = .ok (.getfield 15, 3) := by decide +kernel
theorem dX8_append_11 : decode cX8_append 11 = .ok (.sipush 800, 3) := by decide +kernel
theorem dX8_append_14 : decode cX8_append 14 = .ok (.if_icmp .ge 32, 3) := by decide +kernel
theorem dX8_append_17 : decode cX8_append 17 = .ok (.aload_n 0, 1) := by decide +kernel
theorem dX8_append_18 : decode cX8_append 18 = .ok (.getfield 9, 3) := by decide +kernel
theorem dX8_append_21 : decode cX8_append 21 = .ok (.aload_n 0, 1) := by decide +kernel
theorem dX8_append_22 : decode cX8_append 22 = .ok (.getfield 15, 3) := by decide +kernel
theorem dX8_append_25 : decode cX8_append 25 = .ok (.iload_n 1, 1) := by decide +kernel
theorem dX8_append_26 : decode cX8_append 26 = .ok (.iload_n 2, 1) := by decide +kernel
theorem dX8_append_27 : decode cX8_append 27 = .ok (.ishr, 1) := by decide +kernel
theorem dX8_append_28 : decode cX8_append 28 = .ok (.i2b, 1) := by decide +kernel
theorem dX8_append_29 : decode cX8_append 29 = .ok (.bastore, 1) := by decide +kernel
theorem dX8_append_30 : decode cX8_append 30 = .ok (.aload_n 0, 1) := by decide +kernel
theorem dX8_append_31 : decode cX8_append 31 = .ok (.dup, 1) := by decide +kernel
theorem dX8_append_32 : decode cX8_append 32 = .ok (.getfield 15, 3) := by decide +kernel
theorem dX8_append_35 : decode cX8_append 35 = .ok (.iconst 1, 1) := by decide +kernel
theorem dX8_append_36 : decode cX8_append 36 = .ok (.iadd, 1) := by decide +kernel
theorem dX8_append_37 : decode cX8_append 37 = .ok (.putfield 15, 3) := by decide +kernel
theorem dX8_append_40 : decode cX8_append 40 = .ok (.iinc 2 (-8), 3) := by decide +kernel
theorem dX8_append_43 : decode cX8_append 43 = .ok (.goto (-40), 3) := by decide +kernel
theorem dX8_append_46 : decode cX8_append 46 = .ok (.return_, 1) := by decide +kernel
theorem dX9_count_0 : decode cX9_count 0 = .ok (.iload_n 1, 1) := by decide +kernel
theorem dX9_count_1 : decode cX9_count 1 = .ok (.tableswitch 156 0 11 #[63, 71, 79, 87, 95, 103, 111, 119, 127, 135, 143, 151], 63) := by decide +kernel
theorem dX9_count_64 : decode cX9_count 64 = .ok (.aload_n 0, 1) := by decide +kernel
theorem dX9_count_65 : decode cX9_count 65 = .ok (.getfield 19, 3) := by decide +kernel
theorem dX9_count_68 : decode cX9_count 68 = .ok (.getfield 380, 3) := by decide +kernel
theorem dX9_count_71 : decode cX9_count 71 = .ok (.ireturn, 1) := by decide +kernel
theorem dX9_count_72 : decode cX9_count 72 = .ok (.aload_n 0, 1) := by decide +kernel
theorem dX9_count_73 : decode cX9_count 73 = .ok (.getfield 19, 3) := by decide +kernel
theorem dX9_count_76 : decode cX9_count 76 = .ok (.getfield 383, 3) := by decide +kernel
theorem dX9_count_79 : decode cX9_count 79 = .ok (.ireturn, 1) := by decide +kernel
theorem dX9_count_80 : decode cX9_count 80 = .ok (.aload_n 0, 1) := by decide +kernel
theorem dX9_count_81 : decode cX9_count 81 = .ok (.getfield 19, 3) := by decide +kernel
theorem dX9_count_84 : decode cX9_count 84 = .ok (.getfield 195, 3) := by decide +kernel
theorem dX9_count_87 : decode cX9_count 87 = .ok (.ireturn, 1) := by decide +kernel
theorem dX9_count_88 : decode cX9_count 88 = .ok (.aload_n 0, 1) := by decide +kernel
theorem dX9_count_89 : decode cX9_count 89 = .ok (.getfield 19, 3) := by decide +kernel
theorem dX9_count_92 : decode cX9_count 92 = .ok (.getfield 386, 3) := by decide +kernel
theorem dX9_count_95 : decode cX9_count 95 = .ok (.ireturn, 1) := by decide +kernel
theorem dX9_count_96 : decode cX9_count 96 = .ok (.aload_n 0, 1) := by decide +kernel
theorem dX9_count_97 : decode cX9_count 97 = .ok (.getfield 19, 3) := by decide +kernel
theorem dX9_count_100 : decode cX9_count 100 = .ok (.getfield 389, 3) := by decide +kernel
theorem dX9_count_103 : decode cX9_count 103 = .ok (.ireturn, 1) := by decide +kernel
theorem dX9_count_104 : decode cX9_count 104 = .ok (.aload_n 0, 1) := by decide +kernel
theorem dX9_count_105 : decode cX9_count 105 = .ok (.getfield 19, 3) := by decide +kernel
theorem dX9_count_108 : decode cX9_count 108 = .ok (.invokevirtual 192, 3) := by decide +kernel
theorem dX9_count_111 : decode cX9_count 111 = .ok (.ireturn, 1) := by decide +kernel
theorem dX9_count_112 : decode cX9_count 112 = .ok (.aload_n 0, 1) := by decide +kernel
theorem dX9_count_113 : decode cX9_count 113 = .ok (.getfield 19, 3) := by decide +kernel
theorem dX9_count_116 : decode cX9_count 116 = .ok (.getfield 210, 3) := by decide +kernel
theorem dX9_count_119 : decode cX9_count 119 = .ok (.ireturn, 1) := by decide +kernel
theorem dX9_count_120 : decode cX9_count 120 = .ok (.aload_n 0, 1) := by decide +kernel
theorem dX9_count_121 : decode cX9_count 121 = .ok (.getfield 19, 3) := by decide +kernel
theorem dX9_count_124 : decode cX9_count 124 = .ok (.getfield 216, 3) := by decide +kernel
theorem dX9_count_127 : decode cX9_count 127 = .ok (.ireturn, 1) := by decide +kernel
theorem dX9_count_128 : decode cX9_count 128 = .ok (.aload_n 0, 1) := by decide +kernel
theorem dX9_count_129 : decode cX9_count 129 = .ok (.getfield 19, 3) := by decide +kernel
theorem dX9_count_132 : decode cX9_count 132 = .ok (.getfield 359, 3) := by decide +kernel
theorem dX9_count_135 : decode cX9_count 135 = .ok (.ireturn, 1) := by decide +kernel
theorem dX9_count_136 : decode cX9_count 136 = .ok (.aload_n 0, 1) := by decide +kernel
theorem dX9_count_137 : decode cX9_count 137 = .ok (.getfield 19, 3) := by decide +kernel
theorem dX9_count_140 : decode cX9_count 140 = .ok (.getfield 107, 3) := by decide +kernel
theorem dX9_count_143 : decode cX9_count 143 = .ok (.ireturn, 1) := by decide +kernel
theorem dX9_count_144 : decode cX9_count 144 = .ok (.aload_n 0, 1) := by decide +kernel
theorem dX9_count_145 : decode cX9_count 145 = .ok (.getfield 10, 3) := by decide +kernel
theorem dX9_count_148 : decode cX9_count 148 = .ok (.getfield 86, 3) := by decide +kernel
theorem dX9_count_151 : decode cX9_count 151 = .ok (.ireturn, 1) := by decide +kernel
theorem dX9_count_152 : decode cX9_count 152 = .ok (.aload_n 0, 1) := by decide +kernel
theorem dX9_count_153 : decode cX9_count 153 = .ok (.invokevirtual 392, 3) := by decide +kernel
theorem dX9_count_156 : decode cX9_count 156 = .ok (.ireturn, 1) := by decide +kernel
theorem dX9_count_157 : decode cX9_count 157 = .ok (.iconst (-1), 1) := by decide +kernel
theorem dX9_count_158 : decode cX9_count 158 = .ok (.ireturn, 1) := by decide +kernel
theorem dX9_end_0 : decode cX9_end 0 = .ok (.iload_n 1, 1) := by decide +kernel
theorem dX9_end_1 : decode cX9_end 1 = .ok (.ifCond .lt 14, 3) := by decide +kernel
theorem dX9_end_4 : decode cX9_end 4 = .ok (.iload_n 1, 1) := by decide +kernel
theorem dX9_end_5 : decode cX9_end 5 = .ok (.aload_n 0, 1) := by decide +kernel
theorem dX9_end_6 : decode cX9_end 6 = .ok (.getfield 10, 3) := by decide +kernel
theorem dX9_end_9 : decode cX9_end 9 = .ok (.getfield 86, 3) := by decide +kernel
theorem dX9_end_12 : decode cX9_end 12 = .ok (.if_icmp .le 5, 3) := by decide +kernel
theorem dX9_end_15 : decode cX9_end 15 = .ok (.iconst (-1), 1) := by decide +kernel
theorem dX9_end_16 : decode cX9_end 16 = .ok (.ireturn, 1) := by decide +kernel
theorem dX9_end_17 : decode cX9_end 17 = .ok (.aload_n 0, 1) := by decide +kernel
theorem dX9_end_18 : decode cX9_end 18 = .ok (.getfield 10, 3) := by decide +kernel
theorem dX9_end_21 : decode cX9_end 21 = .ok (.iload_n 1, 1) := by decide +kernel
theorem dX9_end_22 : decode cX9_end 22 = .ok (.putfield 86, 3) := by decide +kernel
theorem dX9_end_25 : decode cX9_end 25 = .ok (.iload_n 1, 1) := by decide +kernel
theorem dX9_end_26 : decode cX9_end 26 = .ok (.ireturn, 1) := by decide +kernel
theorem dX9_fault_0 : decode cX9_fault 0 = .ok (.iload_n 1, 1) := by decide +kernel
theorem dX9_fault_1 : decode cX9_fault 1 = .ok (.ifCond .ne 11, 3) := by decide +kernel
theorem dX9_fault_4 : decode cX9_fault 4 = .ok (.aload_n 0, 1) := by decide +kernel
theorem dX9_fault_5 : decode cX9_fault 5 = .ok (.getfield 28, 3) := by decide +kernel
theorem dX9_fault_8 : decode cX9_fault 8 = .ok (.getfield 110, 3) := by decide +kernel
theorem dX9_fault_11 : decode cX9_fault 11 = .ok (.ireturn, 1) := by decide +kernel
theorem dX9_fault_12 : decode cX9_fault 12 = .ok (.iload_n 1, 1) := by decide +kernel
theorem dX9_fault_13 : decode cX9_fault 13 = .ok (.iconst 1, 1) := by decide +kernel
theorem dX9_fault_14 : decode cX9_fault 14 = .ok (.if_icmp .ne 13, 3) := by decide +kernel
theorem dX9_fault_17 : decode cX9_fault 17 = .ok (.aload_n 0, 1) := by decide +kernel
theorem dX9_fault_18 : decode cX9_fault 18 = .ok (.getfield 28, 3) := by decide +kernel
theorem dX9_fault_21 : decode cX9_fault 21 = .ok (.getfield 113, 3) := by decide +kernel
theorem dX9_fault_24 : decode cX9_fault 24 = .ok (.goto 4, 3) := by decide +kernel
theorem dX9_fault_27 : decode cX9_fault 27 = .ok (.iconst (-1), 1) := by decide +kernel
theorem dX9_fault_28 : decode cX9_fault 28 = .ok (.ireturn, 1) := by decide +kernel
theorem dX9_feed_0 : decode cX9_feed 0 = .ok (.aload_n 0, 1) := by decide +kernel
theorem dX9_feed_1 : decode cX9_feed 1 = .ok (.getfield 10, 3) := by decide +kernel
theorem dX9_feed_4 : decode cX9_feed 4 = .ok (.getfield 86, 3) := by decide +kernel
theorem dX9_feed_7 : decode cX9_feed 7 = .ok (.bipush 20, 2) := by decide +kernel
theorem dX9_feed_9 : decode cX9_feed 9 = .ok (.iadd, 1) := by decide +kernel
theorem dX9_feed_10 : decode cX9_feed 10 = .ok (.sipush 800, 3) := by decide +kernel
theorem dX9_feed_13 : decode cX9_feed 13 = .ok (.if_icmp .le 5, 3) := by decide +kernel
theorem dX9_feed_18 : decode cX9_feed 18 = .ok (.aload_n 0, 1) := by decide +kernel
theorem dX9_feed_19 : decode cX9_feed 19 = .ok (.getfield 10, 3) := by decide +kernel
theorem dX9_feed_22 : decode cX9_feed 22 = .ok (.iload_n 1, 1) := by decide +kernel
theorem dX9_feed_23 : decode cX9_feed 23 = .ok (.invokevirtual 90, 3) := by decide +kernel
theorem dX9_feed_26 : decode cX9_feed 26 = .ok (.aload_n 0, 1) := by decide +kernel
theorem dX9_feed_27 : decode cX9_feed 27 = .ok (.getfield 10, 3) := by decide +kernel
theorem dX9_feed_30 : decode cX9_feed 30 = .ok (.iload_n 2, 1) := by decide +kernel
theorem dX9_feed_31 : decode cX9_feed 31 = .ok (.invokevirtual 90, 3) := by decide +kernel
theorem dX9_feed_34 : decode cX9_feed 34 = .ok (.aload_n 0, 1) := by decide +kernel
theorem dX9_feed_35 : decode cX9_feed 35 = .ok (.getfield 10, 3) := by decide +kernel
theorem dX9_feed_38 : decode cX9_feed 38 = .ok (.iload_n 3, 1) := by decide +kernel
theorem dX9_feed_39 : decode cX9_feed 39 = .ok (.invokevirtual 90, 3) := by decide +kernel
theorem dX9_feed_42 : decode cX9_feed 42 = .ok (.aload_n 0, 1) := by decide +kernel
theorem dX9_feed_43 : decode cX9_feed 43 = .ok (.getfield 10, 3) := by decide +kernel
theorem dX9_feed_46 : decode cX9_feed 46 = .ok (.iload 4, 2) := by decide +kernel
theorem dX9_feed_48 : decode cX9_feed 48 = .ok (.invokevirtual 90, 3) := by decide +kernel
theorem dX9_feed_51 : decode cX9_feed 51 = .ok (.aload_n 0, 1) := by decide +kernel
theorem dX9_feed_52 : decode cX9_feed 52 = .ok (.getfield 10, 3) := by decide +kernel
theorem dX9_feed_55 : decode cX9_feed 55 = .ok (.iload 5, 2) := by decide +kernel
theorem dX9_feed_57 : decode cX9_feed 57 = .ok (.invokevirtual 90, 3) := by decide +kernel
theorem dX9_feed_60 : decode cX9_feed 60 = .ok (.aload_n 0, 1) := by decide +kernel
theorem dX9_feed_61 : decode cX9_feed 61 = .ok (.getfield 10, 3) := by decide +kernel
theorem dX9_feed_64 : decode cX9_feed 64 = .ok (.getfield 86, 3) := by decide +kernel
theorem dX9_feed_67 : decode cX9_feed 67 = .ok (.ireturn, 1) := by decide +kernel
theorem dX9_paste_0 : decode cX9_paste 0 = .ok (.iload_n 1, 1) := by decide +kernel
theorem dX9_paste_1 : decode cX9_paste 1 = .ok (.invokestatic 395, 3) := by decide +kernel
theorem dX9_paste_4 : decode cX9_paste 4 = .ok (.ifCond .eq 10, 3) := by decide +kernel
theorem dX9_paste_7 : decode cX9_paste 7 = .ok (.iload_n 3, 1) := by decide +kernel
theorem dX9_paste_8 : decode cX9_paste 8 = .ok (.invokestatic 395, 3) := by decide +kernel
theorem dX9_paste_11 : decode cX9_paste 11 = .ok (.ifCond .ne 6, 3) := by decide +kernel
theorem dX9_paste_14 : decode cX9_paste 14 = .ok (.bipush (-2), 2) := by decide +kernel
theorem dX9_paste_16 : decode cX9_paste 16 = .ok (.ireturn, 1) := by decide +kernel
theorem dX9_paste_17 : decode cX9_paste 17 = .ok (.aload_n 0, 1) := by decide +kernel
theorem dX9_paste_18 : decode cX9_paste 18 = .ok (.getfield 38, 3) := by decide +kernel
theorem dX9_paste_21 : decode cX9_paste 21 = .ok (.iload_n 1, 1) := by decide +kernel
theorem dX9_paste_22 : decode cX9_paste 22 = .ok (.aaload, 1) := by decide +kernel
theorem dX9_paste_23 : decode cX9_paste 23 = .ok (.astore 6, 2) := by decide +kernel
theorem dX9_paste_25 : decode cX9_paste 25 = .ok (.aload_n 0, 1) := by decide +kernel
theorem dX9_paste_26 : decode cX9_paste 26 = .ok (.getfield 38, 3) := by decide +kernel
theorem dX9_paste_29 : decode cX9_paste 29 = .ok (.iload_n 3, 1) := by decide +kernel
theorem dX9_paste_30 : decode cX9_paste 30 = .ok (.aaload, 1) := by decide +kernel
theorem dX9_paste_31 : decode cX9_paste 31 = .ok (.astore 7, 2) := by decide +kernel
theorem dX9_paste_33 : decode cX9_paste 33 = .ok (.aload 6, 2) := by decide +kernel
theorem dX9_paste_35 : decode cX9_paste 35 = .ok (.invokevirtual 402, 3) := by decide +kernel
theorem dX9_paste_38 : decode cX9_paste 38 = .ok (.ifCond .ne 11, 3) := by decide +kernel
theorem dX9_paste_49 : decode cX9_paste 49 = .ok (.bipush (-6), 2) := by decide +kernel
theorem dX9_paste_51 : decode cX9_paste 51 = .ok (.ireturn, 1) := by decide +kernel
theorem dX9_rowsHad_0 : decode cX9_rowsHad 0 = .ok (.iconst 0, 1) := by decide +kernel
theorem dX9_rowsHad_1 : decode cX9_rowsHad 1 = .ok (.istore_n 1, 1) := by decide +kernel
theorem dX9_rowsHad_2 : decode cX9_rowsHad 2 = .ok (.iconst 0, 1) := by decide +kernel
theorem dX9_rowsHad_3 : decode cX9_rowsHad 3 = .ok (.istore_n 2, 1) := by decide +kernel
theorem dX9_rowsHad_4 : decode cX9_rowsHad 4 = .ok (.iload_n 2, 1) := by decide +kernel
theorem dX9_rowsHad_5 : decode cX9_rowsHad 5 = .ok (.iconst 4, 1) := by decide +kernel
theorem dX9_rowsHad_6 : decode cX9_rowsHad 6 = .ok (.if_icmp .ge 24, 3) := by decide +kernel
theorem dX9_rowsHad_9 : decode cX9_rowsHad 9 = .ok (.aload_n 0, 1) := by decide +kernel
theorem dX9_rowsHad_10 : decode cX9_rowsHad 10 = .ok (.getfield 38, 3) := by decide +kernel
theorem dX9_rowsHad_13 : decode cX9_rowsHad 13 = .ok (.iload_n 2, 1) := by decide +kernel
theorem dX9_rowsHad_14 : decode cX9_rowsHad 14 = .ok (.aaload, 1) := by decide +kernel
theorem dX9_rowsHad_15 : decode cX9_rowsHad 15 = .ok (.invokevirtual 402, 3) := by decide +kernel
theorem dX9_rowsHad_18 : decode cX9_rowsHad 18 = .ok (.ifCond .ne 6, 3) := by decide +kernel
theorem dX9_rowsHad_24 : decode cX9_rowsHad 24 = .ok (.iinc 2 1, 3) := by decide +kernel
theorem dX9_rowsHad_27 : decode cX9_rowsHad 27 = .ok (.goto (-23), 3) := by decide +kernel
theorem dX9_rowsHad_30 : decode cX9_rowsHad 30 = .ok (.iload_n 1, 1) := by decide +kernel
theorem dX9_rowsHad_31 : decode cX9_rowsHad 31 = .ok (.ireturn, 1) := by decide +kernel
theorem dX9_write_0 : decode cX9_write 0 = .ok (.iload_n 1, 1) := by decide +kernel
theorem dX9_write_1 : decode cX9_write 1 = .ok (.invokestatic 395, 3) := by decide +kernel
theorem dX9_write_4 : decode cX9_write 4 = .ok (.ifCond .ne 6, 3) := by decide +kernel
theorem dX9_write_7 : decode cX9_write 7 = .ok (.bipush (-2), 2) := by decide +kernel
theorem dX9_write_9 : decode cX9_write 9 = .ok (.ireturn, 1) := by decide +kernel
theorem dX9_write_10 : decode cX9_write 10 = .ok (.aload_n 0, 1) := by decide +kernel
theorem dX9_write_11 : decode cX9_write 11 = .ok (.getfield 38, 3) := by decide +kernel
theorem dX9_write_14 : decode cX9_write 14 = .ok (.iload_n 1, 1) := by decide +kernel
theorem dX9_write_15 : decode cX9_write 15 = .ok (.aaload, 1) := by decide +kernel
theorem dX9_write_16 : decode cX9_write 16 = .ok (.astore 5, 2) := by decide +kernel
theorem dX9_write_18 : decode cX9_write 18 = .ok (.aload 5, 2) := by decide +kernel
theorem dX9_write_20 : decode cX9_write 20 = .ok (.invokevirtual 402, 3) := by decide +kernel
theorem dX9_write_23 : decode cX9_write 23 = .ok (.ifCond .eq 6, 3) := by decide +kernel
theorem dX9_write_26 : decode cX9_write 26 = .ok (.bipush (-6), 2) := by decide +kernel
theorem dX9_write_28 : decode cX9_write 28 = .ok (.ireturn, 1) := by decide +kernel
theorem wd52 : Cond.fieldLink RX8 15 "GooseShares$Tape" "length" "I" ∈ gW := gm (tm_1 37 (by decide +kernel)) rfl
theorem wd53 : Cond.fieldLink RX8 9 "GooseShares$Tape" "bytes" "[B" ∈ gW := gm (tm_1 34 (by decide +kernel)) rfl
theorem wd54 : Cond.fieldLink RX9 10 "GooseShares" "tape" "LGooseShares$Tape;" ∈ gW := gm (tm_2 98 (by decide +kernel)) rfl
theorem wd55 : Cond.fieldLink RX9 86 "GooseShares$Tape" "length" "I" ∈ gW := gm (tm_1 36 (by decide +kernel)) rfl
theorem wd56 : Cond.instanceMethod yX8_append ∈ gW := gm (tm_2 137 (by decide +kernel)) rfl
theorem wd57 : Cond.selects RX8 yX8_append yX8_append ∈ gW := gm (tm_2 138 (by decide +kernel)) rfl
theorem wd58 : Cond.initialized RX8 ∈ gW := gm (tm_1 2 (by decide +kernel)) rfl
theorem wd59 : Cond.code yX8_append cX8_append 3 none ∈ gW := gm (tm_2 139 (by decide +kernel)) rfl
theorem wd60 : Cond.methodLink RX9 90 yX8_append ∈ gW := gm (tm_2 136 (by decide +kernel)) rfl
theorem wd61 : Cond.fieldLink RX9 28 "GooseShares" "reader" "LGooseShares$Reader;" ∈ gW := gm (tm_2 100 (by decide +kernel)) rfl
theorem wd62 : Cond.fieldLink RX9 113 "GooseShares$Reader" "where" "I" ∈ gW := gm (tm_1 183 (by decide +kernel)) rfl
theorem wd63 : Cond.fieldLink RX9 110 "GooseShares$Reader" "trouble" "I" ∈ gW := gm (tm_1 181 (by decide +kernel)) rfl
theorem wd64 : Cond.fieldLink RX6 15 "GooseShares$Row" "width" "I" ∈ gW := gm (tm_2 84 (by decide +kernel)) rfl
theorem wd65 : Cond.fieldLink RX9 38 "GooseShares" "rows" "[LGooseShares$Row;" ∈ gW := gm (tm_2 102 (by decide +kernel)) rfl
theorem wd66 : Cond.instanceMethod yX6_isNothing ∈ gW := gm (tm_4 183 (by decide +kernel)) rfl
theorem wd67 : Cond.selects RX6 yX6_isNothing yX6_isNothing ∈ gW := gm (tm_4 184 (by decide +kernel)) rfl
theorem wd68 : Cond.initialized RX6 ∈ gW := gm (tm_1 10 (by decide +kernel)) rfl
theorem wd69 : Cond.code yX6_isNothing cX6_isNothing 1 (some .boolean) ∈ gW := gm (tm_4 185 (by decide +kernel)) rfl
theorem wd70 : Cond.methodLink RX9 402 yX6_isNothing ∈ gW := gm (tm_4 182 (by decide +kernel)) rfl
theorem wd71 : Cond.fieldLink RX9 380 "GooseShares$Land" "wide" "I" ∈ gW := gm (tm_1 56 (by decide +kernel)) rfl
theorem wd72 : Cond.fieldLink RX9 383 "GooseShares$Land" "high" "I" ∈ gW := gm (tm_1 59 (by decide +kernel)) rfl
theorem wd73 : Cond.fieldLink RX9 195 "GooseShares$Land" "law" "I" ∈ gW := gm (tm_1 66 (by decide +kernel)) rfl
theorem wd74 : Cond.fieldLink RX9 386 "GooseShares$Land" "ear" "I" ∈ gW := gm (tm_1 69 (by decide +kernel)) rfl
theorem wd75 : Cond.fieldLink RX9 389 "GooseShares$Land" "odds" "I" ∈ gW := gm (tm_1 73 (by decide +kernel)) rfl
theorem wd76 : Cond.methodLink RX9 192 yX3_cells ∈ gW := gm (tm_3 206 (by decide +kernel)) rfl
theorem wd77 : Cond.fieldLink RX9 210 "GooseShares$Land" "flights" "I" ∈ gW := gm (tm_1 79 (by decide +kernel)) rfl
theorem wd78 : Cond.fieldLink RX9 216 "GooseShares$Land" "members" "I" ∈ gW := gm (tm_1 86 (by decide +kernel)) rfl
theorem wd79 : Cond.fieldLink RX9 359 "GooseShares$Land" "acts" "I" ∈ gW := gm (tm_1 94 (by decide +kernel)) rfl
theorem wd80 : Cond.fieldLink RX9 107 "GooseShares$Land" "lines" "I" ∈ gW := gm (tm_1 53 (by decide +kernel)) rfl
theorem wd81 : Cond.instanceMethod yX9_rowsHad ∈ gW := gm (tm_6 39 (by decide +kernel)) rfl
theorem wd82 : Cond.selects RX9 yX9_rowsHad yX9_rowsHad ∈ gW := gm (gmP 15 (by decide +kernel)) rfl
theorem wd83 : Cond.code yX9_rowsHad cX9_rowsHad 3 (some .int) ∈ gW := gm (tm_6 40 (by decide +kernel)) rfl
theorem wd84 : Cond.methodLink RX9 392 yX9_rowsHad ∈ gW := gm (tm_6 37 (by decide +kernel)) rfl
theorem my_X8_append : gWV RX8 yX8_append cX8_append 3 none 1 := ⟨⟨wd56, wd57, wd58, wd59⟩, ⟨rfl, by decide +kernel, by decide +kernel, by decide +kernel⟩⟩
theorem my_X6_isNothing : gWV RX6 yX6_isNothing cX6_isNothing 1 (some .boolean) 0 := ⟨⟨wd66, wd67, wd68, wd69⟩, ⟨rfl, by decide +kernel, by decide +kernel, by decide +kernel⟩⟩
theorem my_X9_rowsHad : gWV RX9 yX9_rowsHad cX9_rowsHad 3 (some .int) 0 := ⟨⟨wd81, wd82, wd15, wd83⟩, ⟨rfl, by decide +kernel, by decide +kernel, by decide +kernel⟩⟩
end
section
def gEnd (z : Int32) : Int32 := if z < 0 then -1 else if z ≤ 0 then z else -1
def gFault (z : Int32) : Int32 := if z = 0 then 0 else -1
def gCount (z : Int32) : Int32 := if z.toInt < 0 ∨ 11 < z.toInt then -1 else 0
def gWrite (z : Int32) : Int32 := if gSlot z = 0 then -2 else -6
def gPaste (z t : Int32) : Int32 := if gSlot z = 0 then -2 else if gSlot t = 0 then -2 else -6
def gRow (z w n : Int32) : Int32 := if gSlot z = 0 then -2 else if w < 0 then -2 else if 4 ≤ w then -2 else if 60 < n then -2 else if n < 0 then -3 else 0
def gImage (k : Int32) : Int32 := if k < 0 then -2 else if k < 3 then 0 else -2
def gBack (k : Int32) : Int32 := if k < 0 then -2 else if k < 3 then -6 else -2
def gRows (E : gE) (L : List Nat) (f : gF) (wv : Nat → Option Nat) : Prop := ∀ k, k < 4 → ∃ (q nu : Nat) (u : Nat → Int64), wv k = some q ∧ q ∈ L ∧ f q = .inr (6, [.ref nu, .int (-1), .int 0]) ∧ nu ∈ L ∧ f nu = .inl (E.2.2 2, 60, .inr (.inl u))
theorem vp_lt {i : Int32} {n : Nat} (h : vp_in i n) : i.toNatClampNeg < n := Nat.not_le.mp fun q => h (Or.inr q)
theorem gSlot_in {z : Int32} (h : ¬ gSlot z = 0) : vp_in z 4 := by
  unfold gSlot at h
  split at h
  · exact absurd rfl h
  · split at h
    · exact absurd rfl h
    · next h1 h2 => exact vp_inL (by rw [fa_lt] at h1; rw [fa_le] at h2; have e0 : (0 : Int32).toInt = 0 := by decide
                                     have e4 : (4 : Int32).toInt = 4 := by decide
                                     omega)
set_option maxHeartbeats 4000000 in
set_option maxRecDepth 100000 in
theorem k_append0 (l : Launch) (E : gE) (L : List Nat) (f : gF) {xt xb : Nat} {v : Nat → Int32} (mt : xt ∈ L) (ft : f xt = .inr (8, [.ref xb, .int (0 : Int32)])) (mb : xb ∈ L) (fb : f xb = .inl (E.2.2 0, 800, .inl v)) (p0 : Int32) : gMv l E yX8_append cX8_append 3 (gRm 1 0 0) [.ref xt, .int p0] L f (fun L1 f1 => L = L1 ∧ f1 xt = .inr (8, [.ref xb, .int (4 : Int32)]) ∧ (∃ z, f1 xb = .inl (E.2.2 0, 800, .inl z)) ∧ ∀ b, b ≠ xt → b ≠ xb → f1 b = f b) := by
  refine gMv.intro (by decide) (Nat.le_of_ble_eq_true rfl) ?_
  intro p e s m below meth c A ls C hr hnm hA hH hl
  have C : gC E cX8_append 3 RX8 p s m _ meth c := C
  have hl : lv_has ls 3 [(0, .ref xt), (1, .int p0)] := hl
  have hx := C.1
  have hb := C.2.1
  refine lv_bipush (v := (24 : Int32)) hx hb dX8_append_0 (by decide) ?_
  refine lv_istore_n (lv' := [(2, .int (24 : Int32)), (0, .ref xt), (1, .int p0)]) hx hb dX8_append_2 rfl hl (by decide) rfl (fun ls hl => ?_)
  refine lv_iload_n hx hb dX8_append_3 rfl (lv_at hl 0 rfl) ?_
  refine lv_if_lt (tgt := 46) hx hb dX8_append_4 (by decide) (fun h => absurd h (by decide)) (fun _ => ?_)
  refine lv_aload_n hx hb dX8_append_7 rfl (lv_at hl 1 rfl) ?_
  refine g_get C hH mt ft iX8 rfl 1 (by decide) wd52 rfl rfl dX8_append_8 ?_
  refine lv_sipush (v := (800 : Int32)) hx hb dX8_append_11 (by decide) ?_
  refine lv_icmp_ge (tgt := 46) hx hb dX8_append_14 (by decide) (fun h => absurd h (by decide)) (fun _ => ?_)
  refine lv_aload_n hx hb dX8_append_17 rfl (lv_at hl 1 rfl) ?_
  refine g_get C hH mt ft iX8 rfl 0 (by decide) wd53 rfl rfl dX8_append_18 ?_
  refine lv_aload_n hx hb dX8_append_21 rfl (lv_at hl 1 rfl) ?_
  refine g_get C hH mt ft iX8 rfl 1 (by decide) wd52 rfl rfl dX8_append_22 ?_
  refine lv_iload_n hx hb dX8_append_25 rfl (lv_at hl 2 rfl) ?_
  refine lv_iload_n hx hb dX8_append_26 rfl (lv_at hl 0 rfl) ?_
  refine lv_ishr hx hb dX8_append_27 ?_
  refine lv_topi (fun z1 ez1 => ?_)
  refine lv_i2b (v := (z1).toInt8.toInt32) hx hb dX8_append_28 rfl ?_
  refine g_bast C hH mb fb (vp_inL (by decide)) dX8_append_29 (fun H locs hH => ?_)
  obtain ⟨f2, ef2⟩ : ∃ z : gF, z = va_up f xb (.inl (E.2.2 0, 800, .inl (upd v ((0 : Int32)).toNatClampNeg (vp_nar .byte ((z1).toInt8.toInt32))))) := ⟨_, rfl⟩
  have hH : gH E A L f2 s.heap H locs := by rw [ef2]; exact hH
  have h3 : f2 xb = .inl (E.2.2 0, 800, .inl (upd v ((0 : Int32)).toNatClampNeg (vp_nar .byte ((z1).toInt8.toInt32)))) := (congrFun ef2 xb).trans (va_up_self _ _ _)
  refine lv_aload_n hx hb dX8_append_30 rfl (lv_at hl 1 rfl) ?_
  refine lv_dup hx hb dX8_append_31 rfl ?_
  have h4 : f2 xt = .inr (8, [.ref xb, .int (0 : Int32)]) := ((congrFun ef2 xt).trans (va_up_ne _ _ (g_neOA ft fb))).trans ft
  refine g_get C hH mt h4 iX8 rfl 1 (by decide) wd52 rfl rfl dX8_append_32 ?_
  refine lv_iconst (v := (1 : Int32)) hx hb dX8_append_35 (by decide) ?_
  refine lv_iadd hx hb dX8_append_36 ?_
  refine lv_topi (fun z5 ez5 => ?_)
  obtain rfl : z5 = (1 : Int32) := ez5.trans (by decide)
  refine g_put C hH mt h4 iX8 tyX8 tyX8_ok nmX8 rfl 1 (by decide) wd52 rfl rfl rfl rfl (Nat.le_of_ble_eq_true rfl) (fs' := [.ref xb, .int (1 : Int32)]) rfl dX8_append_37 (fun H locs hH => ?_)
  obtain ⟨f6, ef6⟩ : ∃ z : gF, z = va_up f2 xt (.inr (8, [.ref xb, .int (1 : Int32)])) := ⟨_, rfl⟩
  have hH : gH E A L f6 s.heap H locs := by rw [ef6]; exact hH
  have h7 : f6 xt = .inr (8, [.ref xb, .int (1 : Int32)]) := (congrFun ef6 xt).trans (va_up_self _ _ _)
  refine lv_iinc (v := (16 : Int32)) (lv' := [(2, .int (16 : Int32)), (0, .ref xt), (1, .int p0)]) hx hb dX8_append_40 hl (k := 0) rfl (by decide) (by decide) rfl (fun ls hl => ?_)
  refine lv_goto (tgt := 3) hx hb dX8_append_43 (by decide) ?_
  refine lv_iload_n hx hb dX8_append_3 rfl (lv_at hl 0 rfl) ?_
  refine lv_if_lt (tgt := 46) hx hb dX8_append_4 (by decide) (fun h => absurd h (by decide)) (fun _ => ?_)
  refine lv_aload_n hx hb dX8_append_7 rfl (lv_at hl 1 rfl) ?_
  refine g_get C hH mt h7 iX8 rfl 1 (by decide) wd52 rfl rfl dX8_append_8 ?_
  refine lv_sipush (v := (800 : Int32)) hx hb dX8_append_11 (by decide) ?_
  refine lv_icmp_ge (tgt := 46) hx hb dX8_append_14 (by decide) (fun h => absurd h (by decide)) (fun _ => ?_)
  refine lv_aload_n hx hb dX8_append_17 rfl (lv_at hl 1 rfl) ?_
  refine g_get C hH mt h7 iX8 rfl 0 (by decide) wd53 rfl rfl dX8_append_18 ?_
  refine lv_aload_n hx hb dX8_append_21 rfl (lv_at hl 1 rfl) ?_
  refine g_get C hH mt h7 iX8 rfl 1 (by decide) wd52 rfl rfl dX8_append_22 ?_
  refine lv_iload_n hx hb dX8_append_25 rfl (lv_at hl 2 rfl) ?_
  refine lv_iload_n hx hb dX8_append_26 rfl (lv_at hl 0 rfl) ?_
  refine lv_ishr hx hb dX8_append_27 ?_
  refine lv_topi (fun z8 ez8 => ?_)
  refine lv_i2b (v := (z8).toInt8.toInt32) hx hb dX8_append_28 rfl ?_
  have h9 : f6 xb = .inl (E.2.2 0, 800, .inl (upd v ((0 : Int32)).toNatClampNeg (vp_nar .byte ((z1).toInt8.toInt32)))) := ((congrFun ef6 xb).trans (va_up_ne _ _ (g_neAO h3 h4))).trans h3
  refine g_bast C hH mb h9 (vp_inL (by decide)) dX8_append_29 (fun H locs hH => ?_)
  obtain ⟨f10, ef10⟩ : ∃ z : gF, z = va_up f6 xb (.inl (E.2.2 0, 800, .inl (upd (upd v ((0 : Int32)).toNatClampNeg (vp_nar .byte ((z1).toInt8.toInt32))) ((1 : Int32)).toNatClampNeg (vp_nar .byte ((z8).toInt8.toInt32))))) := ⟨_, rfl⟩
  have hH : gH E A L f10 s.heap H locs := by rw [ef10]; exact hH
  have h11 : f10 xb = .inl (E.2.2 0, 800, .inl (upd (upd v ((0 : Int32)).toNatClampNeg (vp_nar .byte ((z1).toInt8.toInt32))) ((1 : Int32)).toNatClampNeg (vp_nar .byte ((z8).toInt8.toInt32)))) := (congrFun ef10 xb).trans (va_up_self _ _ _)
  refine lv_aload_n hx hb dX8_append_30 rfl (lv_at hl 1 rfl) ?_
  refine lv_dup hx hb dX8_append_31 rfl ?_
  have h12 : f10 xt = .inr (8, [.ref xb, .int (1 : Int32)]) := ((congrFun ef10 xt).trans (va_up_ne _ _ (g_neOA h7 h9))).trans h7
  refine g_get C hH mt h12 iX8 rfl 1 (by decide) wd52 rfl rfl dX8_append_32 ?_
  refine lv_iconst (v := (1 : Int32)) hx hb dX8_append_35 (by decide) ?_
  refine lv_iadd hx hb dX8_append_36 ?_
  refine lv_topi (fun z13 ez13 => ?_)
  obtain rfl : z13 = (2 : Int32) := ez13.trans (by decide)
  refine g_put C hH mt h12 iX8 tyX8 tyX8_ok nmX8 rfl 1 (by decide) wd52 rfl rfl rfl rfl (Nat.le_of_ble_eq_true rfl) (fs' := [.ref xb, .int (2 : Int32)]) rfl dX8_append_37 (fun H locs hH => ?_)
  obtain ⟨f14, ef14⟩ : ∃ z : gF, z = va_up f10 xt (.inr (8, [.ref xb, .int (2 : Int32)])) := ⟨_, rfl⟩
  have hH : gH E A L f14 s.heap H locs := by rw [ef14]; exact hH
  have h15 : f14 xt = .inr (8, [.ref xb, .int (2 : Int32)]) := (congrFun ef14 xt).trans (va_up_self _ _ _)
  refine lv_iinc (v := (8 : Int32)) (lv' := [(2, .int (8 : Int32)), (0, .ref xt), (1, .int p0)]) hx hb dX8_append_40 hl (k := 0) rfl (by decide) (by decide) rfl (fun ls hl => ?_)
  refine lv_goto (tgt := 3) hx hb dX8_append_43 (by decide) ?_
  refine lv_iload_n hx hb dX8_append_3 rfl (lv_at hl 0 rfl) ?_
  refine lv_if_lt (tgt := 46) hx hb dX8_append_4 (by decide) (fun h => absurd h (by decide)) (fun _ => ?_)
  refine lv_aload_n hx hb dX8_append_7 rfl (lv_at hl 1 rfl) ?_
  refine g_get C hH mt h15 iX8 rfl 1 (by decide) wd52 rfl rfl dX8_append_8 ?_
  refine lv_sipush (v := (800 : Int32)) hx hb dX8_append_11 (by decide) ?_
  refine lv_icmp_ge (tgt := 46) hx hb dX8_append_14 (by decide) (fun h => absurd h (by decide)) (fun _ => ?_)
  refine lv_aload_n hx hb dX8_append_17 rfl (lv_at hl 1 rfl) ?_
  refine g_get C hH mt h15 iX8 rfl 0 (by decide) wd53 rfl rfl dX8_append_18 ?_
  refine lv_aload_n hx hb dX8_append_21 rfl (lv_at hl 1 rfl) ?_
  refine g_get C hH mt h15 iX8 rfl 1 (by decide) wd52 rfl rfl dX8_append_22 ?_
  refine lv_iload_n hx hb dX8_append_25 rfl (lv_at hl 2 rfl) ?_
  refine lv_iload_n hx hb dX8_append_26 rfl (lv_at hl 0 rfl) ?_
  refine lv_ishr hx hb dX8_append_27 ?_
  refine lv_topi (fun z16 ez16 => ?_)
  refine lv_i2b (v := (z16).toInt8.toInt32) hx hb dX8_append_28 rfl ?_
  have h17 : f14 xb = .inl (E.2.2 0, 800, .inl (upd (upd v ((0 : Int32)).toNatClampNeg (vp_nar .byte ((z1).toInt8.toInt32))) ((1 : Int32)).toNatClampNeg (vp_nar .byte ((z8).toInt8.toInt32)))) := ((congrFun ef14 xb).trans (va_up_ne _ _ (g_neAO h11 h12))).trans h11
  refine g_bast C hH mb h17 (vp_inL (by decide)) dX8_append_29 (fun H locs hH => ?_)
  obtain ⟨f18, ef18⟩ : ∃ z : gF, z = va_up f14 xb (.inl (E.2.2 0, 800, .inl (upd (upd (upd v ((0 : Int32)).toNatClampNeg (vp_nar .byte ((z1).toInt8.toInt32))) ((1 : Int32)).toNatClampNeg (vp_nar .byte ((z8).toInt8.toInt32))) ((2 : Int32)).toNatClampNeg (vp_nar .byte ((z16).toInt8.toInt32))))) := ⟨_, rfl⟩
  have hH : gH E A L f18 s.heap H locs := by rw [ef18]; exact hH
  have h19 : f18 xb = .inl (E.2.2 0, 800, .inl (upd (upd (upd v ((0 : Int32)).toNatClampNeg (vp_nar .byte ((z1).toInt8.toInt32))) ((1 : Int32)).toNatClampNeg (vp_nar .byte ((z8).toInt8.toInt32))) ((2 : Int32)).toNatClampNeg (vp_nar .byte ((z16).toInt8.toInt32)))) := (congrFun ef18 xb).trans (va_up_self _ _ _)
  refine lv_aload_n hx hb dX8_append_30 rfl (lv_at hl 1 rfl) ?_
  refine lv_dup hx hb dX8_append_31 rfl ?_
  have h20 : f18 xt = .inr (8, [.ref xb, .int (2 : Int32)]) := ((congrFun ef18 xt).trans (va_up_ne _ _ (g_neOA h15 h17))).trans h15
  refine g_get C hH mt h20 iX8 rfl 1 (by decide) wd52 rfl rfl dX8_append_32 ?_
  refine lv_iconst (v := (1 : Int32)) hx hb dX8_append_35 (by decide) ?_
  refine lv_iadd hx hb dX8_append_36 ?_
  refine lv_topi (fun z21 ez21 => ?_)
  obtain rfl : z21 = (3 : Int32) := ez21.trans (by decide)
  refine g_put C hH mt h20 iX8 tyX8 tyX8_ok nmX8 rfl 1 (by decide) wd52 rfl rfl rfl rfl (Nat.le_of_ble_eq_true rfl) (fs' := [.ref xb, .int (3 : Int32)]) rfl dX8_append_37 (fun H locs hH => ?_)
  obtain ⟨f22, ef22⟩ : ∃ z : gF, z = va_up f18 xt (.inr (8, [.ref xb, .int (3 : Int32)])) := ⟨_, rfl⟩
  have hH : gH E A L f22 s.heap H locs := by rw [ef22]; exact hH
  have h23 : f22 xt = .inr (8, [.ref xb, .int (3 : Int32)]) := (congrFun ef22 xt).trans (va_up_self _ _ _)
  refine lv_iinc (v := (0 : Int32)) (lv' := [(2, .int (0 : Int32)), (0, .ref xt), (1, .int p0)]) hx hb dX8_append_40 hl (k := 0) rfl (by decide) (by decide) rfl (fun ls hl => ?_)
  refine lv_goto (tgt := 3) hx hb dX8_append_43 (by decide) ?_
  refine lv_iload_n hx hb dX8_append_3 rfl (lv_at hl 0 rfl) ?_
  refine lv_if_lt (tgt := 46) hx hb dX8_append_4 (by decide) (fun h => absurd h (by decide)) (fun _ => ?_)
  refine lv_aload_n hx hb dX8_append_7 rfl (lv_at hl 1 rfl) ?_
  refine g_get C hH mt h23 iX8 rfl 1 (by decide) wd52 rfl rfl dX8_append_8 ?_
  refine lv_sipush (v := (800 : Int32)) hx hb dX8_append_11 (by decide) ?_
  refine lv_icmp_ge (tgt := 46) hx hb dX8_append_14 (by decide) (fun h => absurd h (by decide)) (fun _ => ?_)
  refine lv_aload_n hx hb dX8_append_17 rfl (lv_at hl 1 rfl) ?_
  refine g_get C hH mt h23 iX8 rfl 0 (by decide) wd53 rfl rfl dX8_append_18 ?_
  refine lv_aload_n hx hb dX8_append_21 rfl (lv_at hl 1 rfl) ?_
  refine g_get C hH mt h23 iX8 rfl 1 (by decide) wd52 rfl rfl dX8_append_22 ?_
  refine lv_iload_n hx hb dX8_append_25 rfl (lv_at hl 2 rfl) ?_
  refine lv_iload_n hx hb dX8_append_26 rfl (lv_at hl 0 rfl) ?_
  refine lv_ishr hx hb dX8_append_27 ?_
  refine lv_topi (fun z24 ez24 => ?_)
  refine lv_i2b (v := (z24).toInt8.toInt32) hx hb dX8_append_28 rfl ?_
  have h25 : f22 xb = .inl (E.2.2 0, 800, .inl (upd (upd (upd v ((0 : Int32)).toNatClampNeg (vp_nar .byte ((z1).toInt8.toInt32))) ((1 : Int32)).toNatClampNeg (vp_nar .byte ((z8).toInt8.toInt32))) ((2 : Int32)).toNatClampNeg (vp_nar .byte ((z16).toInt8.toInt32)))) := ((congrFun ef22 xb).trans (va_up_ne _ _ (g_neAO h19 h20))).trans h19
  refine g_bast C hH mb h25 (vp_inL (by decide)) dX8_append_29 (fun H locs hH => ?_)
  obtain ⟨f26, ef26⟩ : ∃ z : gF, z = va_up f22 xb (.inl (E.2.2 0, 800, .inl (upd (upd (upd (upd v ((0 : Int32)).toNatClampNeg (vp_nar .byte ((z1).toInt8.toInt32))) ((1 : Int32)).toNatClampNeg (vp_nar .byte ((z8).toInt8.toInt32))) ((2 : Int32)).toNatClampNeg (vp_nar .byte ((z16).toInt8.toInt32))) ((3 : Int32)).toNatClampNeg (vp_nar .byte ((z24).toInt8.toInt32))))) := ⟨_, rfl⟩
  have hH : gH E A L f26 s.heap H locs := by rw [ef26]; exact hH
  have h27 : f26 xb = .inl (E.2.2 0, 800, .inl (upd (upd (upd (upd v ((0 : Int32)).toNatClampNeg (vp_nar .byte ((z1).toInt8.toInt32))) ((1 : Int32)).toNatClampNeg (vp_nar .byte ((z8).toInt8.toInt32))) ((2 : Int32)).toNatClampNeg (vp_nar .byte ((z16).toInt8.toInt32))) ((3 : Int32)).toNatClampNeg (vp_nar .byte ((z24).toInt8.toInt32)))) := (congrFun ef26 xb).trans (va_up_self _ _ _)
  refine lv_aload_n hx hb dX8_append_30 rfl (lv_at hl 1 rfl) ?_
  refine lv_dup hx hb dX8_append_31 rfl ?_
  have h28 : f26 xt = .inr (8, [.ref xb, .int (3 : Int32)]) := ((congrFun ef26 xt).trans (va_up_ne _ _ (g_neOA h23 h25))).trans h23
  refine g_get C hH mt h28 iX8 rfl 1 (by decide) wd52 rfl rfl dX8_append_32 ?_
  refine lv_iconst (v := (1 : Int32)) hx hb dX8_append_35 (by decide) ?_
  refine lv_iadd hx hb dX8_append_36 ?_
  refine lv_topi (fun z29 ez29 => ?_)
  obtain rfl : z29 = (4 : Int32) := ez29.trans (by decide)
  refine g_put C hH mt h28 iX8 tyX8 tyX8_ok nmX8 rfl 1 (by decide) wd52 rfl rfl rfl rfl (Nat.le_of_ble_eq_true rfl) (fs' := [.ref xb, .int (4 : Int32)]) rfl dX8_append_37 (fun H locs hH => ?_)
  obtain ⟨f30, ef30⟩ : ∃ z : gF, z = va_up f26 xt (.inr (8, [.ref xb, .int (4 : Int32)])) := ⟨_, rfl⟩
  have hH : gH E A L f30 s.heap H locs := by rw [ef30]; exact hH
  have h31 : f30 xt = .inr (8, [.ref xb, .int (4 : Int32)]) := (congrFun ef30 xt).trans (va_up_self _ _ _)
  refine lv_iinc (v := (-8 : Int32)) (lv' := [(2, .int (-8 : Int32)), (0, .ref xt), (1, .int p0)]) hx hb dX8_append_40 hl (k := 0) rfl (by decide) (by decide) rfl (fun ls hl => ?_)
  refine lv_goto (tgt := 3) hx hb dX8_append_43 (by decide) ?_
  refine lv_iload_n hx hb dX8_append_3 rfl (lv_at hl 0 rfl) ?_
  refine lv_if_lt (tgt := 46) hx hb dX8_append_4 (by decide) (fun _ => ?_) (fun h => absurd (by decide) h)
  refine g_vret C hr hH (Nat.le_of_ble_eq_true rfl) (Nat.le_of_ble_eq_true rfl) dX8_append_46 ?_
  have h32 : f30 xb = .inl (E.2.2 0, 800, .inl (upd (upd (upd (upd v ((0 : Int32)).toNatClampNeg (vp_nar .byte ((z1).toInt8.toInt32))) ((1 : Int32)).toNatClampNeg (vp_nar .byte ((z8).toInt8.toInt32))) ((2 : Int32)).toNatClampNeg (vp_nar .byte ((z16).toInt8.toInt32))) ((3 : Int32)).toNatClampNeg (vp_nar .byte ((z24).toInt8.toInt32)))) := ((congrFun ef30 xb).trans (va_up_ne _ _ (g_neAO h27 h28))).trans h27
  exact ⟨rfl, h31, ⟨_, h32⟩, fun b h1 h2 => by rw [ef30, va_up_ne _ _ h1, ef26, va_up_ne _ _ h2, ef22, va_up_ne _ _ h1, ef18, va_up_ne _ _ h2, ef14, va_up_ne _ _ h1, ef10, va_up_ne _ _ h2, ef6, va_up_ne _ _ h1, ef2, va_up_ne _ _ h2]⟩
set_option maxHeartbeats 4000000 in
set_option maxRecDepth 100000 in
theorem k_append4 (l : Launch) (E : gE) (L : List Nat) (f : gF) {xt xb : Nat} {v : Nat → Int32} (mt : xt ∈ L) (ft : f xt = .inr (8, [.ref xb, .int (4 : Int32)])) (mb : xb ∈ L) (fb : f xb = .inl (E.2.2 0, 800, .inl v)) (p0 : Int32) : gMv l E yX8_append cX8_append 3 (gRm 1 0 0) [.ref xt, .int p0] L f (fun L1 f1 => L = L1 ∧ f1 xt = .inr (8, [.ref xb, .int (8 : Int32)]) ∧ (∃ z, f1 xb = .inl (E.2.2 0, 800, .inl z)) ∧ ∀ b, b ≠ xt → b ≠ xb → f1 b = f b) := by
  refine gMv.intro (by decide) (Nat.le_of_ble_eq_true rfl) ?_
  intro p e s m below meth c A ls C hr hnm hA hH hl
  have C : gC E cX8_append 3 RX8 p s m _ meth c := C
  have hl : lv_has ls 3 [(0, .ref xt), (1, .int p0)] := hl
  have hx := C.1
  have hb := C.2.1
  refine lv_bipush (v := (24 : Int32)) hx hb dX8_append_0 (by decide) ?_
  refine lv_istore_n (lv' := [(2, .int (24 : Int32)), (0, .ref xt), (1, .int p0)]) hx hb dX8_append_2 rfl hl (by decide) rfl (fun ls hl => ?_)
  refine lv_iload_n hx hb dX8_append_3 rfl (lv_at hl 0 rfl) ?_
  refine lv_if_lt (tgt := 46) hx hb dX8_append_4 (by decide) (fun h => absurd h (by decide)) (fun _ => ?_)
  refine lv_aload_n hx hb dX8_append_7 rfl (lv_at hl 1 rfl) ?_
  refine g_get C hH mt ft iX8 rfl 1 (by decide) wd52 rfl rfl dX8_append_8 ?_
  refine lv_sipush (v := (800 : Int32)) hx hb dX8_append_11 (by decide) ?_
  refine lv_icmp_ge (tgt := 46) hx hb dX8_append_14 (by decide) (fun h => absurd h (by decide)) (fun _ => ?_)
  refine lv_aload_n hx hb dX8_append_17 rfl (lv_at hl 1 rfl) ?_
  refine g_get C hH mt ft iX8 rfl 0 (by decide) wd53 rfl rfl dX8_append_18 ?_
  refine lv_aload_n hx hb dX8_append_21 rfl (lv_at hl 1 rfl) ?_
  refine g_get C hH mt ft iX8 rfl 1 (by decide) wd52 rfl rfl dX8_append_22 ?_
  refine lv_iload_n hx hb dX8_append_25 rfl (lv_at hl 2 rfl) ?_
  refine lv_iload_n hx hb dX8_append_26 rfl (lv_at hl 0 rfl) ?_
  refine lv_ishr hx hb dX8_append_27 ?_
  refine lv_topi (fun z1 ez1 => ?_)
  refine lv_i2b (v := (z1).toInt8.toInt32) hx hb dX8_append_28 rfl ?_
  refine g_bast C hH mb fb (vp_inL (by decide)) dX8_append_29 (fun H locs hH => ?_)
  obtain ⟨f2, ef2⟩ : ∃ z : gF, z = va_up f xb (.inl (E.2.2 0, 800, .inl (upd v ((4 : Int32)).toNatClampNeg (vp_nar .byte ((z1).toInt8.toInt32))))) := ⟨_, rfl⟩
  have hH : gH E A L f2 s.heap H locs := by rw [ef2]; exact hH
  have h3 : f2 xb = .inl (E.2.2 0, 800, .inl (upd v ((4 : Int32)).toNatClampNeg (vp_nar .byte ((z1).toInt8.toInt32)))) := (congrFun ef2 xb).trans (va_up_self _ _ _)
  refine lv_aload_n hx hb dX8_append_30 rfl (lv_at hl 1 rfl) ?_
  refine lv_dup hx hb dX8_append_31 rfl ?_
  have h4 : f2 xt = .inr (8, [.ref xb, .int (4 : Int32)]) := ((congrFun ef2 xt).trans (va_up_ne _ _ (g_neOA ft fb))).trans ft
  refine g_get C hH mt h4 iX8 rfl 1 (by decide) wd52 rfl rfl dX8_append_32 ?_
  refine lv_iconst (v := (1 : Int32)) hx hb dX8_append_35 (by decide) ?_
  refine lv_iadd hx hb dX8_append_36 ?_
  refine lv_topi (fun z5 ez5 => ?_)
  obtain rfl : z5 = (5 : Int32) := ez5.trans (by decide)
  refine g_put C hH mt h4 iX8 tyX8 tyX8_ok nmX8 rfl 1 (by decide) wd52 rfl rfl rfl rfl (Nat.le_of_ble_eq_true rfl) (fs' := [.ref xb, .int (5 : Int32)]) rfl dX8_append_37 (fun H locs hH => ?_)
  obtain ⟨f6, ef6⟩ : ∃ z : gF, z = va_up f2 xt (.inr (8, [.ref xb, .int (5 : Int32)])) := ⟨_, rfl⟩
  have hH : gH E A L f6 s.heap H locs := by rw [ef6]; exact hH
  have h7 : f6 xt = .inr (8, [.ref xb, .int (5 : Int32)]) := (congrFun ef6 xt).trans (va_up_self _ _ _)
  refine lv_iinc (v := (16 : Int32)) (lv' := [(2, .int (16 : Int32)), (0, .ref xt), (1, .int p0)]) hx hb dX8_append_40 hl (k := 0) rfl (by decide) (by decide) rfl (fun ls hl => ?_)
  refine lv_goto (tgt := 3) hx hb dX8_append_43 (by decide) ?_
  refine lv_iload_n hx hb dX8_append_3 rfl (lv_at hl 0 rfl) ?_
  refine lv_if_lt (tgt := 46) hx hb dX8_append_4 (by decide) (fun h => absurd h (by decide)) (fun _ => ?_)
  refine lv_aload_n hx hb dX8_append_7 rfl (lv_at hl 1 rfl) ?_
  refine g_get C hH mt h7 iX8 rfl 1 (by decide) wd52 rfl rfl dX8_append_8 ?_
  refine lv_sipush (v := (800 : Int32)) hx hb dX8_append_11 (by decide) ?_
  refine lv_icmp_ge (tgt := 46) hx hb dX8_append_14 (by decide) (fun h => absurd h (by decide)) (fun _ => ?_)
  refine lv_aload_n hx hb dX8_append_17 rfl (lv_at hl 1 rfl) ?_
  refine g_get C hH mt h7 iX8 rfl 0 (by decide) wd53 rfl rfl dX8_append_18 ?_
  refine lv_aload_n hx hb dX8_append_21 rfl (lv_at hl 1 rfl) ?_
  refine g_get C hH mt h7 iX8 rfl 1 (by decide) wd52 rfl rfl dX8_append_22 ?_
  refine lv_iload_n hx hb dX8_append_25 rfl (lv_at hl 2 rfl) ?_
  refine lv_iload_n hx hb dX8_append_26 rfl (lv_at hl 0 rfl) ?_
  refine lv_ishr hx hb dX8_append_27 ?_
  refine lv_topi (fun z8 ez8 => ?_)
  refine lv_i2b (v := (z8).toInt8.toInt32) hx hb dX8_append_28 rfl ?_
  have h9 : f6 xb = .inl (E.2.2 0, 800, .inl (upd v ((4 : Int32)).toNatClampNeg (vp_nar .byte ((z1).toInt8.toInt32)))) := ((congrFun ef6 xb).trans (va_up_ne _ _ (g_neAO h3 h4))).trans h3
  refine g_bast C hH mb h9 (vp_inL (by decide)) dX8_append_29 (fun H locs hH => ?_)
  obtain ⟨f10, ef10⟩ : ∃ z : gF, z = va_up f6 xb (.inl (E.2.2 0, 800, .inl (upd (upd v ((4 : Int32)).toNatClampNeg (vp_nar .byte ((z1).toInt8.toInt32))) ((5 : Int32)).toNatClampNeg (vp_nar .byte ((z8).toInt8.toInt32))))) := ⟨_, rfl⟩
  have hH : gH E A L f10 s.heap H locs := by rw [ef10]; exact hH
  have h11 : f10 xb = .inl (E.2.2 0, 800, .inl (upd (upd v ((4 : Int32)).toNatClampNeg (vp_nar .byte ((z1).toInt8.toInt32))) ((5 : Int32)).toNatClampNeg (vp_nar .byte ((z8).toInt8.toInt32)))) := (congrFun ef10 xb).trans (va_up_self _ _ _)
  refine lv_aload_n hx hb dX8_append_30 rfl (lv_at hl 1 rfl) ?_
  refine lv_dup hx hb dX8_append_31 rfl ?_
  have h12 : f10 xt = .inr (8, [.ref xb, .int (5 : Int32)]) := ((congrFun ef10 xt).trans (va_up_ne _ _ (g_neOA h7 h9))).trans h7
  refine g_get C hH mt h12 iX8 rfl 1 (by decide) wd52 rfl rfl dX8_append_32 ?_
  refine lv_iconst (v := (1 : Int32)) hx hb dX8_append_35 (by decide) ?_
  refine lv_iadd hx hb dX8_append_36 ?_
  refine lv_topi (fun z13 ez13 => ?_)
  obtain rfl : z13 = (6 : Int32) := ez13.trans (by decide)
  refine g_put C hH mt h12 iX8 tyX8 tyX8_ok nmX8 rfl 1 (by decide) wd52 rfl rfl rfl rfl (Nat.le_of_ble_eq_true rfl) (fs' := [.ref xb, .int (6 : Int32)]) rfl dX8_append_37 (fun H locs hH => ?_)
  obtain ⟨f14, ef14⟩ : ∃ z : gF, z = va_up f10 xt (.inr (8, [.ref xb, .int (6 : Int32)])) := ⟨_, rfl⟩
  have hH : gH E A L f14 s.heap H locs := by rw [ef14]; exact hH
  have h15 : f14 xt = .inr (8, [.ref xb, .int (6 : Int32)]) := (congrFun ef14 xt).trans (va_up_self _ _ _)
  refine lv_iinc (v := (8 : Int32)) (lv' := [(2, .int (8 : Int32)), (0, .ref xt), (1, .int p0)]) hx hb dX8_append_40 hl (k := 0) rfl (by decide) (by decide) rfl (fun ls hl => ?_)
  refine lv_goto (tgt := 3) hx hb dX8_append_43 (by decide) ?_
  refine lv_iload_n hx hb dX8_append_3 rfl (lv_at hl 0 rfl) ?_
  refine lv_if_lt (tgt := 46) hx hb dX8_append_4 (by decide) (fun h => absurd h (by decide)) (fun _ => ?_)
  refine lv_aload_n hx hb dX8_append_7 rfl (lv_at hl 1 rfl) ?_
  refine g_get C hH mt h15 iX8 rfl 1 (by decide) wd52 rfl rfl dX8_append_8 ?_
  refine lv_sipush (v := (800 : Int32)) hx hb dX8_append_11 (by decide) ?_
  refine lv_icmp_ge (tgt := 46) hx hb dX8_append_14 (by decide) (fun h => absurd h (by decide)) (fun _ => ?_)
  refine lv_aload_n hx hb dX8_append_17 rfl (lv_at hl 1 rfl) ?_
  refine g_get C hH mt h15 iX8 rfl 0 (by decide) wd53 rfl rfl dX8_append_18 ?_
  refine lv_aload_n hx hb dX8_append_21 rfl (lv_at hl 1 rfl) ?_
  refine g_get C hH mt h15 iX8 rfl 1 (by decide) wd52 rfl rfl dX8_append_22 ?_
  refine lv_iload_n hx hb dX8_append_25 rfl (lv_at hl 2 rfl) ?_
  refine lv_iload_n hx hb dX8_append_26 rfl (lv_at hl 0 rfl) ?_
  refine lv_ishr hx hb dX8_append_27 ?_
  refine lv_topi (fun z16 ez16 => ?_)
  refine lv_i2b (v := (z16).toInt8.toInt32) hx hb dX8_append_28 rfl ?_
  have h17 : f14 xb = .inl (E.2.2 0, 800, .inl (upd (upd v ((4 : Int32)).toNatClampNeg (vp_nar .byte ((z1).toInt8.toInt32))) ((5 : Int32)).toNatClampNeg (vp_nar .byte ((z8).toInt8.toInt32)))) := ((congrFun ef14 xb).trans (va_up_ne _ _ (g_neAO h11 h12))).trans h11
  refine g_bast C hH mb h17 (vp_inL (by decide)) dX8_append_29 (fun H locs hH => ?_)
  obtain ⟨f18, ef18⟩ : ∃ z : gF, z = va_up f14 xb (.inl (E.2.2 0, 800, .inl (upd (upd (upd v ((4 : Int32)).toNatClampNeg (vp_nar .byte ((z1).toInt8.toInt32))) ((5 : Int32)).toNatClampNeg (vp_nar .byte ((z8).toInt8.toInt32))) ((6 : Int32)).toNatClampNeg (vp_nar .byte ((z16).toInt8.toInt32))))) := ⟨_, rfl⟩
  have hH : gH E A L f18 s.heap H locs := by rw [ef18]; exact hH
  have h19 : f18 xb = .inl (E.2.2 0, 800, .inl (upd (upd (upd v ((4 : Int32)).toNatClampNeg (vp_nar .byte ((z1).toInt8.toInt32))) ((5 : Int32)).toNatClampNeg (vp_nar .byte ((z8).toInt8.toInt32))) ((6 : Int32)).toNatClampNeg (vp_nar .byte ((z16).toInt8.toInt32)))) := (congrFun ef18 xb).trans (va_up_self _ _ _)
  refine lv_aload_n hx hb dX8_append_30 rfl (lv_at hl 1 rfl) ?_
  refine lv_dup hx hb dX8_append_31 rfl ?_
  have h20 : f18 xt = .inr (8, [.ref xb, .int (6 : Int32)]) := ((congrFun ef18 xt).trans (va_up_ne _ _ (g_neOA h15 h17))).trans h15
  refine g_get C hH mt h20 iX8 rfl 1 (by decide) wd52 rfl rfl dX8_append_32 ?_
  refine lv_iconst (v := (1 : Int32)) hx hb dX8_append_35 (by decide) ?_
  refine lv_iadd hx hb dX8_append_36 ?_
  refine lv_topi (fun z21 ez21 => ?_)
  obtain rfl : z21 = (7 : Int32) := ez21.trans (by decide)
  refine g_put C hH mt h20 iX8 tyX8 tyX8_ok nmX8 rfl 1 (by decide) wd52 rfl rfl rfl rfl (Nat.le_of_ble_eq_true rfl) (fs' := [.ref xb, .int (7 : Int32)]) rfl dX8_append_37 (fun H locs hH => ?_)
  obtain ⟨f22, ef22⟩ : ∃ z : gF, z = va_up f18 xt (.inr (8, [.ref xb, .int (7 : Int32)])) := ⟨_, rfl⟩
  have hH : gH E A L f22 s.heap H locs := by rw [ef22]; exact hH
  have h23 : f22 xt = .inr (8, [.ref xb, .int (7 : Int32)]) := (congrFun ef22 xt).trans (va_up_self _ _ _)
  refine lv_iinc (v := (0 : Int32)) (lv' := [(2, .int (0 : Int32)), (0, .ref xt), (1, .int p0)]) hx hb dX8_append_40 hl (k := 0) rfl (by decide) (by decide) rfl (fun ls hl => ?_)
  refine lv_goto (tgt := 3) hx hb dX8_append_43 (by decide) ?_
  refine lv_iload_n hx hb dX8_append_3 rfl (lv_at hl 0 rfl) ?_
  refine lv_if_lt (tgt := 46) hx hb dX8_append_4 (by decide) (fun h => absurd h (by decide)) (fun _ => ?_)
  refine lv_aload_n hx hb dX8_append_7 rfl (lv_at hl 1 rfl) ?_
  refine g_get C hH mt h23 iX8 rfl 1 (by decide) wd52 rfl rfl dX8_append_8 ?_
  refine lv_sipush (v := (800 : Int32)) hx hb dX8_append_11 (by decide) ?_
  refine lv_icmp_ge (tgt := 46) hx hb dX8_append_14 (by decide) (fun h => absurd h (by decide)) (fun _ => ?_)
  refine lv_aload_n hx hb dX8_append_17 rfl (lv_at hl 1 rfl) ?_
  refine g_get C hH mt h23 iX8 rfl 0 (by decide) wd53 rfl rfl dX8_append_18 ?_
  refine lv_aload_n hx hb dX8_append_21 rfl (lv_at hl 1 rfl) ?_
  refine g_get C hH mt h23 iX8 rfl 1 (by decide) wd52 rfl rfl dX8_append_22 ?_
  refine lv_iload_n hx hb dX8_append_25 rfl (lv_at hl 2 rfl) ?_
  refine lv_iload_n hx hb dX8_append_26 rfl (lv_at hl 0 rfl) ?_
  refine lv_ishr hx hb dX8_append_27 ?_
  refine lv_topi (fun z24 ez24 => ?_)
  refine lv_i2b (v := (z24).toInt8.toInt32) hx hb dX8_append_28 rfl ?_
  have h25 : f22 xb = .inl (E.2.2 0, 800, .inl (upd (upd (upd v ((4 : Int32)).toNatClampNeg (vp_nar .byte ((z1).toInt8.toInt32))) ((5 : Int32)).toNatClampNeg (vp_nar .byte ((z8).toInt8.toInt32))) ((6 : Int32)).toNatClampNeg (vp_nar .byte ((z16).toInt8.toInt32)))) := ((congrFun ef22 xb).trans (va_up_ne _ _ (g_neAO h19 h20))).trans h19
  refine g_bast C hH mb h25 (vp_inL (by decide)) dX8_append_29 (fun H locs hH => ?_)
  obtain ⟨f26, ef26⟩ : ∃ z : gF, z = va_up f22 xb (.inl (E.2.2 0, 800, .inl (upd (upd (upd (upd v ((4 : Int32)).toNatClampNeg (vp_nar .byte ((z1).toInt8.toInt32))) ((5 : Int32)).toNatClampNeg (vp_nar .byte ((z8).toInt8.toInt32))) ((6 : Int32)).toNatClampNeg (vp_nar .byte ((z16).toInt8.toInt32))) ((7 : Int32)).toNatClampNeg (vp_nar .byte ((z24).toInt8.toInt32))))) := ⟨_, rfl⟩
  have hH : gH E A L f26 s.heap H locs := by rw [ef26]; exact hH
  have h27 : f26 xb = .inl (E.2.2 0, 800, .inl (upd (upd (upd (upd v ((4 : Int32)).toNatClampNeg (vp_nar .byte ((z1).toInt8.toInt32))) ((5 : Int32)).toNatClampNeg (vp_nar .byte ((z8).toInt8.toInt32))) ((6 : Int32)).toNatClampNeg (vp_nar .byte ((z16).toInt8.toInt32))) ((7 : Int32)).toNatClampNeg (vp_nar .byte ((z24).toInt8.toInt32)))) := (congrFun ef26 xb).trans (va_up_self _ _ _)
  refine lv_aload_n hx hb dX8_append_30 rfl (lv_at hl 1 rfl) ?_
  refine lv_dup hx hb dX8_append_31 rfl ?_
  have h28 : f26 xt = .inr (8, [.ref xb, .int (7 : Int32)]) := ((congrFun ef26 xt).trans (va_up_ne _ _ (g_neOA h23 h25))).trans h23
  refine g_get C hH mt h28 iX8 rfl 1 (by decide) wd52 rfl rfl dX8_append_32 ?_
  refine lv_iconst (v := (1 : Int32)) hx hb dX8_append_35 (by decide) ?_
  refine lv_iadd hx hb dX8_append_36 ?_
  refine lv_topi (fun z29 ez29 => ?_)
  obtain rfl : z29 = (8 : Int32) := ez29.trans (by decide)
  refine g_put C hH mt h28 iX8 tyX8 tyX8_ok nmX8 rfl 1 (by decide) wd52 rfl rfl rfl rfl (Nat.le_of_ble_eq_true rfl) (fs' := [.ref xb, .int (8 : Int32)]) rfl dX8_append_37 (fun H locs hH => ?_)
  obtain ⟨f30, ef30⟩ : ∃ z : gF, z = va_up f26 xt (.inr (8, [.ref xb, .int (8 : Int32)])) := ⟨_, rfl⟩
  have hH : gH E A L f30 s.heap H locs := by rw [ef30]; exact hH
  have h31 : f30 xt = .inr (8, [.ref xb, .int (8 : Int32)]) := (congrFun ef30 xt).trans (va_up_self _ _ _)
  refine lv_iinc (v := (-8 : Int32)) (lv' := [(2, .int (-8 : Int32)), (0, .ref xt), (1, .int p0)]) hx hb dX8_append_40 hl (k := 0) rfl (by decide) (by decide) rfl (fun ls hl => ?_)
  refine lv_goto (tgt := 3) hx hb dX8_append_43 (by decide) ?_
  refine lv_iload_n hx hb dX8_append_3 rfl (lv_at hl 0 rfl) ?_
  refine lv_if_lt (tgt := 46) hx hb dX8_append_4 (by decide) (fun _ => ?_) (fun h => absurd (by decide) h)
  refine g_vret C hr hH (Nat.le_of_ble_eq_true rfl) (Nat.le_of_ble_eq_true rfl) dX8_append_46 ?_
  have h32 : f30 xb = .inl (E.2.2 0, 800, .inl (upd (upd (upd (upd v ((4 : Int32)).toNatClampNeg (vp_nar .byte ((z1).toInt8.toInt32))) ((5 : Int32)).toNatClampNeg (vp_nar .byte ((z8).toInt8.toInt32))) ((6 : Int32)).toNatClampNeg (vp_nar .byte ((z16).toInt8.toInt32))) ((7 : Int32)).toNatClampNeg (vp_nar .byte ((z24).toInt8.toInt32)))) := ((congrFun ef30 xb).trans (va_up_ne _ _ (g_neAO h27 h28))).trans h27
  exact ⟨rfl, h31, ⟨_, h32⟩, fun b h1 h2 => by rw [ef30, va_up_ne _ _ h1, ef26, va_up_ne _ _ h2, ef22, va_up_ne _ _ h1, ef18, va_up_ne _ _ h2, ef14, va_up_ne _ _ h1, ef10, va_up_ne _ _ h2, ef6, va_up_ne _ _ h1, ef2, va_up_ne _ _ h2]⟩
set_option maxHeartbeats 4000000 in
set_option maxRecDepth 100000 in
theorem k_append8 (l : Launch) (E : gE) (L : List Nat) (f : gF) {xt xb : Nat} {v : Nat → Int32} (mt : xt ∈ L) (ft : f xt = .inr (8, [.ref xb, .int (8 : Int32)])) (mb : xb ∈ L) (fb : f xb = .inl (E.2.2 0, 800, .inl v)) (p0 : Int32) : gMv l E yX8_append cX8_append 3 (gRm 1 0 0) [.ref xt, .int p0] L f (fun L1 f1 => L = L1 ∧ f1 xt = .inr (8, [.ref xb, .int (12 : Int32)]) ∧ (∃ z, f1 xb = .inl (E.2.2 0, 800, .inl z)) ∧ ∀ b, b ≠ xt → b ≠ xb → f1 b = f b) := by
  refine gMv.intro (by decide) (Nat.le_of_ble_eq_true rfl) ?_
  intro p e s m below meth c A ls C hr hnm hA hH hl
  have C : gC E cX8_append 3 RX8 p s m _ meth c := C
  have hl : lv_has ls 3 [(0, .ref xt), (1, .int p0)] := hl
  have hx := C.1
  have hb := C.2.1
  refine lv_bipush (v := (24 : Int32)) hx hb dX8_append_0 (by decide) ?_
  refine lv_istore_n (lv' := [(2, .int (24 : Int32)), (0, .ref xt), (1, .int p0)]) hx hb dX8_append_2 rfl hl (by decide) rfl (fun ls hl => ?_)
  refine lv_iload_n hx hb dX8_append_3 rfl (lv_at hl 0 rfl) ?_
  refine lv_if_lt (tgt := 46) hx hb dX8_append_4 (by decide) (fun h => absurd h (by decide)) (fun _ => ?_)
  refine lv_aload_n hx hb dX8_append_7 rfl (lv_at hl 1 rfl) ?_
  refine g_get C hH mt ft iX8 rfl 1 (by decide) wd52 rfl rfl dX8_append_8 ?_
  refine lv_sipush (v := (800 : Int32)) hx hb dX8_append_11 (by decide) ?_
  refine lv_icmp_ge (tgt := 46) hx hb dX8_append_14 (by decide) (fun h => absurd h (by decide)) (fun _ => ?_)
  refine lv_aload_n hx hb dX8_append_17 rfl (lv_at hl 1 rfl) ?_
  refine g_get C hH mt ft iX8 rfl 0 (by decide) wd53 rfl rfl dX8_append_18 ?_
  refine lv_aload_n hx hb dX8_append_21 rfl (lv_at hl 1 rfl) ?_
  refine g_get C hH mt ft iX8 rfl 1 (by decide) wd52 rfl rfl dX8_append_22 ?_
  refine lv_iload_n hx hb dX8_append_25 rfl (lv_at hl 2 rfl) ?_
  refine lv_iload_n hx hb dX8_append_26 rfl (lv_at hl 0 rfl) ?_
  refine lv_ishr hx hb dX8_append_27 ?_
  refine lv_topi (fun z1 ez1 => ?_)
  refine lv_i2b (v := (z1).toInt8.toInt32) hx hb dX8_append_28 rfl ?_
  refine g_bast C hH mb fb (vp_inL (by decide)) dX8_append_29 (fun H locs hH => ?_)
  obtain ⟨f2, ef2⟩ : ∃ z : gF, z = va_up f xb (.inl (E.2.2 0, 800, .inl (upd v ((8 : Int32)).toNatClampNeg (vp_nar .byte ((z1).toInt8.toInt32))))) := ⟨_, rfl⟩
  have hH : gH E A L f2 s.heap H locs := by rw [ef2]; exact hH
  have h3 : f2 xb = .inl (E.2.2 0, 800, .inl (upd v ((8 : Int32)).toNatClampNeg (vp_nar .byte ((z1).toInt8.toInt32)))) := (congrFun ef2 xb).trans (va_up_self _ _ _)
  refine lv_aload_n hx hb dX8_append_30 rfl (lv_at hl 1 rfl) ?_
  refine lv_dup hx hb dX8_append_31 rfl ?_
  have h4 : f2 xt = .inr (8, [.ref xb, .int (8 : Int32)]) := ((congrFun ef2 xt).trans (va_up_ne _ _ (g_neOA ft fb))).trans ft
  refine g_get C hH mt h4 iX8 rfl 1 (by decide) wd52 rfl rfl dX8_append_32 ?_
  refine lv_iconst (v := (1 : Int32)) hx hb dX8_append_35 (by decide) ?_
  refine lv_iadd hx hb dX8_append_36 ?_
  refine lv_topi (fun z5 ez5 => ?_)
  obtain rfl : z5 = (9 : Int32) := ez5.trans (by decide)
  refine g_put C hH mt h4 iX8 tyX8 tyX8_ok nmX8 rfl 1 (by decide) wd52 rfl rfl rfl rfl (Nat.le_of_ble_eq_true rfl) (fs' := [.ref xb, .int (9 : Int32)]) rfl dX8_append_37 (fun H locs hH => ?_)
  obtain ⟨f6, ef6⟩ : ∃ z : gF, z = va_up f2 xt (.inr (8, [.ref xb, .int (9 : Int32)])) := ⟨_, rfl⟩
  have hH : gH E A L f6 s.heap H locs := by rw [ef6]; exact hH
  have h7 : f6 xt = .inr (8, [.ref xb, .int (9 : Int32)]) := (congrFun ef6 xt).trans (va_up_self _ _ _)
  refine lv_iinc (v := (16 : Int32)) (lv' := [(2, .int (16 : Int32)), (0, .ref xt), (1, .int p0)]) hx hb dX8_append_40 hl (k := 0) rfl (by decide) (by decide) rfl (fun ls hl => ?_)
  refine lv_goto (tgt := 3) hx hb dX8_append_43 (by decide) ?_
  refine lv_iload_n hx hb dX8_append_3 rfl (lv_at hl 0 rfl) ?_
  refine lv_if_lt (tgt := 46) hx hb dX8_append_4 (by decide) (fun h => absurd h (by decide)) (fun _ => ?_)
  refine lv_aload_n hx hb dX8_append_7 rfl (lv_at hl 1 rfl) ?_
  refine g_get C hH mt h7 iX8 rfl 1 (by decide) wd52 rfl rfl dX8_append_8 ?_
  refine lv_sipush (v := (800 : Int32)) hx hb dX8_append_11 (by decide) ?_
  refine lv_icmp_ge (tgt := 46) hx hb dX8_append_14 (by decide) (fun h => absurd h (by decide)) (fun _ => ?_)
  refine lv_aload_n hx hb dX8_append_17 rfl (lv_at hl 1 rfl) ?_
  refine g_get C hH mt h7 iX8 rfl 0 (by decide) wd53 rfl rfl dX8_append_18 ?_
  refine lv_aload_n hx hb dX8_append_21 rfl (lv_at hl 1 rfl) ?_
  refine g_get C hH mt h7 iX8 rfl 1 (by decide) wd52 rfl rfl dX8_append_22 ?_
  refine lv_iload_n hx hb dX8_append_25 rfl (lv_at hl 2 rfl) ?_
  refine lv_iload_n hx hb dX8_append_26 rfl (lv_at hl 0 rfl) ?_
  refine lv_ishr hx hb dX8_append_27 ?_
  refine lv_topi (fun z8 ez8 => ?_)
  refine lv_i2b (v := (z8).toInt8.toInt32) hx hb dX8_append_28 rfl ?_
  have h9 : f6 xb = .inl (E.2.2 0, 800, .inl (upd v ((8 : Int32)).toNatClampNeg (vp_nar .byte ((z1).toInt8.toInt32)))) := ((congrFun ef6 xb).trans (va_up_ne _ _ (g_neAO h3 h4))).trans h3
  refine g_bast C hH mb h9 (vp_inL (by decide)) dX8_append_29 (fun H locs hH => ?_)
  obtain ⟨f10, ef10⟩ : ∃ z : gF, z = va_up f6 xb (.inl (E.2.2 0, 800, .inl (upd (upd v ((8 : Int32)).toNatClampNeg (vp_nar .byte ((z1).toInt8.toInt32))) ((9 : Int32)).toNatClampNeg (vp_nar .byte ((z8).toInt8.toInt32))))) := ⟨_, rfl⟩
  have hH : gH E A L f10 s.heap H locs := by rw [ef10]; exact hH
  have h11 : f10 xb = .inl (E.2.2 0, 800, .inl (upd (upd v ((8 : Int32)).toNatClampNeg (vp_nar .byte ((z1).toInt8.toInt32))) ((9 : Int32)).toNatClampNeg (vp_nar .byte ((z8).toInt8.toInt32)))) := (congrFun ef10 xb).trans (va_up_self _ _ _)
  refine lv_aload_n hx hb dX8_append_30 rfl (lv_at hl 1 rfl) ?_
  refine lv_dup hx hb dX8_append_31 rfl ?_
  have h12 : f10 xt = .inr (8, [.ref xb, .int (9 : Int32)]) := ((congrFun ef10 xt).trans (va_up_ne _ _ (g_neOA h7 h9))).trans h7
  refine g_get C hH mt h12 iX8 rfl 1 (by decide) wd52 rfl rfl dX8_append_32 ?_
  refine lv_iconst (v := (1 : Int32)) hx hb dX8_append_35 (by decide) ?_
  refine lv_iadd hx hb dX8_append_36 ?_
  refine lv_topi (fun z13 ez13 => ?_)
  obtain rfl : z13 = (10 : Int32) := ez13.trans (by decide)
  refine g_put C hH mt h12 iX8 tyX8 tyX8_ok nmX8 rfl 1 (by decide) wd52 rfl rfl rfl rfl (Nat.le_of_ble_eq_true rfl) (fs' := [.ref xb, .int (10 : Int32)]) rfl dX8_append_37 (fun H locs hH => ?_)
  obtain ⟨f14, ef14⟩ : ∃ z : gF, z = va_up f10 xt (.inr (8, [.ref xb, .int (10 : Int32)])) := ⟨_, rfl⟩
  have hH : gH E A L f14 s.heap H locs := by rw [ef14]; exact hH
  have h15 : f14 xt = .inr (8, [.ref xb, .int (10 : Int32)]) := (congrFun ef14 xt).trans (va_up_self _ _ _)
  refine lv_iinc (v := (8 : Int32)) (lv' := [(2, .int (8 : Int32)), (0, .ref xt), (1, .int p0)]) hx hb dX8_append_40 hl (k := 0) rfl (by decide) (by decide) rfl (fun ls hl => ?_)
  refine lv_goto (tgt := 3) hx hb dX8_append_43 (by decide) ?_
  refine lv_iload_n hx hb dX8_append_3 rfl (lv_at hl 0 rfl) ?_
  refine lv_if_lt (tgt := 46) hx hb dX8_append_4 (by decide) (fun h => absurd h (by decide)) (fun _ => ?_)
  refine lv_aload_n hx hb dX8_append_7 rfl (lv_at hl 1 rfl) ?_
  refine g_get C hH mt h15 iX8 rfl 1 (by decide) wd52 rfl rfl dX8_append_8 ?_
  refine lv_sipush (v := (800 : Int32)) hx hb dX8_append_11 (by decide) ?_
  refine lv_icmp_ge (tgt := 46) hx hb dX8_append_14 (by decide) (fun h => absurd h (by decide)) (fun _ => ?_)
  refine lv_aload_n hx hb dX8_append_17 rfl (lv_at hl 1 rfl) ?_
  refine g_get C hH mt h15 iX8 rfl 0 (by decide) wd53 rfl rfl dX8_append_18 ?_
  refine lv_aload_n hx hb dX8_append_21 rfl (lv_at hl 1 rfl) ?_
  refine g_get C hH mt h15 iX8 rfl 1 (by decide) wd52 rfl rfl dX8_append_22 ?_
  refine lv_iload_n hx hb dX8_append_25 rfl (lv_at hl 2 rfl) ?_
  refine lv_iload_n hx hb dX8_append_26 rfl (lv_at hl 0 rfl) ?_
  refine lv_ishr hx hb dX8_append_27 ?_
  refine lv_topi (fun z16 ez16 => ?_)
  refine lv_i2b (v := (z16).toInt8.toInt32) hx hb dX8_append_28 rfl ?_
  have h17 : f14 xb = .inl (E.2.2 0, 800, .inl (upd (upd v ((8 : Int32)).toNatClampNeg (vp_nar .byte ((z1).toInt8.toInt32))) ((9 : Int32)).toNatClampNeg (vp_nar .byte ((z8).toInt8.toInt32)))) := ((congrFun ef14 xb).trans (va_up_ne _ _ (g_neAO h11 h12))).trans h11
  refine g_bast C hH mb h17 (vp_inL (by decide)) dX8_append_29 (fun H locs hH => ?_)
  obtain ⟨f18, ef18⟩ : ∃ z : gF, z = va_up f14 xb (.inl (E.2.2 0, 800, .inl (upd (upd (upd v ((8 : Int32)).toNatClampNeg (vp_nar .byte ((z1).toInt8.toInt32))) ((9 : Int32)).toNatClampNeg (vp_nar .byte ((z8).toInt8.toInt32))) ((10 : Int32)).toNatClampNeg (vp_nar .byte ((z16).toInt8.toInt32))))) := ⟨_, rfl⟩
  have hH : gH E A L f18 s.heap H locs := by rw [ef18]; exact hH
  have h19 : f18 xb = .inl (E.2.2 0, 800, .inl (upd (upd (upd v ((8 : Int32)).toNatClampNeg (vp_nar .byte ((z1).toInt8.toInt32))) ((9 : Int32)).toNatClampNeg (vp_nar .byte ((z8).toInt8.toInt32))) ((10 : Int32)).toNatClampNeg (vp_nar .byte ((z16).toInt8.toInt32)))) := (congrFun ef18 xb).trans (va_up_self _ _ _)
  refine lv_aload_n hx hb dX8_append_30 rfl (lv_at hl 1 rfl) ?_
  refine lv_dup hx hb dX8_append_31 rfl ?_
  have h20 : f18 xt = .inr (8, [.ref xb, .int (10 : Int32)]) := ((congrFun ef18 xt).trans (va_up_ne _ _ (g_neOA h15 h17))).trans h15
  refine g_get C hH mt h20 iX8 rfl 1 (by decide) wd52 rfl rfl dX8_append_32 ?_
  refine lv_iconst (v := (1 : Int32)) hx hb dX8_append_35 (by decide) ?_
  refine lv_iadd hx hb dX8_append_36 ?_
  refine lv_topi (fun z21 ez21 => ?_)
  obtain rfl : z21 = (11 : Int32) := ez21.trans (by decide)
  refine g_put C hH mt h20 iX8 tyX8 tyX8_ok nmX8 rfl 1 (by decide) wd52 rfl rfl rfl rfl (Nat.le_of_ble_eq_true rfl) (fs' := [.ref xb, .int (11 : Int32)]) rfl dX8_append_37 (fun H locs hH => ?_)
  obtain ⟨f22, ef22⟩ : ∃ z : gF, z = va_up f18 xt (.inr (8, [.ref xb, .int (11 : Int32)])) := ⟨_, rfl⟩
  have hH : gH E A L f22 s.heap H locs := by rw [ef22]; exact hH
  have h23 : f22 xt = .inr (8, [.ref xb, .int (11 : Int32)]) := (congrFun ef22 xt).trans (va_up_self _ _ _)
  refine lv_iinc (v := (0 : Int32)) (lv' := [(2, .int (0 : Int32)), (0, .ref xt), (1, .int p0)]) hx hb dX8_append_40 hl (k := 0) rfl (by decide) (by decide) rfl (fun ls hl => ?_)
  refine lv_goto (tgt := 3) hx hb dX8_append_43 (by decide) ?_
  refine lv_iload_n hx hb dX8_append_3 rfl (lv_at hl 0 rfl) ?_
  refine lv_if_lt (tgt := 46) hx hb dX8_append_4 (by decide) (fun h => absurd h (by decide)) (fun _ => ?_)
  refine lv_aload_n hx hb dX8_append_7 rfl (lv_at hl 1 rfl) ?_
  refine g_get C hH mt h23 iX8 rfl 1 (by decide) wd52 rfl rfl dX8_append_8 ?_
  refine lv_sipush (v := (800 : Int32)) hx hb dX8_append_11 (by decide) ?_
  refine lv_icmp_ge (tgt := 46) hx hb dX8_append_14 (by decide) (fun h => absurd h (by decide)) (fun _ => ?_)
  refine lv_aload_n hx hb dX8_append_17 rfl (lv_at hl 1 rfl) ?_
  refine g_get C hH mt h23 iX8 rfl 0 (by decide) wd53 rfl rfl dX8_append_18 ?_
  refine lv_aload_n hx hb dX8_append_21 rfl (lv_at hl 1 rfl) ?_
  refine g_get C hH mt h23 iX8 rfl 1 (by decide) wd52 rfl rfl dX8_append_22 ?_
  refine lv_iload_n hx hb dX8_append_25 rfl (lv_at hl 2 rfl) ?_
  refine lv_iload_n hx hb dX8_append_26 rfl (lv_at hl 0 rfl) ?_
  refine lv_ishr hx hb dX8_append_27 ?_
  refine lv_topi (fun z24 ez24 => ?_)
  refine lv_i2b (v := (z24).toInt8.toInt32) hx hb dX8_append_28 rfl ?_
  have h25 : f22 xb = .inl (E.2.2 0, 800, .inl (upd (upd (upd v ((8 : Int32)).toNatClampNeg (vp_nar .byte ((z1).toInt8.toInt32))) ((9 : Int32)).toNatClampNeg (vp_nar .byte ((z8).toInt8.toInt32))) ((10 : Int32)).toNatClampNeg (vp_nar .byte ((z16).toInt8.toInt32)))) := ((congrFun ef22 xb).trans (va_up_ne _ _ (g_neAO h19 h20))).trans h19
  refine g_bast C hH mb h25 (vp_inL (by decide)) dX8_append_29 (fun H locs hH => ?_)
  obtain ⟨f26, ef26⟩ : ∃ z : gF, z = va_up f22 xb (.inl (E.2.2 0, 800, .inl (upd (upd (upd (upd v ((8 : Int32)).toNatClampNeg (vp_nar .byte ((z1).toInt8.toInt32))) ((9 : Int32)).toNatClampNeg (vp_nar .byte ((z8).toInt8.toInt32))) ((10 : Int32)).toNatClampNeg (vp_nar .byte ((z16).toInt8.toInt32))) ((11 : Int32)).toNatClampNeg (vp_nar .byte ((z24).toInt8.toInt32))))) := ⟨_, rfl⟩
  have hH : gH E A L f26 s.heap H locs := by rw [ef26]; exact hH
  have h27 : f26 xb = .inl (E.2.2 0, 800, .inl (upd (upd (upd (upd v ((8 : Int32)).toNatClampNeg (vp_nar .byte ((z1).toInt8.toInt32))) ((9 : Int32)).toNatClampNeg (vp_nar .byte ((z8).toInt8.toInt32))) ((10 : Int32)).toNatClampNeg (vp_nar .byte ((z16).toInt8.toInt32))) ((11 : Int32)).toNatClampNeg (vp_nar .byte ((z24).toInt8.toInt32)))) := (congrFun ef26 xb).trans (va_up_self _ _ _)
  refine lv_aload_n hx hb dX8_append_30 rfl (lv_at hl 1 rfl) ?_
  refine lv_dup hx hb dX8_append_31 rfl ?_
  have h28 : f26 xt = .inr (8, [.ref xb, .int (11 : Int32)]) := ((congrFun ef26 xt).trans (va_up_ne _ _ (g_neOA h23 h25))).trans h23
  refine g_get C hH mt h28 iX8 rfl 1 (by decide) wd52 rfl rfl dX8_append_32 ?_
  refine lv_iconst (v := (1 : Int32)) hx hb dX8_append_35 (by decide) ?_
  refine lv_iadd hx hb dX8_append_36 ?_
  refine lv_topi (fun z29 ez29 => ?_)
  obtain rfl : z29 = (12 : Int32) := ez29.trans (by decide)
  refine g_put C hH mt h28 iX8 tyX8 tyX8_ok nmX8 rfl 1 (by decide) wd52 rfl rfl rfl rfl (Nat.le_of_ble_eq_true rfl) (fs' := [.ref xb, .int (12 : Int32)]) rfl dX8_append_37 (fun H locs hH => ?_)
  obtain ⟨f30, ef30⟩ : ∃ z : gF, z = va_up f26 xt (.inr (8, [.ref xb, .int (12 : Int32)])) := ⟨_, rfl⟩
  have hH : gH E A L f30 s.heap H locs := by rw [ef30]; exact hH
  have h31 : f30 xt = .inr (8, [.ref xb, .int (12 : Int32)]) := (congrFun ef30 xt).trans (va_up_self _ _ _)
  refine lv_iinc (v := (-8 : Int32)) (lv' := [(2, .int (-8 : Int32)), (0, .ref xt), (1, .int p0)]) hx hb dX8_append_40 hl (k := 0) rfl (by decide) (by decide) rfl (fun ls hl => ?_)
  refine lv_goto (tgt := 3) hx hb dX8_append_43 (by decide) ?_
  refine lv_iload_n hx hb dX8_append_3 rfl (lv_at hl 0 rfl) ?_
  refine lv_if_lt (tgt := 46) hx hb dX8_append_4 (by decide) (fun _ => ?_) (fun h => absurd (by decide) h)
  refine g_vret C hr hH (Nat.le_of_ble_eq_true rfl) (Nat.le_of_ble_eq_true rfl) dX8_append_46 ?_
  have h32 : f30 xb = .inl (E.2.2 0, 800, .inl (upd (upd (upd (upd v ((8 : Int32)).toNatClampNeg (vp_nar .byte ((z1).toInt8.toInt32))) ((9 : Int32)).toNatClampNeg (vp_nar .byte ((z8).toInt8.toInt32))) ((10 : Int32)).toNatClampNeg (vp_nar .byte ((z16).toInt8.toInt32))) ((11 : Int32)).toNatClampNeg (vp_nar .byte ((z24).toInt8.toInt32)))) := ((congrFun ef30 xb).trans (va_up_ne _ _ (g_neAO h27 h28))).trans h27
  exact ⟨rfl, h31, ⟨_, h32⟩, fun b h1 h2 => by rw [ef30, va_up_ne _ _ h1, ef26, va_up_ne _ _ h2, ef22, va_up_ne _ _ h1, ef18, va_up_ne _ _ h2, ef14, va_up_ne _ _ h1, ef10, va_up_ne _ _ h2, ef6, va_up_ne _ _ h1, ef2, va_up_ne _ _ h2]⟩
set_option maxHeartbeats 4000000 in
set_option maxRecDepth 100000 in
theorem k_append12 (l : Launch) (E : gE) (L : List Nat) (f : gF) {xt xb : Nat} {v : Nat → Int32} (mt : xt ∈ L) (ft : f xt = .inr (8, [.ref xb, .int (12 : Int32)])) (mb : xb ∈ L) (fb : f xb = .inl (E.2.2 0, 800, .inl v)) (p0 : Int32) : gMv l E yX8_append cX8_append 3 (gRm 1 0 0) [.ref xt, .int p0] L f (fun L1 f1 => L = L1 ∧ f1 xt = .inr (8, [.ref xb, .int (16 : Int32)]) ∧ (∃ z, f1 xb = .inl (E.2.2 0, 800, .inl z)) ∧ ∀ b, b ≠ xt → b ≠ xb → f1 b = f b) := by
  refine gMv.intro (by decide) (Nat.le_of_ble_eq_true rfl) ?_
  intro p e s m below meth c A ls C hr hnm hA hH hl
  have C : gC E cX8_append 3 RX8 p s m _ meth c := C
  have hl : lv_has ls 3 [(0, .ref xt), (1, .int p0)] := hl
  have hx := C.1
  have hb := C.2.1
  refine lv_bipush (v := (24 : Int32)) hx hb dX8_append_0 (by decide) ?_
  refine lv_istore_n (lv' := [(2, .int (24 : Int32)), (0, .ref xt), (1, .int p0)]) hx hb dX8_append_2 rfl hl (by decide) rfl (fun ls hl => ?_)
  refine lv_iload_n hx hb dX8_append_3 rfl (lv_at hl 0 rfl) ?_
  refine lv_if_lt (tgt := 46) hx hb dX8_append_4 (by decide) (fun h => absurd h (by decide)) (fun _ => ?_)
  refine lv_aload_n hx hb dX8_append_7 rfl (lv_at hl 1 rfl) ?_
  refine g_get C hH mt ft iX8 rfl 1 (by decide) wd52 rfl rfl dX8_append_8 ?_
  refine lv_sipush (v := (800 : Int32)) hx hb dX8_append_11 (by decide) ?_
  refine lv_icmp_ge (tgt := 46) hx hb dX8_append_14 (by decide) (fun h => absurd h (by decide)) (fun _ => ?_)
  refine lv_aload_n hx hb dX8_append_17 rfl (lv_at hl 1 rfl) ?_
  refine g_get C hH mt ft iX8 rfl 0 (by decide) wd53 rfl rfl dX8_append_18 ?_
  refine lv_aload_n hx hb dX8_append_21 rfl (lv_at hl 1 rfl) ?_
  refine g_get C hH mt ft iX8 rfl 1 (by decide) wd52 rfl rfl dX8_append_22 ?_
  refine lv_iload_n hx hb dX8_append_25 rfl (lv_at hl 2 rfl) ?_
  refine lv_iload_n hx hb dX8_append_26 rfl (lv_at hl 0 rfl) ?_
  refine lv_ishr hx hb dX8_append_27 ?_
  refine lv_topi (fun z1 ez1 => ?_)
  refine lv_i2b (v := (z1).toInt8.toInt32) hx hb dX8_append_28 rfl ?_
  refine g_bast C hH mb fb (vp_inL (by decide)) dX8_append_29 (fun H locs hH => ?_)
  obtain ⟨f2, ef2⟩ : ∃ z : gF, z = va_up f xb (.inl (E.2.2 0, 800, .inl (upd v ((12 : Int32)).toNatClampNeg (vp_nar .byte ((z1).toInt8.toInt32))))) := ⟨_, rfl⟩
  have hH : gH E A L f2 s.heap H locs := by rw [ef2]; exact hH
  have h3 : f2 xb = .inl (E.2.2 0, 800, .inl (upd v ((12 : Int32)).toNatClampNeg (vp_nar .byte ((z1).toInt8.toInt32)))) := (congrFun ef2 xb).trans (va_up_self _ _ _)
  refine lv_aload_n hx hb dX8_append_30 rfl (lv_at hl 1 rfl) ?_
  refine lv_dup hx hb dX8_append_31 rfl ?_
  have h4 : f2 xt = .inr (8, [.ref xb, .int (12 : Int32)]) := ((congrFun ef2 xt).trans (va_up_ne _ _ (g_neOA ft fb))).trans ft
  refine g_get C hH mt h4 iX8 rfl 1 (by decide) wd52 rfl rfl dX8_append_32 ?_
  refine lv_iconst (v := (1 : Int32)) hx hb dX8_append_35 (by decide) ?_
  refine lv_iadd hx hb dX8_append_36 ?_
  refine lv_topi (fun z5 ez5 => ?_)
  obtain rfl : z5 = (13 : Int32) := ez5.trans (by decide)
  refine g_put C hH mt h4 iX8 tyX8 tyX8_ok nmX8 rfl 1 (by decide) wd52 rfl rfl rfl rfl (Nat.le_of_ble_eq_true rfl) (fs' := [.ref xb, .int (13 : Int32)]) rfl dX8_append_37 (fun H locs hH => ?_)
  obtain ⟨f6, ef6⟩ : ∃ z : gF, z = va_up f2 xt (.inr (8, [.ref xb, .int (13 : Int32)])) := ⟨_, rfl⟩
  have hH : gH E A L f6 s.heap H locs := by rw [ef6]; exact hH
  have h7 : f6 xt = .inr (8, [.ref xb, .int (13 : Int32)]) := (congrFun ef6 xt).trans (va_up_self _ _ _)
  refine lv_iinc (v := (16 : Int32)) (lv' := [(2, .int (16 : Int32)), (0, .ref xt), (1, .int p0)]) hx hb dX8_append_40 hl (k := 0) rfl (by decide) (by decide) rfl (fun ls hl => ?_)
  refine lv_goto (tgt := 3) hx hb dX8_append_43 (by decide) ?_
  refine lv_iload_n hx hb dX8_append_3 rfl (lv_at hl 0 rfl) ?_
  refine lv_if_lt (tgt := 46) hx hb dX8_append_4 (by decide) (fun h => absurd h (by decide)) (fun _ => ?_)
  refine lv_aload_n hx hb dX8_append_7 rfl (lv_at hl 1 rfl) ?_
  refine g_get C hH mt h7 iX8 rfl 1 (by decide) wd52 rfl rfl dX8_append_8 ?_
  refine lv_sipush (v := (800 : Int32)) hx hb dX8_append_11 (by decide) ?_
  refine lv_icmp_ge (tgt := 46) hx hb dX8_append_14 (by decide) (fun h => absurd h (by decide)) (fun _ => ?_)
  refine lv_aload_n hx hb dX8_append_17 rfl (lv_at hl 1 rfl) ?_
  refine g_get C hH mt h7 iX8 rfl 0 (by decide) wd53 rfl rfl dX8_append_18 ?_
  refine lv_aload_n hx hb dX8_append_21 rfl (lv_at hl 1 rfl) ?_
  refine g_get C hH mt h7 iX8 rfl 1 (by decide) wd52 rfl rfl dX8_append_22 ?_
  refine lv_iload_n hx hb dX8_append_25 rfl (lv_at hl 2 rfl) ?_
  refine lv_iload_n hx hb dX8_append_26 rfl (lv_at hl 0 rfl) ?_
  refine lv_ishr hx hb dX8_append_27 ?_
  refine lv_topi (fun z8 ez8 => ?_)
  refine lv_i2b (v := (z8).toInt8.toInt32) hx hb dX8_append_28 rfl ?_
  have h9 : f6 xb = .inl (E.2.2 0, 800, .inl (upd v ((12 : Int32)).toNatClampNeg (vp_nar .byte ((z1).toInt8.toInt32)))) := ((congrFun ef6 xb).trans (va_up_ne _ _ (g_neAO h3 h4))).trans h3
  refine g_bast C hH mb h9 (vp_inL (by decide)) dX8_append_29 (fun H locs hH => ?_)
  obtain ⟨f10, ef10⟩ : ∃ z : gF, z = va_up f6 xb (.inl (E.2.2 0, 800, .inl (upd (upd v ((12 : Int32)).toNatClampNeg (vp_nar .byte ((z1).toInt8.toInt32))) ((13 : Int32)).toNatClampNeg (vp_nar .byte ((z8).toInt8.toInt32))))) := ⟨_, rfl⟩
  have hH : gH E A L f10 s.heap H locs := by rw [ef10]; exact hH
  have h11 : f10 xb = .inl (E.2.2 0, 800, .inl (upd (upd v ((12 : Int32)).toNatClampNeg (vp_nar .byte ((z1).toInt8.toInt32))) ((13 : Int32)).toNatClampNeg (vp_nar .byte ((z8).toInt8.toInt32)))) := (congrFun ef10 xb).trans (va_up_self _ _ _)
  refine lv_aload_n hx hb dX8_append_30 rfl (lv_at hl 1 rfl) ?_
  refine lv_dup hx hb dX8_append_31 rfl ?_
  have h12 : f10 xt = .inr (8, [.ref xb, .int (13 : Int32)]) := ((congrFun ef10 xt).trans (va_up_ne _ _ (g_neOA h7 h9))).trans h7
  refine g_get C hH mt h12 iX8 rfl 1 (by decide) wd52 rfl rfl dX8_append_32 ?_
  refine lv_iconst (v := (1 : Int32)) hx hb dX8_append_35 (by decide) ?_
  refine lv_iadd hx hb dX8_append_36 ?_
  refine lv_topi (fun z13 ez13 => ?_)
  obtain rfl : z13 = (14 : Int32) := ez13.trans (by decide)
  refine g_put C hH mt h12 iX8 tyX8 tyX8_ok nmX8 rfl 1 (by decide) wd52 rfl rfl rfl rfl (Nat.le_of_ble_eq_true rfl) (fs' := [.ref xb, .int (14 : Int32)]) rfl dX8_append_37 (fun H locs hH => ?_)
  obtain ⟨f14, ef14⟩ : ∃ z : gF, z = va_up f10 xt (.inr (8, [.ref xb, .int (14 : Int32)])) := ⟨_, rfl⟩
  have hH : gH E A L f14 s.heap H locs := by rw [ef14]; exact hH
  have h15 : f14 xt = .inr (8, [.ref xb, .int (14 : Int32)]) := (congrFun ef14 xt).trans (va_up_self _ _ _)
  refine lv_iinc (v := (8 : Int32)) (lv' := [(2, .int (8 : Int32)), (0, .ref xt), (1, .int p0)]) hx hb dX8_append_40 hl (k := 0) rfl (by decide) (by decide) rfl (fun ls hl => ?_)
  refine lv_goto (tgt := 3) hx hb dX8_append_43 (by decide) ?_
  refine lv_iload_n hx hb dX8_append_3 rfl (lv_at hl 0 rfl) ?_
  refine lv_if_lt (tgt := 46) hx hb dX8_append_4 (by decide) (fun h => absurd h (by decide)) (fun _ => ?_)
  refine lv_aload_n hx hb dX8_append_7 rfl (lv_at hl 1 rfl) ?_
  refine g_get C hH mt h15 iX8 rfl 1 (by decide) wd52 rfl rfl dX8_append_8 ?_
  refine lv_sipush (v := (800 : Int32)) hx hb dX8_append_11 (by decide) ?_
  refine lv_icmp_ge (tgt := 46) hx hb dX8_append_14 (by decide) (fun h => absurd h (by decide)) (fun _ => ?_)
  refine lv_aload_n hx hb dX8_append_17 rfl (lv_at hl 1 rfl) ?_
  refine g_get C hH mt h15 iX8 rfl 0 (by decide) wd53 rfl rfl dX8_append_18 ?_
  refine lv_aload_n hx hb dX8_append_21 rfl (lv_at hl 1 rfl) ?_
  refine g_get C hH mt h15 iX8 rfl 1 (by decide) wd52 rfl rfl dX8_append_22 ?_
  refine lv_iload_n hx hb dX8_append_25 rfl (lv_at hl 2 rfl) ?_
  refine lv_iload_n hx hb dX8_append_26 rfl (lv_at hl 0 rfl) ?_
  refine lv_ishr hx hb dX8_append_27 ?_
  refine lv_topi (fun z16 ez16 => ?_)
  refine lv_i2b (v := (z16).toInt8.toInt32) hx hb dX8_append_28 rfl ?_
  have h17 : f14 xb = .inl (E.2.2 0, 800, .inl (upd (upd v ((12 : Int32)).toNatClampNeg (vp_nar .byte ((z1).toInt8.toInt32))) ((13 : Int32)).toNatClampNeg (vp_nar .byte ((z8).toInt8.toInt32)))) := ((congrFun ef14 xb).trans (va_up_ne _ _ (g_neAO h11 h12))).trans h11
  refine g_bast C hH mb h17 (vp_inL (by decide)) dX8_append_29 (fun H locs hH => ?_)
  obtain ⟨f18, ef18⟩ : ∃ z : gF, z = va_up f14 xb (.inl (E.2.2 0, 800, .inl (upd (upd (upd v ((12 : Int32)).toNatClampNeg (vp_nar .byte ((z1).toInt8.toInt32))) ((13 : Int32)).toNatClampNeg (vp_nar .byte ((z8).toInt8.toInt32))) ((14 : Int32)).toNatClampNeg (vp_nar .byte ((z16).toInt8.toInt32))))) := ⟨_, rfl⟩
  have hH : gH E A L f18 s.heap H locs := by rw [ef18]; exact hH
  have h19 : f18 xb = .inl (E.2.2 0, 800, .inl (upd (upd (upd v ((12 : Int32)).toNatClampNeg (vp_nar .byte ((z1).toInt8.toInt32))) ((13 : Int32)).toNatClampNeg (vp_nar .byte ((z8).toInt8.toInt32))) ((14 : Int32)).toNatClampNeg (vp_nar .byte ((z16).toInt8.toInt32)))) := (congrFun ef18 xb).trans (va_up_self _ _ _)
  refine lv_aload_n hx hb dX8_append_30 rfl (lv_at hl 1 rfl) ?_
  refine lv_dup hx hb dX8_append_31 rfl ?_
  have h20 : f18 xt = .inr (8, [.ref xb, .int (14 : Int32)]) := ((congrFun ef18 xt).trans (va_up_ne _ _ (g_neOA h15 h17))).trans h15
  refine g_get C hH mt h20 iX8 rfl 1 (by decide) wd52 rfl rfl dX8_append_32 ?_
  refine lv_iconst (v := (1 : Int32)) hx hb dX8_append_35 (by decide) ?_
  refine lv_iadd hx hb dX8_append_36 ?_
  refine lv_topi (fun z21 ez21 => ?_)
  obtain rfl : z21 = (15 : Int32) := ez21.trans (by decide)
  refine g_put C hH mt h20 iX8 tyX8 tyX8_ok nmX8 rfl 1 (by decide) wd52 rfl rfl rfl rfl (Nat.le_of_ble_eq_true rfl) (fs' := [.ref xb, .int (15 : Int32)]) rfl dX8_append_37 (fun H locs hH => ?_)
  obtain ⟨f22, ef22⟩ : ∃ z : gF, z = va_up f18 xt (.inr (8, [.ref xb, .int (15 : Int32)])) := ⟨_, rfl⟩
  have hH : gH E A L f22 s.heap H locs := by rw [ef22]; exact hH
  have h23 : f22 xt = .inr (8, [.ref xb, .int (15 : Int32)]) := (congrFun ef22 xt).trans (va_up_self _ _ _)
  refine lv_iinc (v := (0 : Int32)) (lv' := [(2, .int (0 : Int32)), (0, .ref xt), (1, .int p0)]) hx hb dX8_append_40 hl (k := 0) rfl (by decide) (by decide) rfl (fun ls hl => ?_)
  refine lv_goto (tgt := 3) hx hb dX8_append_43 (by decide) ?_
  refine lv_iload_n hx hb dX8_append_3 rfl (lv_at hl 0 rfl) ?_
  refine lv_if_lt (tgt := 46) hx hb dX8_append_4 (by decide) (fun h => absurd h (by decide)) (fun _ => ?_)
  refine lv_aload_n hx hb dX8_append_7 rfl (lv_at hl 1 rfl) ?_
  refine g_get C hH mt h23 iX8 rfl 1 (by decide) wd52 rfl rfl dX8_append_8 ?_
  refine lv_sipush (v := (800 : Int32)) hx hb dX8_append_11 (by decide) ?_
  refine lv_icmp_ge (tgt := 46) hx hb dX8_append_14 (by decide) (fun h => absurd h (by decide)) (fun _ => ?_)
  refine lv_aload_n hx hb dX8_append_17 rfl (lv_at hl 1 rfl) ?_
  refine g_get C hH mt h23 iX8 rfl 0 (by decide) wd53 rfl rfl dX8_append_18 ?_
  refine lv_aload_n hx hb dX8_append_21 rfl (lv_at hl 1 rfl) ?_
  refine g_get C hH mt h23 iX8 rfl 1 (by decide) wd52 rfl rfl dX8_append_22 ?_
  refine lv_iload_n hx hb dX8_append_25 rfl (lv_at hl 2 rfl) ?_
  refine lv_iload_n hx hb dX8_append_26 rfl (lv_at hl 0 rfl) ?_
  refine lv_ishr hx hb dX8_append_27 ?_
  refine lv_topi (fun z24 ez24 => ?_)
  refine lv_i2b (v := (z24).toInt8.toInt32) hx hb dX8_append_28 rfl ?_
  have h25 : f22 xb = .inl (E.2.2 0, 800, .inl (upd (upd (upd v ((12 : Int32)).toNatClampNeg (vp_nar .byte ((z1).toInt8.toInt32))) ((13 : Int32)).toNatClampNeg (vp_nar .byte ((z8).toInt8.toInt32))) ((14 : Int32)).toNatClampNeg (vp_nar .byte ((z16).toInt8.toInt32)))) := ((congrFun ef22 xb).trans (va_up_ne _ _ (g_neAO h19 h20))).trans h19
  refine g_bast C hH mb h25 (vp_inL (by decide)) dX8_append_29 (fun H locs hH => ?_)
  obtain ⟨f26, ef26⟩ : ∃ z : gF, z = va_up f22 xb (.inl (E.2.2 0, 800, .inl (upd (upd (upd (upd v ((12 : Int32)).toNatClampNeg (vp_nar .byte ((z1).toInt8.toInt32))) ((13 : Int32)).toNatClampNeg (vp_nar .byte ((z8).toInt8.toInt32))) ((14 : Int32)).toNatClampNeg (vp_nar .byte ((z16).toInt8.toInt32))) ((15 : Int32)).toNatClampNeg (vp_nar .byte ((z24).toInt8.toInt32))))) := ⟨_, rfl⟩
  have hH : gH E A L f26 s.heap H locs := by rw [ef26]; exact hH
  have h27 : f26 xb = .inl (E.2.2 0, 800, .inl (upd (upd (upd (upd v ((12 : Int32)).toNatClampNeg (vp_nar .byte ((z1).toInt8.toInt32))) ((13 : Int32)).toNatClampNeg (vp_nar .byte ((z8).toInt8.toInt32))) ((14 : Int32)).toNatClampNeg (vp_nar .byte ((z16).toInt8.toInt32))) ((15 : Int32)).toNatClampNeg (vp_nar .byte ((z24).toInt8.toInt32)))) := (congrFun ef26 xb).trans (va_up_self _ _ _)
  refine lv_aload_n hx hb dX8_append_30 rfl (lv_at hl 1 rfl) ?_
  refine lv_dup hx hb dX8_append_31 rfl ?_
  have h28 : f26 xt = .inr (8, [.ref xb, .int (15 : Int32)]) := ((congrFun ef26 xt).trans (va_up_ne _ _ (g_neOA h23 h25))).trans h23
  refine g_get C hH mt h28 iX8 rfl 1 (by decide) wd52 rfl rfl dX8_append_32 ?_
  refine lv_iconst (v := (1 : Int32)) hx hb dX8_append_35 (by decide) ?_
  refine lv_iadd hx hb dX8_append_36 ?_
  refine lv_topi (fun z29 ez29 => ?_)
  obtain rfl : z29 = (16 : Int32) := ez29.trans (by decide)
  refine g_put C hH mt h28 iX8 tyX8 tyX8_ok nmX8 rfl 1 (by decide) wd52 rfl rfl rfl rfl (Nat.le_of_ble_eq_true rfl) (fs' := [.ref xb, .int (16 : Int32)]) rfl dX8_append_37 (fun H locs hH => ?_)
  obtain ⟨f30, ef30⟩ : ∃ z : gF, z = va_up f26 xt (.inr (8, [.ref xb, .int (16 : Int32)])) := ⟨_, rfl⟩
  have hH : gH E A L f30 s.heap H locs := by rw [ef30]; exact hH
  have h31 : f30 xt = .inr (8, [.ref xb, .int (16 : Int32)]) := (congrFun ef30 xt).trans (va_up_self _ _ _)
  refine lv_iinc (v := (-8 : Int32)) (lv' := [(2, .int (-8 : Int32)), (0, .ref xt), (1, .int p0)]) hx hb dX8_append_40 hl (k := 0) rfl (by decide) (by decide) rfl (fun ls hl => ?_)
  refine lv_goto (tgt := 3) hx hb dX8_append_43 (by decide) ?_
  refine lv_iload_n hx hb dX8_append_3 rfl (lv_at hl 0 rfl) ?_
  refine lv_if_lt (tgt := 46) hx hb dX8_append_4 (by decide) (fun _ => ?_) (fun h => absurd (by decide) h)
  refine g_vret C hr hH (Nat.le_of_ble_eq_true rfl) (Nat.le_of_ble_eq_true rfl) dX8_append_46 ?_
  have h32 : f30 xb = .inl (E.2.2 0, 800, .inl (upd (upd (upd (upd v ((12 : Int32)).toNatClampNeg (vp_nar .byte ((z1).toInt8.toInt32))) ((13 : Int32)).toNatClampNeg (vp_nar .byte ((z8).toInt8.toInt32))) ((14 : Int32)).toNatClampNeg (vp_nar .byte ((z16).toInt8.toInt32))) ((15 : Int32)).toNatClampNeg (vp_nar .byte ((z24).toInt8.toInt32)))) := ((congrFun ef30 xb).trans (va_up_ne _ _ (g_neAO h27 h28))).trans h27
  exact ⟨rfl, h31, ⟨_, h32⟩, fun b h1 h2 => by rw [ef30, va_up_ne _ _ h1, ef26, va_up_ne _ _ h2, ef22, va_up_ne _ _ h1, ef18, va_up_ne _ _ h2, ef14, va_up_ne _ _ h1, ef10, va_up_ne _ _ h2, ef6, va_up_ne _ _ h1, ef2, va_up_ne _ _ h2]⟩
set_option maxHeartbeats 4000000 in
set_option maxRecDepth 100000 in
theorem k_append16 (l : Launch) (E : gE) (L : List Nat) (f : gF) {xt xb : Nat} {v : Nat → Int32} (mt : xt ∈ L) (ft : f xt = .inr (8, [.ref xb, .int (16 : Int32)])) (mb : xb ∈ L) (fb : f xb = .inl (E.2.2 0, 800, .inl v)) (p0 : Int32) : gMv l E yX8_append cX8_append 3 (gRm 1 0 0) [.ref xt, .int p0] L f (fun L1 f1 => L = L1 ∧ f1 xt = .inr (8, [.ref xb, .int (20 : Int32)]) ∧ (∃ z, f1 xb = .inl (E.2.2 0, 800, .inl z)) ∧ ∀ b, b ≠ xt → b ≠ xb → f1 b = f b) := by
  refine gMv.intro (by decide) (Nat.le_of_ble_eq_true rfl) ?_
  intro p e s m below meth c A ls C hr hnm hA hH hl
  have C : gC E cX8_append 3 RX8 p s m _ meth c := C
  have hl : lv_has ls 3 [(0, .ref xt), (1, .int p0)] := hl
  have hx := C.1
  have hb := C.2.1
  refine lv_bipush (v := (24 : Int32)) hx hb dX8_append_0 (by decide) ?_
  refine lv_istore_n (lv' := [(2, .int (24 : Int32)), (0, .ref xt), (1, .int p0)]) hx hb dX8_append_2 rfl hl (by decide) rfl (fun ls hl => ?_)
  refine lv_iload_n hx hb dX8_append_3 rfl (lv_at hl 0 rfl) ?_
  refine lv_if_lt (tgt := 46) hx hb dX8_append_4 (by decide) (fun h => absurd h (by decide)) (fun _ => ?_)
  refine lv_aload_n hx hb dX8_append_7 rfl (lv_at hl 1 rfl) ?_
  refine g_get C hH mt ft iX8 rfl 1 (by decide) wd52 rfl rfl dX8_append_8 ?_
  refine lv_sipush (v := (800 : Int32)) hx hb dX8_append_11 (by decide) ?_
  refine lv_icmp_ge (tgt := 46) hx hb dX8_append_14 (by decide) (fun h => absurd h (by decide)) (fun _ => ?_)
  refine lv_aload_n hx hb dX8_append_17 rfl (lv_at hl 1 rfl) ?_
  refine g_get C hH mt ft iX8 rfl 0 (by decide) wd53 rfl rfl dX8_append_18 ?_
  refine lv_aload_n hx hb dX8_append_21 rfl (lv_at hl 1 rfl) ?_
  refine g_get C hH mt ft iX8 rfl 1 (by decide) wd52 rfl rfl dX8_append_22 ?_
  refine lv_iload_n hx hb dX8_append_25 rfl (lv_at hl 2 rfl) ?_
  refine lv_iload_n hx hb dX8_append_26 rfl (lv_at hl 0 rfl) ?_
  refine lv_ishr hx hb dX8_append_27 ?_
  refine lv_topi (fun z1 ez1 => ?_)
  refine lv_i2b (v := (z1).toInt8.toInt32) hx hb dX8_append_28 rfl ?_
  refine g_bast C hH mb fb (vp_inL (by decide)) dX8_append_29 (fun H locs hH => ?_)
  obtain ⟨f2, ef2⟩ : ∃ z : gF, z = va_up f xb (.inl (E.2.2 0, 800, .inl (upd v ((16 : Int32)).toNatClampNeg (vp_nar .byte ((z1).toInt8.toInt32))))) := ⟨_, rfl⟩
  have hH : gH E A L f2 s.heap H locs := by rw [ef2]; exact hH
  have h3 : f2 xb = .inl (E.2.2 0, 800, .inl (upd v ((16 : Int32)).toNatClampNeg (vp_nar .byte ((z1).toInt8.toInt32)))) := (congrFun ef2 xb).trans (va_up_self _ _ _)
  refine lv_aload_n hx hb dX8_append_30 rfl (lv_at hl 1 rfl) ?_
  refine lv_dup hx hb dX8_append_31 rfl ?_
  have h4 : f2 xt = .inr (8, [.ref xb, .int (16 : Int32)]) := ((congrFun ef2 xt).trans (va_up_ne _ _ (g_neOA ft fb))).trans ft
  refine g_get C hH mt h4 iX8 rfl 1 (by decide) wd52 rfl rfl dX8_append_32 ?_
  refine lv_iconst (v := (1 : Int32)) hx hb dX8_append_35 (by decide) ?_
  refine lv_iadd hx hb dX8_append_36 ?_
  refine lv_topi (fun z5 ez5 => ?_)
  obtain rfl : z5 = (17 : Int32) := ez5.trans (by decide)
  refine g_put C hH mt h4 iX8 tyX8 tyX8_ok nmX8 rfl 1 (by decide) wd52 rfl rfl rfl rfl (Nat.le_of_ble_eq_true rfl) (fs' := [.ref xb, .int (17 : Int32)]) rfl dX8_append_37 (fun H locs hH => ?_)
  obtain ⟨f6, ef6⟩ : ∃ z : gF, z = va_up f2 xt (.inr (8, [.ref xb, .int (17 : Int32)])) := ⟨_, rfl⟩
  have hH : gH E A L f6 s.heap H locs := by rw [ef6]; exact hH
  have h7 : f6 xt = .inr (8, [.ref xb, .int (17 : Int32)]) := (congrFun ef6 xt).trans (va_up_self _ _ _)
  refine lv_iinc (v := (16 : Int32)) (lv' := [(2, .int (16 : Int32)), (0, .ref xt), (1, .int p0)]) hx hb dX8_append_40 hl (k := 0) rfl (by decide) (by decide) rfl (fun ls hl => ?_)
  refine lv_goto (tgt := 3) hx hb dX8_append_43 (by decide) ?_
  refine lv_iload_n hx hb dX8_append_3 rfl (lv_at hl 0 rfl) ?_
  refine lv_if_lt (tgt := 46) hx hb dX8_append_4 (by decide) (fun h => absurd h (by decide)) (fun _ => ?_)
  refine lv_aload_n hx hb dX8_append_7 rfl (lv_at hl 1 rfl) ?_
  refine g_get C hH mt h7 iX8 rfl 1 (by decide) wd52 rfl rfl dX8_append_8 ?_
  refine lv_sipush (v := (800 : Int32)) hx hb dX8_append_11 (by decide) ?_
  refine lv_icmp_ge (tgt := 46) hx hb dX8_append_14 (by decide) (fun h => absurd h (by decide)) (fun _ => ?_)
  refine lv_aload_n hx hb dX8_append_17 rfl (lv_at hl 1 rfl) ?_
  refine g_get C hH mt h7 iX8 rfl 0 (by decide) wd53 rfl rfl dX8_append_18 ?_
  refine lv_aload_n hx hb dX8_append_21 rfl (lv_at hl 1 rfl) ?_
  refine g_get C hH mt h7 iX8 rfl 1 (by decide) wd52 rfl rfl dX8_append_22 ?_
  refine lv_iload_n hx hb dX8_append_25 rfl (lv_at hl 2 rfl) ?_
  refine lv_iload_n hx hb dX8_append_26 rfl (lv_at hl 0 rfl) ?_
  refine lv_ishr hx hb dX8_append_27 ?_
  refine lv_topi (fun z8 ez8 => ?_)
  refine lv_i2b (v := (z8).toInt8.toInt32) hx hb dX8_append_28 rfl ?_
  have h9 : f6 xb = .inl (E.2.2 0, 800, .inl (upd v ((16 : Int32)).toNatClampNeg (vp_nar .byte ((z1).toInt8.toInt32)))) := ((congrFun ef6 xb).trans (va_up_ne _ _ (g_neAO h3 h4))).trans h3
  refine g_bast C hH mb h9 (vp_inL (by decide)) dX8_append_29 (fun H locs hH => ?_)
  obtain ⟨f10, ef10⟩ : ∃ z : gF, z = va_up f6 xb (.inl (E.2.2 0, 800, .inl (upd (upd v ((16 : Int32)).toNatClampNeg (vp_nar .byte ((z1).toInt8.toInt32))) ((17 : Int32)).toNatClampNeg (vp_nar .byte ((z8).toInt8.toInt32))))) := ⟨_, rfl⟩
  have hH : gH E A L f10 s.heap H locs := by rw [ef10]; exact hH
  have h11 : f10 xb = .inl (E.2.2 0, 800, .inl (upd (upd v ((16 : Int32)).toNatClampNeg (vp_nar .byte ((z1).toInt8.toInt32))) ((17 : Int32)).toNatClampNeg (vp_nar .byte ((z8).toInt8.toInt32)))) := (congrFun ef10 xb).trans (va_up_self _ _ _)
  refine lv_aload_n hx hb dX8_append_30 rfl (lv_at hl 1 rfl) ?_
  refine lv_dup hx hb dX8_append_31 rfl ?_
  have h12 : f10 xt = .inr (8, [.ref xb, .int (17 : Int32)]) := ((congrFun ef10 xt).trans (va_up_ne _ _ (g_neOA h7 h9))).trans h7
  refine g_get C hH mt h12 iX8 rfl 1 (by decide) wd52 rfl rfl dX8_append_32 ?_
  refine lv_iconst (v := (1 : Int32)) hx hb dX8_append_35 (by decide) ?_
  refine lv_iadd hx hb dX8_append_36 ?_
  refine lv_topi (fun z13 ez13 => ?_)
  obtain rfl : z13 = (18 : Int32) := ez13.trans (by decide)
  refine g_put C hH mt h12 iX8 tyX8 tyX8_ok nmX8 rfl 1 (by decide) wd52 rfl rfl rfl rfl (Nat.le_of_ble_eq_true rfl) (fs' := [.ref xb, .int (18 : Int32)]) rfl dX8_append_37 (fun H locs hH => ?_)
  obtain ⟨f14, ef14⟩ : ∃ z : gF, z = va_up f10 xt (.inr (8, [.ref xb, .int (18 : Int32)])) := ⟨_, rfl⟩
  have hH : gH E A L f14 s.heap H locs := by rw [ef14]; exact hH
  have h15 : f14 xt = .inr (8, [.ref xb, .int (18 : Int32)]) := (congrFun ef14 xt).trans (va_up_self _ _ _)
  refine lv_iinc (v := (8 : Int32)) (lv' := [(2, .int (8 : Int32)), (0, .ref xt), (1, .int p0)]) hx hb dX8_append_40 hl (k := 0) rfl (by decide) (by decide) rfl (fun ls hl => ?_)
  refine lv_goto (tgt := 3) hx hb dX8_append_43 (by decide) ?_
  refine lv_iload_n hx hb dX8_append_3 rfl (lv_at hl 0 rfl) ?_
  refine lv_if_lt (tgt := 46) hx hb dX8_append_4 (by decide) (fun h => absurd h (by decide)) (fun _ => ?_)
  refine lv_aload_n hx hb dX8_append_7 rfl (lv_at hl 1 rfl) ?_
  refine g_get C hH mt h15 iX8 rfl 1 (by decide) wd52 rfl rfl dX8_append_8 ?_
  refine lv_sipush (v := (800 : Int32)) hx hb dX8_append_11 (by decide) ?_
  refine lv_icmp_ge (tgt := 46) hx hb dX8_append_14 (by decide) (fun h => absurd h (by decide)) (fun _ => ?_)
  refine lv_aload_n hx hb dX8_append_17 rfl (lv_at hl 1 rfl) ?_
  refine g_get C hH mt h15 iX8 rfl 0 (by decide) wd53 rfl rfl dX8_append_18 ?_
  refine lv_aload_n hx hb dX8_append_21 rfl (lv_at hl 1 rfl) ?_
  refine g_get C hH mt h15 iX8 rfl 1 (by decide) wd52 rfl rfl dX8_append_22 ?_
  refine lv_iload_n hx hb dX8_append_25 rfl (lv_at hl 2 rfl) ?_
  refine lv_iload_n hx hb dX8_append_26 rfl (lv_at hl 0 rfl) ?_
  refine lv_ishr hx hb dX8_append_27 ?_
  refine lv_topi (fun z16 ez16 => ?_)
  refine lv_i2b (v := (z16).toInt8.toInt32) hx hb dX8_append_28 rfl ?_
  have h17 : f14 xb = .inl (E.2.2 0, 800, .inl (upd (upd v ((16 : Int32)).toNatClampNeg (vp_nar .byte ((z1).toInt8.toInt32))) ((17 : Int32)).toNatClampNeg (vp_nar .byte ((z8).toInt8.toInt32)))) := ((congrFun ef14 xb).trans (va_up_ne _ _ (g_neAO h11 h12))).trans h11
  refine g_bast C hH mb h17 (vp_inL (by decide)) dX8_append_29 (fun H locs hH => ?_)
  obtain ⟨f18, ef18⟩ : ∃ z : gF, z = va_up f14 xb (.inl (E.2.2 0, 800, .inl (upd (upd (upd v ((16 : Int32)).toNatClampNeg (vp_nar .byte ((z1).toInt8.toInt32))) ((17 : Int32)).toNatClampNeg (vp_nar .byte ((z8).toInt8.toInt32))) ((18 : Int32)).toNatClampNeg (vp_nar .byte ((z16).toInt8.toInt32))))) := ⟨_, rfl⟩
  have hH : gH E A L f18 s.heap H locs := by rw [ef18]; exact hH
  have h19 : f18 xb = .inl (E.2.2 0, 800, .inl (upd (upd (upd v ((16 : Int32)).toNatClampNeg (vp_nar .byte ((z1).toInt8.toInt32))) ((17 : Int32)).toNatClampNeg (vp_nar .byte ((z8).toInt8.toInt32))) ((18 : Int32)).toNatClampNeg (vp_nar .byte ((z16).toInt8.toInt32)))) := (congrFun ef18 xb).trans (va_up_self _ _ _)
  refine lv_aload_n hx hb dX8_append_30 rfl (lv_at hl 1 rfl) ?_
  refine lv_dup hx hb dX8_append_31 rfl ?_
  have h20 : f18 xt = .inr (8, [.ref xb, .int (18 : Int32)]) := ((congrFun ef18 xt).trans (va_up_ne _ _ (g_neOA h15 h17))).trans h15
  refine g_get C hH mt h20 iX8 rfl 1 (by decide) wd52 rfl rfl dX8_append_32 ?_
  refine lv_iconst (v := (1 : Int32)) hx hb dX8_append_35 (by decide) ?_
  refine lv_iadd hx hb dX8_append_36 ?_
  refine lv_topi (fun z21 ez21 => ?_)
  obtain rfl : z21 = (19 : Int32) := ez21.trans (by decide)
  refine g_put C hH mt h20 iX8 tyX8 tyX8_ok nmX8 rfl 1 (by decide) wd52 rfl rfl rfl rfl (Nat.le_of_ble_eq_true rfl) (fs' := [.ref xb, .int (19 : Int32)]) rfl dX8_append_37 (fun H locs hH => ?_)
  obtain ⟨f22, ef22⟩ : ∃ z : gF, z = va_up f18 xt (.inr (8, [.ref xb, .int (19 : Int32)])) := ⟨_, rfl⟩
  have hH : gH E A L f22 s.heap H locs := by rw [ef22]; exact hH
  have h23 : f22 xt = .inr (8, [.ref xb, .int (19 : Int32)]) := (congrFun ef22 xt).trans (va_up_self _ _ _)
  refine lv_iinc (v := (0 : Int32)) (lv' := [(2, .int (0 : Int32)), (0, .ref xt), (1, .int p0)]) hx hb dX8_append_40 hl (k := 0) rfl (by decide) (by decide) rfl (fun ls hl => ?_)
  refine lv_goto (tgt := 3) hx hb dX8_append_43 (by decide) ?_
  refine lv_iload_n hx hb dX8_append_3 rfl (lv_at hl 0 rfl) ?_
  refine lv_if_lt (tgt := 46) hx hb dX8_append_4 (by decide) (fun h => absurd h (by decide)) (fun _ => ?_)
  refine lv_aload_n hx hb dX8_append_7 rfl (lv_at hl 1 rfl) ?_
  refine g_get C hH mt h23 iX8 rfl 1 (by decide) wd52 rfl rfl dX8_append_8 ?_
  refine lv_sipush (v := (800 : Int32)) hx hb dX8_append_11 (by decide) ?_
  refine lv_icmp_ge (tgt := 46) hx hb dX8_append_14 (by decide) (fun h => absurd h (by decide)) (fun _ => ?_)
  refine lv_aload_n hx hb dX8_append_17 rfl (lv_at hl 1 rfl) ?_
  refine g_get C hH mt h23 iX8 rfl 0 (by decide) wd53 rfl rfl dX8_append_18 ?_
  refine lv_aload_n hx hb dX8_append_21 rfl (lv_at hl 1 rfl) ?_
  refine g_get C hH mt h23 iX8 rfl 1 (by decide) wd52 rfl rfl dX8_append_22 ?_
  refine lv_iload_n hx hb dX8_append_25 rfl (lv_at hl 2 rfl) ?_
  refine lv_iload_n hx hb dX8_append_26 rfl (lv_at hl 0 rfl) ?_
  refine lv_ishr hx hb dX8_append_27 ?_
  refine lv_topi (fun z24 ez24 => ?_)
  refine lv_i2b (v := (z24).toInt8.toInt32) hx hb dX8_append_28 rfl ?_
  have h25 : f22 xb = .inl (E.2.2 0, 800, .inl (upd (upd (upd v ((16 : Int32)).toNatClampNeg (vp_nar .byte ((z1).toInt8.toInt32))) ((17 : Int32)).toNatClampNeg (vp_nar .byte ((z8).toInt8.toInt32))) ((18 : Int32)).toNatClampNeg (vp_nar .byte ((z16).toInt8.toInt32)))) := ((congrFun ef22 xb).trans (va_up_ne _ _ (g_neAO h19 h20))).trans h19
  refine g_bast C hH mb h25 (vp_inL (by decide)) dX8_append_29 (fun H locs hH => ?_)
  obtain ⟨f26, ef26⟩ : ∃ z : gF, z = va_up f22 xb (.inl (E.2.2 0, 800, .inl (upd (upd (upd (upd v ((16 : Int32)).toNatClampNeg (vp_nar .byte ((z1).toInt8.toInt32))) ((17 : Int32)).toNatClampNeg (vp_nar .byte ((z8).toInt8.toInt32))) ((18 : Int32)).toNatClampNeg (vp_nar .byte ((z16).toInt8.toInt32))) ((19 : Int32)).toNatClampNeg (vp_nar .byte ((z24).toInt8.toInt32))))) := ⟨_, rfl⟩
  have hH : gH E A L f26 s.heap H locs := by rw [ef26]; exact hH
  have h27 : f26 xb = .inl (E.2.2 0, 800, .inl (upd (upd (upd (upd v ((16 : Int32)).toNatClampNeg (vp_nar .byte ((z1).toInt8.toInt32))) ((17 : Int32)).toNatClampNeg (vp_nar .byte ((z8).toInt8.toInt32))) ((18 : Int32)).toNatClampNeg (vp_nar .byte ((z16).toInt8.toInt32))) ((19 : Int32)).toNatClampNeg (vp_nar .byte ((z24).toInt8.toInt32)))) := (congrFun ef26 xb).trans (va_up_self _ _ _)
  refine lv_aload_n hx hb dX8_append_30 rfl (lv_at hl 1 rfl) ?_
  refine lv_dup hx hb dX8_append_31 rfl ?_
  have h28 : f26 xt = .inr (8, [.ref xb, .int (19 : Int32)]) := ((congrFun ef26 xt).trans (va_up_ne _ _ (g_neOA h23 h25))).trans h23
  refine g_get C hH mt h28 iX8 rfl 1 (by decide) wd52 rfl rfl dX8_append_32 ?_
  refine lv_iconst (v := (1 : Int32)) hx hb dX8_append_35 (by decide) ?_
  refine lv_iadd hx hb dX8_append_36 ?_
  refine lv_topi (fun z29 ez29 => ?_)
  obtain rfl : z29 = (20 : Int32) := ez29.trans (by decide)
  refine g_put C hH mt h28 iX8 tyX8 tyX8_ok nmX8 rfl 1 (by decide) wd52 rfl rfl rfl rfl (Nat.le_of_ble_eq_true rfl) (fs' := [.ref xb, .int (20 : Int32)]) rfl dX8_append_37 (fun H locs hH => ?_)
  obtain ⟨f30, ef30⟩ : ∃ z : gF, z = va_up f26 xt (.inr (8, [.ref xb, .int (20 : Int32)])) := ⟨_, rfl⟩
  have hH : gH E A L f30 s.heap H locs := by rw [ef30]; exact hH
  have h31 : f30 xt = .inr (8, [.ref xb, .int (20 : Int32)]) := (congrFun ef30 xt).trans (va_up_self _ _ _)
  refine lv_iinc (v := (-8 : Int32)) (lv' := [(2, .int (-8 : Int32)), (0, .ref xt), (1, .int p0)]) hx hb dX8_append_40 hl (k := 0) rfl (by decide) (by decide) rfl (fun ls hl => ?_)
  refine lv_goto (tgt := 3) hx hb dX8_append_43 (by decide) ?_
  refine lv_iload_n hx hb dX8_append_3 rfl (lv_at hl 0 rfl) ?_
  refine lv_if_lt (tgt := 46) hx hb dX8_append_4 (by decide) (fun _ => ?_) (fun h => absurd (by decide) h)
  refine g_vret C hr hH (Nat.le_of_ble_eq_true rfl) (Nat.le_of_ble_eq_true rfl) dX8_append_46 ?_
  have h32 : f30 xb = .inl (E.2.2 0, 800, .inl (upd (upd (upd (upd v ((16 : Int32)).toNatClampNeg (vp_nar .byte ((z1).toInt8.toInt32))) ((17 : Int32)).toNatClampNeg (vp_nar .byte ((z8).toInt8.toInt32))) ((18 : Int32)).toNatClampNeg (vp_nar .byte ((z16).toInt8.toInt32))) ((19 : Int32)).toNatClampNeg (vp_nar .byte ((z24).toInt8.toInt32)))) := ((congrFun ef30 xb).trans (va_up_ne _ _ (g_neAO h27 h28))).trans h27
  exact ⟨rfl, h31, ⟨_, h32⟩, fun b h1 h2 => by rw [ef30, va_up_ne _ _ h1, ef26, va_up_ne _ _ h2, ef22, va_up_ne _ _ h1, ef18, va_up_ne _ _ h2, ef14, va_up_ne _ _ h1, ef10, va_up_ne _ _ h2, ef6, va_up_ne _ _ h1, ef2, va_up_ne _ _ h2]⟩
set_option maxHeartbeats 4000000 in
set_option maxRecDepth 100000 in
theorem k_feed (l : Launch) (E : gE) (L : List Nat) (f : gF) {x xt xn xr xi xw xs xl xc xh xf xm : Nat} (mx : x ∈ L) (fx : f x = .inr (9, [.ref xt, .ref xn, .ref xr, .ref xi, .ref xw, .ref xs, .ref xl, .ref xc, .ref xh, .ref xf, .ref xm])) {xb : Nat} {v : Nat → Int32} (mt : xt ∈ L) (ft : f xt = .inr (8, [.ref xb, .int (0 : Int32)])) (mb : xb ∈ L) (fb : f xb = .inl (E.2.2 0, 800, .inl v)) (p0 p1 p2 p3 p4 : Int32) : gMi l E yX9_feed cX9_feed 6 .int (gRm 3 0 0) [.ref x, .int p0, .int p1, .int p2, .int p3, .int p4] L f (fun r _ _ => r = 20) := by
  refine gMi.intro (by decide) (Nat.le_of_ble_eq_true rfl) ?_
  intro p e s m below meth c A ls C hr hA hH hl
  have C : gC E cX9_feed 6 RX9 p s m _ meth c := C
  have hl : lv_has ls 6 [(0, .ref x), (1, .int p0), (2, .int p1), (3, .int p2), (4, .int p3), (5, .int p4)] := hl
  have hx := C.1
  have hb := C.2.1
  refine lv_aload_n hx hb dX9_feed_0 rfl (lv_at hl 0 rfl) ?_
  refine g_get C hH mx fx iX9 rfl 0 (by decide) wd54 rfl rfl dX9_feed_1 ?_
  refine g_get C hH mt ft iX8 rfl 1 (by decide) wd55 rfl rfl dX9_feed_4 ?_
  refine lv_bipush (v := (20 : Int32)) hx hb dX9_feed_7 (by decide) ?_
  refine lv_iadd hx hb dX9_feed_9 ?_
  refine lv_topi (fun z1 ez1 => ?_)
  obtain rfl : z1 = (20 : Int32) := ez1.trans (by decide)
  refine lv_sipush (v := (800 : Int32)) hx hb dX9_feed_10 (by decide) ?_
  refine lv_icmp_le (tgt := 18) hx hb dX9_feed_13 (by decide) (fun _ => ?_) (fun h => absurd (by decide) h)
  refine lv_aload_n hx hb dX9_feed_18 rfl (lv_at hl 0 rfl) ?_
  refine g_get C hH mx fx iX9 rfl 0 (by decide) wd54 rfl rfl dX9_feed_19 ?_
  refine lv_iload_n hx hb dX9_feed_22 rfl (lv_at hl 1 rfl) ?_
  refine g_Vv C hl.1 hA hH (As := [.int p0]) (rest := []) (k_append0 l E L f mt ft mb fb p0) my_X8_append wd60 mt ft rfl rfl rfl (Nat.le_of_ble_eq_true rfl) ⟨Nat.le_of_ble_eq_true rfl, Nat.le_of_ble_eq_true rfl⟩ ⟨Nat.le_of_ble_eq_true rfl, Nat.le_of_ble_eq_true rfl⟩ dX9_feed_23 (fun L3 f2 H locs hp hH => ?_)
  obtain ⟨rfl, h4, ⟨v5, h6⟩, k7⟩ := hp
  refine lv_aload_n hx hb dX9_feed_26 rfl (lv_at hl 0 rfl) ?_
  have h8 : f2 x = .inr (9, [.ref xt, .ref xn, .ref xr, .ref xi, .ref xw, .ref xs, .ref xl, .ref xc, .ref xh, .ref xf, .ref xm]) := (k7 x (g_neO fx ft (by decide)) (g_neOA fx fb)).trans fx
  refine g_get C hH mx h8 iX9 rfl 0 (by decide) wd54 rfl rfl dX9_feed_27 ?_
  refine lv_iload_n hx hb dX9_feed_30 rfl (lv_at hl 2 rfl) ?_
  refine g_Vv C hl.1 hA hH (As := [.int p1]) (rest := []) (k_append4 l E L f2 mt h4 mb h6 p1) my_X8_append wd60 mt h4 rfl rfl rfl (Nat.le_of_ble_eq_true rfl) ⟨Nat.le_of_ble_eq_true rfl, Nat.le_of_ble_eq_true rfl⟩ ⟨Nat.le_of_ble_eq_true rfl, Nat.le_of_ble_eq_true rfl⟩ dX9_feed_31 (fun L10 f9 H locs hp hH => ?_)
  obtain ⟨rfl, h11, ⟨v12, h13⟩, k14⟩ := hp
  refine lv_aload_n hx hb dX9_feed_34 rfl (lv_at hl 0 rfl) ?_
  have h15 : f9 x = .inr (9, [.ref xt, .ref xn, .ref xr, .ref xi, .ref xw, .ref xs, .ref xl, .ref xc, .ref xh, .ref xf, .ref xm]) := (k14 x (g_neO h8 h4 (by decide)) (g_neOA h8 h6)).trans h8
  refine g_get C hH mx h15 iX9 rfl 0 (by decide) wd54 rfl rfl dX9_feed_35 ?_
  refine lv_iload_n hx hb dX9_feed_38 rfl (lv_at hl 3 rfl) ?_
  refine g_Vv C hl.1 hA hH (As := [.int p2]) (rest := []) (k_append8 l E L f9 mt h11 mb h13 p2) my_X8_append wd60 mt h11 rfl rfl rfl (Nat.le_of_ble_eq_true rfl) ⟨Nat.le_of_ble_eq_true rfl, Nat.le_of_ble_eq_true rfl⟩ ⟨Nat.le_of_ble_eq_true rfl, Nat.le_of_ble_eq_true rfl⟩ dX9_feed_39 (fun L17 f16 H locs hp hH => ?_)
  obtain ⟨rfl, h18, ⟨v19, h20⟩, k21⟩ := hp
  refine lv_aload_n hx hb dX9_feed_42 rfl (lv_at hl 0 rfl) ?_
  have h22 : f16 x = .inr (9, [.ref xt, .ref xn, .ref xr, .ref xi, .ref xw, .ref xs, .ref xl, .ref xc, .ref xh, .ref xf, .ref xm]) := (k21 x (g_neO h15 h11 (by decide)) (g_neOA h15 h13)).trans h15
  refine g_get C hH mx h22 iX9 rfl 0 (by decide) wd54 rfl rfl dX9_feed_43 ?_
  refine lv_iload hx hb dX9_feed_46 (lv_at hl 4 rfl) ?_
  refine g_Vv C hl.1 hA hH (As := [.int p3]) (rest := []) (k_append12 l E L f16 mt h18 mb h20 p3) my_X8_append wd60 mt h18 rfl rfl rfl (Nat.le_of_ble_eq_true rfl) ⟨Nat.le_of_ble_eq_true rfl, Nat.le_of_ble_eq_true rfl⟩ ⟨Nat.le_of_ble_eq_true rfl, Nat.le_of_ble_eq_true rfl⟩ dX9_feed_48 (fun L24 f23 H locs hp hH => ?_)
  obtain ⟨rfl, h25, ⟨v26, h27⟩, k28⟩ := hp
  refine lv_aload_n hx hb dX9_feed_51 rfl (lv_at hl 0 rfl) ?_
  have h29 : f23 x = .inr (9, [.ref xt, .ref xn, .ref xr, .ref xi, .ref xw, .ref xs, .ref xl, .ref xc, .ref xh, .ref xf, .ref xm]) := (k28 x (g_neO h22 h18 (by decide)) (g_neOA h22 h20)).trans h22
  refine g_get C hH mx h29 iX9 rfl 0 (by decide) wd54 rfl rfl dX9_feed_52 ?_
  refine lv_iload hx hb dX9_feed_55 (lv_at hl 5 rfl) ?_
  refine g_Vv C hl.1 hA hH (As := [.int p4]) (rest := []) (k_append16 l E L f23 mt h25 mb h27 p4) my_X8_append wd60 mt h25 rfl rfl rfl (Nat.le_of_ble_eq_true rfl) ⟨Nat.le_of_ble_eq_true rfl, Nat.le_of_ble_eq_true rfl⟩ ⟨Nat.le_of_ble_eq_true rfl, Nat.le_of_ble_eq_true rfl⟩ dX9_feed_57 (fun L31 f30 H locs hp hH => ?_)
  obtain ⟨rfl, h32, ⟨v33, h34⟩, k35⟩ := hp
  refine lv_aload_n hx hb dX9_feed_60 rfl (lv_at hl 0 rfl) ?_
  have h36 : f30 x = .inr (9, [.ref xt, .ref xn, .ref xr, .ref xi, .ref xw, .ref xs, .ref xl, .ref xc, .ref xh, .ref xf, .ref xm]) := (k35 x (g_neO h29 h25 (by decide)) (g_neOA h29 h27)).trans h29
  refine g_get C hH mx h36 iX9 rfl 0 (by decide) wd54 rfl rfl dX9_feed_61 ?_
  refine g_get C hH mt h32 iX8 rfl 1 (by decide) wd55 rfl rfl dX9_feed_64 ?_
  refine g_iret C hr hH (Nat.le_of_ble_eq_true rfl) (Nat.le_of_ble_eq_true rfl) dX9_feed_67 ?_
  exact rfl
set_option maxHeartbeats 4000000 in
set_option maxRecDepth 100000 in
theorem k_end (l : Launch) (E : gE) (L : List Nat) (f : gF) {x xt xn xr xi xw xs xl xc xh xf xm : Nat} (mx : x ∈ L) (fx : f x = .inr (9, [.ref xt, .ref xn, .ref xr, .ref xi, .ref xw, .ref xs, .ref xl, .ref xc, .ref xh, .ref xf, .ref xm])) {xb : Nat} {v : Nat → Int32} (mt : xt ∈ L) (ft : f xt = .inr (8, [.ref xb, .int (0 : Int32)])) (mb : xb ∈ L) (fb : f xb = .inl (E.2.2 0, 800, .inl v)) (p0 : Int32) : gMi l E yX9_end cX9_end 2 .int (gRm 1 0 0) [.ref x, .int p0] L f (fun r _ _ => r = gEnd p0) := by
  refine gMi.intro (by decide) (Nat.le_of_ble_eq_true rfl) ?_
  intro p e s m below meth c A ls C hr hA hH hl
  have C : gC E cX9_end 2 RX9 p s m _ meth c := C
  have hl : lv_has ls 2 [(0, .ref x), (1, .int p0)] := hl
  have hx := C.1
  have hb := C.2.1
  refine lv_iload_n hx hb dX9_end_0 rfl (lv_at hl 1 rfl) ?_
  refine lv_if_lt (tgt := 15) hx hb dX9_end_1 (by decide) (fun c1 => ?_) (fun c1 => ?_)
  · skip
    refine lv_iconst (v := (-1 : Int32)) hx hb dX9_end_15 (by decide) ?_
    refine g_iret C hr hH (Nat.le_of_ble_eq_true rfl) (Nat.le_of_ble_eq_true rfl) dX9_end_16 ?_
    exact (by rw [gEnd, if_pos c1])
  · skip
    refine lv_iload_n hx hb dX9_end_4 rfl (lv_at hl 1 rfl) ?_
    refine lv_aload_n hx hb dX9_end_5 rfl (lv_at hl 0 rfl) ?_
    refine g_get C hH mx fx iX9 rfl 0 (by decide) wd54 rfl rfl dX9_end_6 ?_
    refine g_get C hH mt ft iX8 rfl 1 (by decide) wd55 rfl rfl dX9_end_9 ?_
    refine lv_icmp_le (tgt := 17) hx hb dX9_end_12 (by decide) (fun c2 => ?_) (fun c2 => ?_)
    · skip
      refine lv_aload_n hx hb dX9_end_17 rfl (lv_at hl 0 rfl) ?_
      refine g_get C hH mx fx iX9 rfl 0 (by decide) wd54 rfl rfl dX9_end_18 ?_
      refine lv_iload_n hx hb dX9_end_21 rfl (lv_at hl 1 rfl) ?_
      refine g_put C hH mt ft iX8 tyX8 tyX8_ok nmX8 rfl 1 (by decide) wd55 rfl rfl rfl rfl (Nat.le_of_ble_eq_true rfl) (fs' := [.ref xb, .int p0]) rfl dX9_end_22 (fun H locs hH => ?_)
      obtain ⟨f3, ef3⟩ : ∃ z : gF, z = va_up f xt (.inr (8, [.ref xb, .int p0])) := ⟨_, rfl⟩
      have hH : gH E A L f3 s.heap H locs := by rw [ef3]; exact hH
      have h4 : f3 xt = .inr (8, [.ref xb, .int p0]) := (congrFun ef3 xt).trans (va_up_self _ _ _)
      refine lv_iload_n hx hb dX9_end_25 rfl (lv_at hl 1 rfl) ?_
      refine g_iret C hr hH (Nat.le_of_ble_eq_true rfl) (Nat.le_of_ble_eq_true rfl) dX9_end_26 ?_
      exact (by rw [gEnd, if_neg c1, if_pos c2])
    · skip
      refine lv_iconst (v := (-1 : Int32)) hx hb dX9_end_15 (by decide) ?_
      refine g_iret C hr hH (Nat.le_of_ble_eq_true rfl) (Nat.le_of_ble_eq_true rfl) dX9_end_16 ?_
      exact (by rw [gEnd, if_neg c1, if_neg c2])
set_option maxHeartbeats 4000000 in
set_option maxRecDepth 100000 in
theorem k_fault (l : Launch) (E : gE) (L : List Nat) (f : gF) {x xt xn xr xi xw xs xl xc xh xf xm : Nat} (mx : x ∈ L) (fx : f x = .inr (9, [.ref xt, .ref xn, .ref xr, .ref xi, .ref xw, .ref xs, .ref xl, .ref xc, .ref xh, .ref xf, .ref xm])) {xd : Nat} (mr : xr ∈ L) (fr : f xr = .inr (5, [.ref xt, .ref xd, .int (0 : Int32), .int (0 : Int32), .int (0 : Int32), .int (0 : Int32), .int (-1 : Int32)])) (p0 : Int32) : gMi l E yX9_fault cX9_fault 2 .int (gRm 1 0 0) [.ref x, .int p0] L f (fun r _ _ => r = gFault p0) := by
  refine gMi.intro (by decide) (Nat.le_of_ble_eq_true rfl) ?_
  intro p e s m below meth c A ls C hr hA hH hl
  have C : gC E cX9_fault 2 RX9 p s m _ meth c := C
  have hl : lv_has ls 2 [(0, .ref x), (1, .int p0)] := hl
  have hx := C.1
  have hb := C.2.1
  refine lv_iload_n hx hb dX9_fault_0 rfl (lv_at hl 1 rfl) ?_
  refine lv_if_ne (tgt := 12) hx hb dX9_fault_1 (by decide) (fun c1 => ?_) (fun c1 => ?_)
  · skip
    refine lv_iload_n hx hb dX9_fault_12 rfl (lv_at hl 1 rfl) ?_
    refine lv_iconst (v := (1 : Int32)) hx hb dX9_fault_13 (by decide) ?_
    refine lv_icmp_ne (tgt := 27) hx hb dX9_fault_14 (by decide) (fun c2 => ?_) (fun c2 => ?_)
    · skip
      refine lv_iconst (v := (-1 : Int32)) hx hb dX9_fault_27 (by decide) ?_
      refine g_iret C hr hH (Nat.le_of_ble_eq_true rfl) (Nat.le_of_ble_eq_true rfl) dX9_fault_28 ?_
      exact (by rw [gFault, if_neg c1])
    · skip
      refine lv_aload_n hx hb dX9_fault_17 rfl (lv_at hl 0 rfl) ?_
      refine g_get C hH mx fx iX9 rfl 2 (by decide) wd61 rfl rfl dX9_fault_18 ?_
      refine g_get C hH mr fr iX5 rfl 6 (by decide) wd62 rfl rfl dX9_fault_21 ?_
      refine lv_goto (tgt := 28) hx hb dX9_fault_24 (by decide) ?_
      refine g_iret C hr hH (Nat.le_of_ble_eq_true rfl) (Nat.le_of_ble_eq_true rfl) dX9_fault_28 ?_
      exact (by rw [gFault, if_neg c1])
  · skip
    refine lv_aload_n hx hb dX9_fault_4 rfl (lv_at hl 0 rfl) ?_
    refine g_get C hH mx fx iX9 rfl 2 (by decide) wd61 rfl rfl dX9_fault_5 ?_
    refine g_get C hH mr fr iX5 rfl 5 (by decide) wd63 rfl rfl dX9_fault_8 ?_
    refine g_iret C hr hH (Nat.le_of_ble_eq_true rfl) (Nat.le_of_ble_eq_true rfl) dX9_fault_11 ?_
    exact (by rw [gFault, if_pos c1])
set_option maxHeartbeats 4000000 in
set_option maxRecDepth 100000 in
theorem k_isNothing (l : Launch) (E : gE) (L : List Nat) (f : gF) {q nu : Nat} (mq : q ∈ L) (fq : f q = .inr (6, [.ref nu, .int (-1 : Int32), .int (0 : Int32)])) : gMi l E yX6_isNothing cX6_isNothing 1 .boolean (gRm 1 0 0) [.ref q] L f (gRO (1 : Int32) L f) := by
  refine gMi.intro (by decide) (Nat.le_of_ble_eq_true rfl) ?_
  intro p e s m below meth c A ls C hr hA hH hl
  have C : gC E cX6_isNothing 1 RX6 p s m _ meth c := C
  have hl : lv_has ls 1 [(0, .ref q)] := hl
  have hx := C.1
  have hb := C.2.1
  refine lv_aload_n hx hb dX6_isNothing_0 rfl (lv_at hl 0 rfl) ?_
  refine g_get C hH mq fq iX6 rfl 1 (by decide) wd64 rfl rfl dX6_isNothing_1 ?_
  refine lv_iconst (v := (-1 : Int32)) hx hb dX6_isNothing_4 (by decide) ?_
  refine lv_icmp_ne (tgt := 12) hx hb dX6_isNothing_5 (by decide) (fun h => absurd (by decide) h) (fun _ => ?_)
  refine lv_iconst (v := (1 : Int32)) hx hb dX6_isNothing_8 (by decide) ?_
  refine lv_goto (tgt := 13) hx hb dX6_isNothing_9 (by decide) ?_
  refine g_zret C hr (by first | rfl | decide | (exact rfl)) hH (Nat.le_of_ble_eq_true rfl) (Nat.le_of_ble_eq_true rfl) dX6_isNothing_13 ?_
  exact ⟨rfl, rfl, rfl⟩
set_option maxHeartbeats 4000000 in
set_option maxRecDepth 100000 in
theorem k_rowsHad (l : Launch) (E : gE) (L : List Nat) (f : gF) {x xt xn xr xi xw xs xl xc xh xf xm : Nat} (mx : x ∈ L) (fx : f x = .inr (9, [.ref xt, .ref xn, .ref xr, .ref xi, .ref xw, .ref xs, .ref xl, .ref xc, .ref xh, .ref xf, .ref xm])) {wv : Nat → Option Nat} (mw : xw ∈ L) (fw : f xw = .inl (E.2.2 5, 4, .inr (.inr (.inr (.inr wv))))) (wr : gRows E L f wv) : gMi l E yX9_rowsHad cX9_rowsHad 3 .int (gRm 2 0 0) [.ref x] L f (gRO (0 : Int32) L f) := by
  refine gMi.intro (by decide) (Nat.le_of_ble_eq_true rfl) ?_
  intro p e s m below meth c A ls C hr hA hH hl
  have C : gC E cX9_rowsHad 3 RX9 p s m _ meth c := C
  have hl : lv_has ls 3 [(0, .ref x)] := hl
  have hx := C.1
  have hb := C.2.1
  refine lv_iconst (v := (0 : Int32)) hx hb dX9_rowsHad_0 (by decide) ?_
  refine lv_istore_n (lv' := [(1, .int (0 : Int32)), (0, .ref x)]) hx hb dX9_rowsHad_1 rfl hl (by decide) rfl (fun ls hl => ?_)
  refine lv_iconst (v := (0 : Int32)) hx hb dX9_rowsHad_2 (by decide) ?_
  refine lv_istore_n (lv' := [(2, .int (0 : Int32)), (1, .int (0 : Int32)), (0, .ref x)]) hx hb dX9_rowsHad_3 rfl hl (by decide) rfl (fun ls hl => ?_)
  refine lv_iload_n hx hb dX9_rowsHad_4 rfl (lv_at hl 0 rfl) ?_
  refine lv_iconst (v := (4 : Int32)) hx hb dX9_rowsHad_5 (by decide) ?_
  refine lv_icmp_ge (tgt := 30) hx hb dX9_rowsHad_6 (by decide) (fun h => absurd h (by decide)) (fun _ => ?_)
  refine lv_aload_n hx hb dX9_rowsHad_9 rfl (lv_at hl 2 rfl) ?_
  refine g_get C hH mx fx iX9 rfl 4 (by decide) wd65 rfl rfl dX9_rowsHad_10 ?_
  refine lv_iload_n hx hb dX9_rowsHad_13 rfl (lv_at hl 0 rfl) ?_
  obtain ⟨q1, nu2, u3, h4, m5, h6, m7, h8⟩ := wr ((0 : Int32)).toNatClampNeg (vp_lt (vp_inL (by decide)))
  refine g_aald C hH mw 5 rfl fw (vp_inL (by decide)) h4 dX9_rowsHad_14 ?_
  refine g_Vi C hl.1 hA hH (As := []) (rest := []) (k_isNothing l E L f m5 h6) my_X6_isNothing wd70 m5 h6 rfl rfl rfl (Nat.le_of_ble_eq_true rfl) ⟨Nat.le_of_ble_eq_true rfl, Nat.le_of_ble_eq_true rfl⟩ ⟨Nat.le_of_ble_eq_true rfl, Nat.le_of_ble_eq_true rfl⟩ dX9_rowsHad_15 (fun r11 L10 f9 H locs hp hH => ?_)
  obtain ⟨er11, rfl, rfl⟩ := hp
  subst er11
  refine lv_if_ne (tgt := 24) hx hb dX9_rowsHad_18 (by decide) (fun _ => ?_) (fun h => absurd h (by decide))
  refine lv_iinc (v := (1 : Int32)) (lv' := [(2, .int (1 : Int32)), (1, .int (0 : Int32)), (0, .ref x)]) hx hb dX9_rowsHad_24 hl (k := 0) rfl (by decide) (by decide) rfl (fun ls hl => ?_)
  refine lv_goto (tgt := 4) hx hb dX9_rowsHad_27 (by decide) ?_
  refine lv_iload_n hx hb dX9_rowsHad_4 rfl (lv_at hl 0 rfl) ?_
  refine lv_iconst (v := (4 : Int32)) hx hb dX9_rowsHad_5 (by decide) ?_
  refine lv_icmp_ge (tgt := 30) hx hb dX9_rowsHad_6 (by decide) (fun h => absurd h (by decide)) (fun _ => ?_)
  refine lv_aload_n hx hb dX9_rowsHad_9 rfl (lv_at hl 2 rfl) ?_
  refine g_get C hH mx fx iX9 rfl 4 (by decide) wd65 rfl rfl dX9_rowsHad_10 ?_
  refine lv_iload_n hx hb dX9_rowsHad_13 rfl (lv_at hl 0 rfl) ?_
  obtain ⟨q12, nu13, u14, h15, m16, h17, m18, h19⟩ := wr ((1 : Int32)).toNatClampNeg (vp_lt (vp_inL (by decide)))
  refine g_aald C hH mw 5 rfl fw (vp_inL (by decide)) h15 dX9_rowsHad_14 ?_
  refine g_Vi C hl.1 hA hH (As := []) (rest := []) (k_isNothing l E L f m16 h17) my_X6_isNothing wd70 m16 h17 rfl rfl rfl (Nat.le_of_ble_eq_true rfl) ⟨Nat.le_of_ble_eq_true rfl, Nat.le_of_ble_eq_true rfl⟩ ⟨Nat.le_of_ble_eq_true rfl, Nat.le_of_ble_eq_true rfl⟩ dX9_rowsHad_15 (fun r22 L21 f20 H locs hp hH => ?_)
  obtain ⟨er22, rfl, rfl⟩ := hp
  subst er22
  refine lv_if_ne (tgt := 24) hx hb dX9_rowsHad_18 (by decide) (fun _ => ?_) (fun h => absurd h (by decide))
  refine lv_iinc (v := (2 : Int32)) (lv' := [(2, .int (2 : Int32)), (1, .int (0 : Int32)), (0, .ref x)]) hx hb dX9_rowsHad_24 hl (k := 0) rfl (by decide) (by decide) rfl (fun ls hl => ?_)
  refine lv_goto (tgt := 4) hx hb dX9_rowsHad_27 (by decide) ?_
  refine lv_iload_n hx hb dX9_rowsHad_4 rfl (lv_at hl 0 rfl) ?_
  refine lv_iconst (v := (4 : Int32)) hx hb dX9_rowsHad_5 (by decide) ?_
  refine lv_icmp_ge (tgt := 30) hx hb dX9_rowsHad_6 (by decide) (fun h => absurd h (by decide)) (fun _ => ?_)
  refine lv_aload_n hx hb dX9_rowsHad_9 rfl (lv_at hl 2 rfl) ?_
  refine g_get C hH mx fx iX9 rfl 4 (by decide) wd65 rfl rfl dX9_rowsHad_10 ?_
  refine lv_iload_n hx hb dX9_rowsHad_13 rfl (lv_at hl 0 rfl) ?_
  obtain ⟨q23, nu24, u25, h26, m27, h28, m29, h30⟩ := wr ((2 : Int32)).toNatClampNeg (vp_lt (vp_inL (by decide)))
  refine g_aald C hH mw 5 rfl fw (vp_inL (by decide)) h26 dX9_rowsHad_14 ?_
  refine g_Vi C hl.1 hA hH (As := []) (rest := []) (k_isNothing l E L f m27 h28) my_X6_isNothing wd70 m27 h28 rfl rfl rfl (Nat.le_of_ble_eq_true rfl) ⟨Nat.le_of_ble_eq_true rfl, Nat.le_of_ble_eq_true rfl⟩ ⟨Nat.le_of_ble_eq_true rfl, Nat.le_of_ble_eq_true rfl⟩ dX9_rowsHad_15 (fun r33 L32 f31 H locs hp hH => ?_)
  obtain ⟨er33, rfl, rfl⟩ := hp
  subst er33
  refine lv_if_ne (tgt := 24) hx hb dX9_rowsHad_18 (by decide) (fun _ => ?_) (fun h => absurd h (by decide))
  refine lv_iinc (v := (3 : Int32)) (lv' := [(2, .int (3 : Int32)), (1, .int (0 : Int32)), (0, .ref x)]) hx hb dX9_rowsHad_24 hl (k := 0) rfl (by decide) (by decide) rfl (fun ls hl => ?_)
  refine lv_goto (tgt := 4) hx hb dX9_rowsHad_27 (by decide) ?_
  refine lv_iload_n hx hb dX9_rowsHad_4 rfl (lv_at hl 0 rfl) ?_
  refine lv_iconst (v := (4 : Int32)) hx hb dX9_rowsHad_5 (by decide) ?_
  refine lv_icmp_ge (tgt := 30) hx hb dX9_rowsHad_6 (by decide) (fun h => absurd h (by decide)) (fun _ => ?_)
  refine lv_aload_n hx hb dX9_rowsHad_9 rfl (lv_at hl 2 rfl) ?_
  refine g_get C hH mx fx iX9 rfl 4 (by decide) wd65 rfl rfl dX9_rowsHad_10 ?_
  refine lv_iload_n hx hb dX9_rowsHad_13 rfl (lv_at hl 0 rfl) ?_
  obtain ⟨q34, nu35, u36, h37, m38, h39, m40, h41⟩ := wr ((3 : Int32)).toNatClampNeg (vp_lt (vp_inL (by decide)))
  refine g_aald C hH mw 5 rfl fw (vp_inL (by decide)) h37 dX9_rowsHad_14 ?_
  refine g_Vi C hl.1 hA hH (As := []) (rest := []) (k_isNothing l E L f m38 h39) my_X6_isNothing wd70 m38 h39 rfl rfl rfl (Nat.le_of_ble_eq_true rfl) ⟨Nat.le_of_ble_eq_true rfl, Nat.le_of_ble_eq_true rfl⟩ ⟨Nat.le_of_ble_eq_true rfl, Nat.le_of_ble_eq_true rfl⟩ dX9_rowsHad_15 (fun r44 L43 f42 H locs hp hH => ?_)
  obtain ⟨er44, rfl, rfl⟩ := hp
  subst er44
  refine lv_if_ne (tgt := 24) hx hb dX9_rowsHad_18 (by decide) (fun _ => ?_) (fun h => absurd h (by decide))
  refine lv_iinc (v := (4 : Int32)) (lv' := [(2, .int (4 : Int32)), (1, .int (0 : Int32)), (0, .ref x)]) hx hb dX9_rowsHad_24 hl (k := 0) rfl (by decide) (by decide) rfl (fun ls hl => ?_)
  refine lv_goto (tgt := 4) hx hb dX9_rowsHad_27 (by decide) ?_
  refine lv_iload_n hx hb dX9_rowsHad_4 rfl (lv_at hl 0 rfl) ?_
  refine lv_iconst (v := (4 : Int32)) hx hb dX9_rowsHad_5 (by decide) ?_
  refine lv_icmp_ge (tgt := 30) hx hb dX9_rowsHad_6 (by decide) (fun _ => ?_) (fun h => absurd (by decide) h)
  refine lv_iload_n hx hb dX9_rowsHad_30 rfl (lv_at hl 1 rfl) ?_
  refine g_iret C hr hH (Nat.le_of_ble_eq_true rfl) (Nat.le_of_ble_eq_true rfl) dX9_rowsHad_31 ?_
  exact ⟨rfl, rfl, rfl⟩
set_option maxHeartbeats 4000000 in
set_option maxRecDepth 100000 in
theorem k_count (l : Launch) (E : gE) (L : List Nat) (f : gF) {x xt xn xr xi xw xs xl xc xh xf xm : Nat} (mx : x ∈ L) (fx : f x = .inr (9, [.ref xt, .ref xn, .ref xr, .ref xi, .ref xw, .ref xs, .ref xl, .ref xc, .ref xh, .ref xf, .ref xm])) {na : Nat → Nat} (mn : xn ∈ L) (fn : f xn = .inr (3, [.int (0 : Int32), .int (0 : Int32), .int (0 : Int32), .int (0 : Int32), .int (0 : Int32), .int (0 : Int32), .int (0 : Int32), .int (0 : Int32), .int (0 : Int32), .int (0 : Int32), .ref (na 0), .ref (na 1), .ref (na 2), .ref (na 3), .ref (na 4), .ref (na 5), .ref (na 6), .ref (na 7), .ref (na 8), .ref (na 9)])) {xb : Nat} {v : Nat → Int32} (mt : xt ∈ L) (ft : f xt = .inr (8, [.ref xb, .int (0 : Int32)])) (mb : xb ∈ L) (fb : f xb = .inl (E.2.2 0, 800, .inl v)) {wv : Nat → Option Nat} (mw : xw ∈ L) (fw : f xw = .inl (E.2.2 5, 4, .inr (.inr (.inr (.inr wv))))) (wr : gRows E L f wv) (p0 : Int32) : gMi l E yX9_count cX9_count 2 .int (gRm 3 0 0) [.ref x, .int p0] L f (fun r _ _ => r = gCount p0) := by
  refine gMi.intro (by decide) (Nat.le_of_ble_eq_true rfl) ?_
  intro p e s m below meth c A ls C hr hA hH hl
  have C : gC E cX9_count 2 RX9 p s m _ meth c := C
  have hl : lv_has ls 2 [(0, .ref x), (1, .int p0)] := hl
  have hx := C.1
  have hb := C.2.1
  refine lv_iload_n hx hb dX9_count_0 rfl (lv_at hl 1 rfl) ?_
  rcases g_sw p0 0 11 (by decide) with c1 | c1
  · refine lv_tableOut (tgt := 157) hx hb dX9_count_1 (by first | exact c1 | omega) (by decide) ?_
    refine lv_iconst (v := (-1 : Int32)) hx hb dX9_count_157 (by decide) ?_
    refine g_iret C hr hH (Nat.le_of_ble_eq_true rfl) (Nat.le_of_ble_eq_true rfl) dX9_count_158 ?_
    exact (if_pos c1).symm
  · obtain ⟨j, hj, ej⟩ := c1
    rcases (show j = 0 ∨ j = 1 ∨ j = 2 ∨ j = 3 ∨ j = 4 ∨ j = 5 ∨ j = 6 ∨ j = 7 ∨ j = 8 ∨ j = 9 ∨ j = 10 ∨ j = 11 by omega) with rfl | rfl | rfl | rfl | rfl | rfl | rfl | rfl | rfl | rfl | rfl | rfl
    · obtain rfl : p0 = (0 : Int32) := g_swE ej (by decide)
      refine lv_tableIn (tgt := 64) (off := 63) hx hb dX9_count_1 (by decide) (by decide) (by decide) (by decide) ?_
      refine lv_aload_n hx hb dX9_count_64 rfl (lv_at hl 0 rfl) ?_
      refine g_get C hH mx fx iX9 rfl 1 (by decide) wd18 rfl rfl dX9_count_65 ?_
      refine g_get C hH mn fn iX3 rfl 1 (by decide) wd71 rfl rfl dX9_count_68 ?_
      refine g_iret C hr hH (Nat.le_of_ble_eq_true rfl) (Nat.le_of_ble_eq_true rfl) dX9_count_71 ?_
      exact (by decide)
    · obtain rfl : p0 = (1 : Int32) := g_swE ej (by decide)
      refine lv_tableIn (tgt := 72) (off := 71) hx hb dX9_count_1 (by decide) (by decide) (by decide) (by decide) ?_
      refine lv_aload_n hx hb dX9_count_72 rfl (lv_at hl 0 rfl) ?_
      refine g_get C hH mx fx iX9 rfl 1 (by decide) wd18 rfl rfl dX9_count_73 ?_
      refine g_get C hH mn fn iX3 rfl 2 (by decide) wd72 rfl rfl dX9_count_76 ?_
      refine g_iret C hr hH (Nat.le_of_ble_eq_true rfl) (Nat.le_of_ble_eq_true rfl) dX9_count_79 ?_
      exact (by decide)
    · obtain rfl : p0 = (2 : Int32) := g_swE ej (by decide)
      refine lv_tableIn (tgt := 80) (off := 79) hx hb dX9_count_1 (by decide) (by decide) (by decide) (by decide) ?_
      refine lv_aload_n hx hb dX9_count_80 rfl (lv_at hl 0 rfl) ?_
      refine g_get C hH mx fx iX9 rfl 1 (by decide) wd18 rfl rfl dX9_count_81 ?_
      refine g_get C hH mn fn iX3 rfl 3 (by decide) wd73 rfl rfl dX9_count_84 ?_
      refine g_iret C hr hH (Nat.le_of_ble_eq_true rfl) (Nat.le_of_ble_eq_true rfl) dX9_count_87 ?_
      exact (by decide)
    · obtain rfl : p0 = (3 : Int32) := g_swE ej (by decide)
      refine lv_tableIn (tgt := 88) (off := 87) hx hb dX9_count_1 (by decide) (by decide) (by decide) (by decide) ?_
      refine lv_aload_n hx hb dX9_count_88 rfl (lv_at hl 0 rfl) ?_
      refine g_get C hH mx fx iX9 rfl 1 (by decide) wd18 rfl rfl dX9_count_89 ?_
      refine g_get C hH mn fn iX3 rfl 4 (by decide) wd74 rfl rfl dX9_count_92 ?_
      refine g_iret C hr hH (Nat.le_of_ble_eq_true rfl) (Nat.le_of_ble_eq_true rfl) dX9_count_95 ?_
      exact (by decide)
    · obtain rfl : p0 = (4 : Int32) := g_swE ej (by decide)
      refine lv_tableIn (tgt := 96) (off := 95) hx hb dX9_count_1 (by decide) (by decide) (by decide) (by decide) ?_
      refine lv_aload_n hx hb dX9_count_96 rfl (lv_at hl 0 rfl) ?_
      refine g_get C hH mx fx iX9 rfl 1 (by decide) wd18 rfl rfl dX9_count_97 ?_
      refine g_get C hH mn fn iX3 rfl 5 (by decide) wd75 rfl rfl dX9_count_100 ?_
      refine g_iret C hr hH (Nat.le_of_ble_eq_true rfl) (Nat.le_of_ble_eq_true rfl) dX9_count_103 ?_
      exact (by decide)
    · obtain rfl : p0 = (5 : Int32) := g_swE ej (by decide)
      refine lv_tableIn (tgt := 104) (off := 103) hx hb dX9_count_1 (by decide) (by decide) (by decide) (by decide) ?_
      refine lv_aload_n hx hb dX9_count_104 rfl (lv_at hl 0 rfl) ?_
      refine g_get C hH mx fx iX9 rfl 1 (by decide) wd18 rfl rfl dX9_count_105 ?_
      refine g_Vi C hl.1 hA hH (As := []) (rest := []) (k_cells l E L f mn fn) my_X3_cells wd76 mn fn rfl rfl rfl (Nat.le_of_ble_eq_true rfl) ⟨Nat.le_of_ble_eq_true rfl, Nat.le_of_ble_eq_true rfl⟩ ⟨Nat.le_of_ble_eq_true rfl, Nat.le_of_ble_eq_true rfl⟩ dX9_count_108 (fun r4 L3 f2 H locs hp hH => ?_)
      obtain ⟨er4, rfl, rfl⟩ := hp
      subst er4
      refine g_iret C hr hH (Nat.le_of_ble_eq_true rfl) (Nat.le_of_ble_eq_true rfl) dX9_count_111 ?_
      exact (by decide)
    · obtain rfl : p0 = (6 : Int32) := g_swE ej (by decide)
      refine lv_tableIn (tgt := 112) (off := 111) hx hb dX9_count_1 (by decide) (by decide) (by decide) (by decide) ?_
      refine lv_aload_n hx hb dX9_count_112 rfl (lv_at hl 0 rfl) ?_
      refine g_get C hH mx fx iX9 rfl 1 (by decide) wd18 rfl rfl dX9_count_113 ?_
      refine g_get C hH mn fn iX3 rfl 6 (by decide) wd77 rfl rfl dX9_count_116 ?_
      refine g_iret C hr hH (Nat.le_of_ble_eq_true rfl) (Nat.le_of_ble_eq_true rfl) dX9_count_119 ?_
      exact (by decide)
    · obtain rfl : p0 = (7 : Int32) := g_swE ej (by decide)
      refine lv_tableIn (tgt := 120) (off := 119) hx hb dX9_count_1 (by decide) (by decide) (by decide) (by decide) ?_
      refine lv_aload_n hx hb dX9_count_120 rfl (lv_at hl 0 rfl) ?_
      refine g_get C hH mx fx iX9 rfl 1 (by decide) wd18 rfl rfl dX9_count_121 ?_
      refine g_get C hH mn fn iX3 rfl 7 (by decide) wd78 rfl rfl dX9_count_124 ?_
      refine g_iret C hr hH (Nat.le_of_ble_eq_true rfl) (Nat.le_of_ble_eq_true rfl) dX9_count_127 ?_
      exact (by decide)
    · obtain rfl : p0 = (8 : Int32) := g_swE ej (by decide)
      refine lv_tableIn (tgt := 128) (off := 127) hx hb dX9_count_1 (by decide) (by decide) (by decide) (by decide) ?_
      refine lv_aload_n hx hb dX9_count_128 rfl (lv_at hl 0 rfl) ?_
      refine g_get C hH mx fx iX9 rfl 1 (by decide) wd18 rfl rfl dX9_count_129 ?_
      refine g_get C hH mn fn iX3 rfl 9 (by decide) wd79 rfl rfl dX9_count_132 ?_
      refine g_iret C hr hH (Nat.le_of_ble_eq_true rfl) (Nat.le_of_ble_eq_true rfl) dX9_count_135 ?_
      exact (by decide)
    · obtain rfl : p0 = (9 : Int32) := g_swE ej (by decide)
      refine lv_tableIn (tgt := 136) (off := 135) hx hb dX9_count_1 (by decide) (by decide) (by decide) (by decide) ?_
      refine lv_aload_n hx hb dX9_count_136 rfl (lv_at hl 0 rfl) ?_
      refine g_get C hH mx fx iX9 rfl 1 (by decide) wd18 rfl rfl dX9_count_137 ?_
      refine g_get C hH mn fn iX3 rfl 0 (by decide) wd80 rfl rfl dX9_count_140 ?_
      refine g_iret C hr hH (Nat.le_of_ble_eq_true rfl) (Nat.le_of_ble_eq_true rfl) dX9_count_143 ?_
      exact (by decide)
    · obtain rfl : p0 = (10 : Int32) := g_swE ej (by decide)
      refine lv_tableIn (tgt := 144) (off := 143) hx hb dX9_count_1 (by decide) (by decide) (by decide) (by decide) ?_
      refine lv_aload_n hx hb dX9_count_144 rfl (lv_at hl 0 rfl) ?_
      refine g_get C hH mx fx iX9 rfl 0 (by decide) wd54 rfl rfl dX9_count_145 ?_
      refine g_get C hH mt ft iX8 rfl 1 (by decide) wd55 rfl rfl dX9_count_148 ?_
      refine g_iret C hr hH (Nat.le_of_ble_eq_true rfl) (Nat.le_of_ble_eq_true rfl) dX9_count_151 ?_
      exact (by decide)
    · obtain rfl : p0 = (11 : Int32) := g_swE ej (by decide)
      refine lv_tableIn (tgt := 152) (off := 151) hx hb dX9_count_1 (by decide) (by decide) (by decide) (by decide) ?_
      refine lv_aload_n hx hb dX9_count_152 rfl (lv_at hl 0 rfl) ?_
      refine g_Vi C hl.1 hA hH (As := []) (rest := []) (k_rowsHad l E L f mx fx mw fw wr) my_X9_rowsHad wd84 mx fx rfl rfl rfl (Nat.le_of_ble_eq_true rfl) ⟨Nat.le_of_ble_eq_true rfl, Nat.le_of_ble_eq_true rfl⟩ ⟨Nat.le_of_ble_eq_true rfl, Nat.le_of_ble_eq_true rfl⟩ dX9_count_153 (fun r7 L6 f5 H locs hp hH => ?_)
      obtain ⟨er7, rfl, rfl⟩ := hp
      subst er7
      refine g_iret C hr hH (Nat.le_of_ble_eq_true rfl) (Nat.le_of_ble_eq_true rfl) dX9_count_156 ?_
      exact (by decide)
set_option maxHeartbeats 4000000 in
set_option maxRecDepth 100000 in
theorem k_write (l : Launch) (E : gE) (L : List Nat) (f : gF) {x xt xn xr xi xw xs xl xc xh xf xm : Nat} (mx : x ∈ L) (fx : f x = .inr (9, [.ref xt, .ref xn, .ref xr, .ref xi, .ref xw, .ref xs, .ref xl, .ref xc, .ref xh, .ref xf, .ref xm])) {wv : Nat → Option Nat} (mw : xw ∈ L) (fw : f xw = .inl (E.2.2 5, 4, .inr (.inr (.inr (.inr wv))))) (wr : gRows E L f wv) (p0 p1 : Int32) (p2 : Int64) : gMi l E yX9_write cX9_write 6 .int (gRm 2 0 0) [.ref x, .int p0, .int p1, .long p2] L f (fun r _ _ => r = gWrite p0) := by
  refine gMi.intro (by decide) (Nat.le_of_ble_eq_true rfl) ?_
  intro p e s m below meth c A ls C hr hA hH hl
  have C : gC E cX9_write 6 RX9 p s m _ meth c := C
  have hl : lv_has ls 6 [(0, .ref x), (1, .int p0), (2, .int p1), (3, .long p2)] := hl
  have hx := C.1
  have hb := C.2.1
  refine lv_iload_n hx hb dX9_write_0 rfl (lv_at hl 1 rfl) ?_
  refine g_Si C hl.1 hA hH (As := [.int p0]) (rest := []) (k_isSlot l E L f p0) my_X9_isSlot wd17 rfl rfl (Nat.le_of_ble_eq_true rfl) ⟨Nat.le_of_ble_eq_true rfl, Nat.le_of_ble_eq_true rfl⟩ ⟨Nat.le_of_ble_eq_true rfl, Nat.le_of_ble_eq_true rfl⟩ dX9_write_1 (fun r3 L2 f1 H locs hp hH => ?_)
  obtain ⟨er3, rfl, rfl⟩ := hp
  subst er3
  refine lv_if_ne (tgt := 10) hx hb dX9_write_4 (by decide) (fun c4 => ?_) (fun c4 => ?_)
  · skip
    refine lv_aload_n hx hb dX9_write_10 rfl (lv_at hl 0 rfl) ?_
    refine g_get C hH mx fx iX9 rfl 4 (by decide) wd65 rfl rfl dX9_write_11 ?_
    refine lv_iload_n hx hb dX9_write_14 rfl (lv_at hl 1 rfl) ?_
    obtain ⟨q5, nu6, u7, h8, m9, h10, m11, h12⟩ := wr (p0).toNatClampNeg (vp_lt (gSlot_in c4))
    refine g_aald C hH mw 5 rfl fw (gSlot_in c4) h8 dX9_write_15 ?_
    refine lv_astore (lv' := [(5, .ref q5), (0, .ref x), (1, .int p0), (2, .int p1), (3, .long p2)]) hx hb dX9_write_16 hl (by decide) rfl (fun ls hl => ?_)
    refine lv_aload hx hb dX9_write_18 (lv_at hl 0 rfl) ?_
    refine g_Vi C hl.1 hA hH (As := []) (rest := []) (k_isNothing l E L f m9 h10) my_X6_isNothing wd70 m9 h10 rfl rfl rfl (Nat.le_of_ble_eq_true rfl) ⟨Nat.le_of_ble_eq_true rfl, Nat.le_of_ble_eq_true rfl⟩ ⟨Nat.le_of_ble_eq_true rfl, Nat.le_of_ble_eq_true rfl⟩ dX9_write_20 (fun r15 L14 f13 H locs hp hH => ?_)
    obtain ⟨er15, rfl, rfl⟩ := hp
    subst er15
    refine lv_if_eq (tgt := 29) hx hb dX9_write_23 (by decide) (fun h => absurd h (by decide)) (fun _ => ?_)
    refine lv_bipush (v := (-6 : Int32)) hx hb dX9_write_26 (by decide) ?_
    refine g_iret C hr hH (Nat.le_of_ble_eq_true rfl) (Nat.le_of_ble_eq_true rfl) dX9_write_28 ?_
    exact (by rw [gWrite, if_neg c4])
  · skip
    refine lv_bipush (v := (-2 : Int32)) hx hb dX9_write_7 (by decide) ?_
    refine g_iret C hr hH (Nat.le_of_ble_eq_true rfl) (Nat.le_of_ble_eq_true rfl) dX9_write_9 ?_
    exact (by rw [gWrite, if_pos c4])
set_option maxHeartbeats 4000000 in
set_option maxRecDepth 100000 in
theorem k_paste (l : Launch) (E : gE) (L : List Nat) (f : gF) {x xt xn xr xi xw xs xl xc xh xf xm : Nat} (mx : x ∈ L) (fx : f x = .inr (9, [.ref xt, .ref xn, .ref xr, .ref xi, .ref xw, .ref xs, .ref xl, .ref xc, .ref xh, .ref xf, .ref xm])) {wv : Nat → Option Nat} (mw : xw ∈ L) (fw : f xw = .inl (E.2.2 5, 4, .inr (.inr (.inr (.inr wv))))) (wr : gRows E L f wv) (p0 p1 p2 p3 p4 : Int32) : gMi l E yX9_paste cX9_paste 8 .int (gRm 2 0 0) [.ref x, .int p0, .int p1, .int p2, .int p3, .int p4] L f (fun r _ _ => r = gPaste p0 p2) := by
  refine gMi.intro (by decide) (Nat.le_of_ble_eq_true rfl) ?_
  intro p e s m below meth c A ls C hr hA hH hl
  have C : gC E cX9_paste 8 RX9 p s m _ meth c := C
  have hl : lv_has ls 8 [(0, .ref x), (1, .int p0), (2, .int p1), (3, .int p2), (4, .int p3), (5, .int p4)] := hl
  have hx := C.1
  have hb := C.2.1
  refine lv_iload_n hx hb dX9_paste_0 rfl (lv_at hl 1 rfl) ?_
  refine g_Si C hl.1 hA hH (As := [.int p0]) (rest := []) (k_isSlot l E L f p0) my_X9_isSlot wd17 rfl rfl (Nat.le_of_ble_eq_true rfl) ⟨Nat.le_of_ble_eq_true rfl, Nat.le_of_ble_eq_true rfl⟩ ⟨Nat.le_of_ble_eq_true rfl, Nat.le_of_ble_eq_true rfl⟩ dX9_paste_1 (fun r3 L2 f1 H locs hp hH => ?_)
  obtain ⟨er3, rfl, rfl⟩ := hp
  subst er3
  refine lv_if_eq (tgt := 14) hx hb dX9_paste_4 (by decide) (fun c4 => ?_) (fun c4 => ?_)
  · skip
    refine lv_bipush (v := (-2 : Int32)) hx hb dX9_paste_14 (by decide) ?_
    refine g_iret C hr hH (Nat.le_of_ble_eq_true rfl) (Nat.le_of_ble_eq_true rfl) dX9_paste_16 ?_
    exact (by rw [gPaste, if_pos c4])
  · skip
    refine lv_iload_n hx hb dX9_paste_7 rfl (lv_at hl 3 rfl) ?_
    refine g_Si C hl.1 hA hH (As := [.int p2]) (rest := []) (k_isSlot l E L f p2) my_X9_isSlot wd17 rfl rfl (Nat.le_of_ble_eq_true rfl) ⟨Nat.le_of_ble_eq_true rfl, Nat.le_of_ble_eq_true rfl⟩ ⟨Nat.le_of_ble_eq_true rfl, Nat.le_of_ble_eq_true rfl⟩ dX9_paste_8 (fun r7 L6 f5 H locs hp hH => ?_)
    obtain ⟨er7, rfl, rfl⟩ := hp
    subst er7
    refine lv_if_ne (tgt := 17) hx hb dX9_paste_11 (by decide) (fun c8 => ?_) (fun c8 => ?_)
    · skip
      refine lv_aload_n hx hb dX9_paste_17 rfl (lv_at hl 0 rfl) ?_
      refine g_get C hH mx fx iX9 rfl 4 (by decide) wd65 rfl rfl dX9_paste_18 ?_
      refine lv_iload_n hx hb dX9_paste_21 rfl (lv_at hl 1 rfl) ?_
      obtain ⟨q9, nu10, u11, h12, m13, h14, m15, h16⟩ := wr (p0).toNatClampNeg (vp_lt (gSlot_in c4))
      refine g_aald C hH mw 5 rfl fw (gSlot_in c4) h12 dX9_paste_22 ?_
      refine lv_astore (lv' := [(6, .ref q9), (0, .ref x), (1, .int p0), (2, .int p1), (3, .int p2), (4, .int p3), (5, .int p4)]) hx hb dX9_paste_23 hl (by decide) rfl (fun ls hl => ?_)
      refine lv_aload_n hx hb dX9_paste_25 rfl (lv_at hl 1 rfl) ?_
      refine g_get C hH mx fx iX9 rfl 4 (by decide) wd65 rfl rfl dX9_paste_26 ?_
      refine lv_iload_n hx hb dX9_paste_29 rfl (lv_at hl 4 rfl) ?_
      obtain ⟨q17, nu18, u19, h20, m21, h22, m23, h24⟩ := wr (p2).toNatClampNeg (vp_lt (gSlot_in c8))
      refine g_aald C hH mw 5 rfl fw (gSlot_in c8) h20 dX9_paste_30 ?_
      refine lv_astore (lv' := [(7, .ref q17), (6, .ref q9), (0, .ref x), (1, .int p0), (2, .int p1), (3, .int p2), (4, .int p3), (5, .int p4)]) hx hb dX9_paste_31 hl (by decide) rfl (fun ls hl => ?_)
      refine lv_aload hx hb dX9_paste_33 (lv_at hl 1 rfl) ?_
      refine g_Vi C hl.1 hA hH (As := []) (rest := []) (k_isNothing l E L f m13 h14) my_X6_isNothing wd70 m13 h14 rfl rfl rfl (Nat.le_of_ble_eq_true rfl) ⟨Nat.le_of_ble_eq_true rfl, Nat.le_of_ble_eq_true rfl⟩ ⟨Nat.le_of_ble_eq_true rfl, Nat.le_of_ble_eq_true rfl⟩ dX9_paste_35 (fun r27 L26 f25 H locs hp hH => ?_)
      obtain ⟨er27, rfl, rfl⟩ := hp
      subst er27
      refine lv_if_ne (tgt := 49) hx hb dX9_paste_38 (by decide) (fun _ => ?_) (fun h => absurd h (by decide))
      refine lv_bipush (v := (-6 : Int32)) hx hb dX9_paste_49 (by decide) ?_
      refine g_iret C hr hH (Nat.le_of_ble_eq_true rfl) (Nat.le_of_ble_eq_true rfl) dX9_paste_51 ?_
      exact (by rw [gPaste, if_neg c4, if_neg c8])
    · skip
      refine lv_bipush (v := (-2 : Int32)) hx hb dX9_paste_14 (by decide) ?_
      refine g_iret C hr hH (Nat.le_of_ble_eq_true rfl) (Nat.le_of_ble_eq_true rfl) dX9_paste_16 ?_
      exact (by rw [gPaste, if_neg c4, if_pos c8])
end
section
theorem dJ7_fill_d0a16_0 : decode cJ7_fill_d0a16 0 = .ok (.iconst 0, 1) := by decide +kernel
theorem dJ7_fill_d0a16_1 : decode cJ7_fill_d0a16 1 = .ok (.istore_n 3, 1) := by decide +kernel
theorem dJ7_fill_d0a16_2 : decode cJ7_fill_d0a16 2 = .ok (.aload_n 0, 1) := by decide +kernel
theorem dJ7_fill_d0a16_3 : decode cJ7_fill_d0a16 3 = .ok (.arraylength, 1) := by decide +kernel
theorem dJ7_fill_d0a16_4 : decode cJ7_fill_d0a16 4 = .ok (.istore 4, 2) := by decide +kernel
theorem dJ7_fill_d0a16_6 : decode cJ7_fill_d0a16 6 = .ok (.iload_n 3, 1) := by decide +kernel
theorem dJ7_fill_d0a16_7 : decode cJ7_fill_d0a16 7 = .ok (.iload 4, 2) := by decide +kernel
theorem dJ7_fill_d0a16_9 : decode cJ7_fill_d0a16 9 = .ok (.if_icmp .ge 13, 3) := by decide +kernel
theorem dJ7_fill_d0a16_12 : decode cJ7_fill_d0a16 12 = .ok (.aload_n 0, 1) := by decide +kernel
theorem dJ7_fill_d0a16_13 : decode cJ7_fill_d0a16 13 = .ok (.iload_n 3, 1) := by decide +kernel
theorem dJ7_fill_d0a16_14 : decode cJ7_fill_d0a16 14 = .ok (.lload_n 1, 1) := by decide +kernel
theorem dJ7_fill_d0a16_15 : decode cJ7_fill_d0a16 15 = .ok (.lastore, 1) := by decide +kernel
theorem dJ7_fill_d0a16_16 : decode cJ7_fill_d0a16 16 = .ok (.iinc 3 1, 3) := by decide +kernel
theorem dJ7_fill_d0a16_19 : decode cJ7_fill_d0a16 19 = .ok (.goto (-13), 3) := by decide +kernel
theorem dJ7_fill_d0a16_22 : decode cJ7_fill_d0a16 22 = .ok (.return_, 1) := by decide +kernel
theorem dX3_become_0 : decode cX3_become 0 = .ok (.aload_n 0, 1) := by decide +kernel
theorem dX3_become_1 : decode cX3_become 1 = .ok (.aload_n 1, 1) := by decide +kernel
theorem dX3_become_2 : decode cX3_become 2 = .ok (.getfield 42, 3) := by decide +kernel
theorem dX3_become_5 : decode cX3_become 5 = .ok (.putfield 42, 3) := by decide +kernel
theorem dX3_become_8 : decode cX3_become 8 = .ok (.aload_n 0, 1) := by decide +kernel
theorem dX3_become_9 : decode cX3_become 9 = .ok (.aload_n 1, 1) := by decide +kernel
theorem dX3_become_10 : decode cX3_become 10 = .ok (.getfield 46, 3) := by decide +kernel
theorem dX3_become_13 : decode cX3_become 13 = .ok (.putfield 46, 3) := by decide +kernel
theorem dX3_become_16 : decode cX3_become 16 = .ok (.aload_n 0, 1) := by decide +kernel
theorem dX3_become_17 : decode cX3_become 17 = .ok (.aload_n 1, 1) := by decide +kernel
theorem dX3_become_18 : decode cX3_become 18 = .ok (.getfield 49, 3) := by decide +kernel
theorem dX3_become_21 : decode cX3_become 21 = .ok (.putfield 49, 3) := by decide +kernel
theorem dX3_become_24 : decode cX3_become 24 = .ok (.aload_n 0, 1) := by decide +kernel
theorem dX3_become_25 : decode cX3_become 25 = .ok (.aload_n 1, 1) := by decide +kernel
theorem dX3_become_26 : decode cX3_become 26 = .ok (.getfield 52, 3) := by decide +kernel
theorem dX3_become_29 : decode cX3_become 29 = .ok (.putfield 52, 3) := by decide +kernel
theorem dX3_become_32 : decode cX3_become 32 = .ok (.aload_n 0, 1) := by decide +kernel
theorem dX3_become_33 : decode cX3_become 33 = .ok (.aload_n 1, 1) := by decide +kernel
theorem dX3_become_34 : decode cX3_become 34 = .ok (.getfield 55, 3) := by decide +kernel
theorem dX3_become_37 : decode cX3_become 37 = .ok (.putfield 55, 3) := by decide +kernel
theorem dX3_become_40 : decode cX3_become 40 = .ok (.aload_n 0, 1) := by decide +kernel
theorem dX3_become_41 : decode cX3_become 41 = .ok (.aload_n 1, 1) := by decide +kernel
theorem dX3_become_42 : decode cX3_become 42 = .ok (.getfield 58, 3) := by decide +kernel
theorem dX3_become_45 : decode cX3_become 45 = .ok (.putfield 58, 3) := by decide +kernel
theorem dX3_become_48 : decode cX3_become 48 = .ok (.aload_n 0, 1) := by decide +kernel
theorem dX3_become_49 : decode cX3_become 49 = .ok (.aload_n 1, 1) := by decide +kernel
theorem dX3_become_50 : decode cX3_become 50 = .ok (.getfield 61, 3) := by decide +kernel
theorem dX3_become_53 : decode cX3_become 53 = .ok (.putfield 61, 3) := by decide +kernel
theorem dX3_become_56 : decode cX3_become 56 = .ok (.aload_n 0, 1) := by decide +kernel
theorem dX3_become_57 : decode cX3_become 57 = .ok (.aload_n 1, 1) := by decide +kernel
theorem dX3_become_58 : decode cX3_become 58 = .ok (.getfield 64, 3) := by decide +kernel
theorem dX3_become_61 : decode cX3_become 61 = .ok (.putfield 64, 3) := by decide +kernel
theorem dX3_become_64 : decode cX3_become 64 = .ok (.aload_n 0, 1) := by decide +kernel
theorem dX3_become_65 : decode cX3_become 65 = .ok (.aload_n 1, 1) := by decide +kernel
theorem dX3_become_66 : decode cX3_become 66 = .ok (.getfield 67, 3) := by decide +kernel
theorem dX3_become_69 : decode cX3_become 69 = .ok (.putfield 67, 3) := by decide +kernel
theorem dX3_become_72 : decode cX3_become 72 = .ok (.aload_n 0, 1) := by decide +kernel
theorem dX3_become_73 : decode cX3_become 73 = .ok (.aload_n 1, 1) := by decide +kernel
theorem dX3_become_74 : decode cX3_become 74 = .ok (.getfield 70, 3) := by decide +kernel
theorem dX3_become_77 : decode cX3_become 77 = .ok (.putfield 70, 3) := by decide +kernel
theorem dX3_become_80 : decode cX3_become 80 = .ok (.aload_n 1, 1) := by decide +kernel
theorem dX3_become_81 : decode cX3_become 81 = .ok (.getfield 9, 3) := by decide +kernel
theorem dX3_become_84 : decode cX3_become 84 = .ok (.iconst 0, 1) := by decide +kernel
theorem dX3_become_85 : decode cX3_become 85 = .ok (.aload_n 0, 1) := by decide +kernel
theorem dX3_become_86 : decode cX3_become 86 = .ok (.getfield 9, 3) := by decide +kernel
theorem dX3_become_89 : decode cX3_become 89 = .ok (.iconst 0, 1) := by decide +kernel
theorem dX3_become_90 : decode cX3_become 90 = .ok (.iconst 4, 1) := by decide +kernel
theorem dX3_become_91 : decode cX3_become 91 = .ok (.invokestatic 73, 3) := by decide +kernel
theorem dX3_become_94 : decode cX3_become 94 = .ok (.aload_n 1, 1) := by decide +kernel
theorem dX3_become_95 : decode cX3_become 95 = .ok (.getfield 15, 3) := by decide +kernel
theorem dX3_become_98 : decode cX3_become 98 = .ok (.iconst 0, 1) := by decide +kernel
theorem dX3_become_99 : decode cX3_become 99 = .ok (.aload_n 0, 1) := by decide +kernel
theorem dX3_become_100 : decode cX3_become 100 = .ok (.getfield 15, 3) := by decide +kernel
theorem dX3_become_103 : decode cX3_become 103 = .ok (.iconst 0, 1) := by decide +kernel
theorem dX3_become_104 : decode cX3_become 104 = .ok (.iconst 4, 1) := by decide +kernel
theorem dX3_become_105 : decode cX3_become 105 = .ok (.invokestatic 73, 3) := by decide +kernel
theorem dX3_become_108 : decode cX3_become 108 = .ok (.aload_n 1, 1) := by decide +kernel
theorem dX3_become_109 : decode cX3_become 109 = .ok (.getfield 18, 3) := by decide +kernel
theorem dX3_become_112 : decode cX3_become 112 = .ok (.iconst 0, 1) := by decide +kernel
theorem dX3_become_113 : decode cX3_become 113 = .ok (.aload_n 0, 1) := by decide +kernel
theorem dX3_become_114 : decode cX3_become 114 = .ok (.getfield 18, 3) := by decide +kernel
theorem dX3_become_117 : decode cX3_become 117 = .ok (.iconst 0, 1) := by decide +kernel
theorem dX3_become_118 : decode cX3_become 118 = .ok (.iconst 4, 1) := by decide +kernel
theorem dX3_become_119 : decode cX3_become 119 = .ok (.invokestatic 73, 3) := by decide +kernel
theorem dX3_become_122 : decode cX3_become 122 = .ok (.aload_n 1, 1) := by decide +kernel
theorem dX3_become_123 : decode cX3_become 123 = .ok (.getfield 21, 3) := by decide +kernel
theorem dX3_become_126 : decode cX3_become 126 = .ok (.iconst 0, 1) := by decide +kernel
theorem dX3_become_127 : decode cX3_become 127 = .ok (.aload_n 0, 1) := by decide +kernel
theorem dX3_become_128 : decode cX3_become 128 = .ok (.getfield 21, 3) := by decide +kernel
theorem dX3_become_131 : decode cX3_become 131 = .ok (.iconst 0, 1) := by decide +kernel
theorem dX3_become_132 : decode cX3_become 132 = .ok (.bipush 6, 2) := by decide +kernel
theorem dX3_become_134 : decode cX3_become 134 = .ok (.invokestatic 73, 3) := by decide +kernel
theorem dX3_become_137 : decode cX3_become 137 = .ok (.aload_n 1, 1) := by decide +kernel
theorem dX3_become_138 : decode cX3_become 138 = .ok (.getfield 24, 3) := by decide +kernel
theorem dX3_become_141 : decode cX3_become 141 = .ok (.iconst 0, 1) := by decide +kernel
theorem dX3_become_142 : decode cX3_become 142 = .ok (.aload_n 0, 1) := by decide +kernel
theorem dX3_become_143 : decode cX3_become 143 = .ok (.getfield 24, 3) := by decide +kernel
theorem dX3_become_146 : decode cX3_become 146 = .ok (.iconst 0, 1) := by decide +kernel
theorem dX3_become_147 : decode cX3_become 147 = .ok (.bipush 6, 2) := by decide +kernel
theorem dX3_become_149 : decode cX3_become 149 = .ok (.invokestatic 73, 3) := by decide +kernel
theorem dX3_become_152 : decode cX3_become 152 = .ok (.aload_n 1, 1) := by decide +kernel
theorem dX3_become_153 : decode cX3_become 153 = .ok (.getfield 27, 3) := by decide +kernel
theorem dX3_become_156 : decode cX3_become 156 = .ok (.iconst 0, 1) := by decide +kernel
theorem dX3_become_157 : decode cX3_become 157 = .ok (.aload_n 0, 1) := by decide +kernel
theorem dX3_become_158 : decode cX3_become 158 = .ok (.getfield 27, 3) := by decide +kernel
theorem dX3_become_161 : decode cX3_become 161 = .ok (.iconst 0, 1) := by decide +kernel
theorem dX3_become_162 : decode cX3_become 162 = .ok (.bipush 6, 2) := by decide +kernel
theorem dX3_become_164 : decode cX3_become 164 = .ok (.invokestatic 73, 3) := by decide +kernel
theorem dX3_become_167 : decode cX3_become 167 = .ok (.aload_n 1, 1) := by decide +kernel
theorem dX3_become_168 : decode cX3_become 168 = .ok (.getfield 30, 3) := by decide +kernel
theorem dX3_become_171 : decode cX3_become 171 = .ok (.iconst 0, 1) := by decide +kernel
theorem dX3_become_172 : decode cX3_become 172 = .ok (.aload_n 0, 1) := by decide +kernel
theorem dX3_become_173 : decode cX3_become 173 = .ok (.getfield 30, 3) := by decide +kernel
theorem dX3_become_176 : decode cX3_become 176 = .ok (.iconst 0, 1) := by decide +kernel
theorem dX3_become_177 : decode cX3_become 177 = .ok (.bipush 40, 2) := by decide +kernel
theorem dX3_become_179 : decode cX3_become 179 = .ok (.invokestatic 73, 3) := by decide +kernel
theorem dX3_become_182 : decode cX3_become 182 = .ok (.aload_n 1, 1) := by decide +kernel
theorem dX3_become_183 : decode cX3_become 183 = .ok (.getfield 33, 3) := by decide +kernel
theorem dX3_become_186 : decode cX3_become 186 = .ok (.iconst 0, 1) := by decide +kernel
theorem dX3_become_187 : decode cX3_become 187 = .ok (.aload_n 0, 1) := by decide +kernel
theorem dX3_become_188 : decode cX3_become 188 = .ok (.getfield 33, 3) := by decide +kernel
theorem dX3_become_191 : decode cX3_become 191 = .ok (.iconst 0, 1) := by decide +kernel
theorem dX3_become_192 : decode cX3_become 192 = .ok (.bipush 40, 2) := by decide +kernel
theorem dX3_become_194 : decode cX3_become 194 = .ok (.invokestatic 73, 3) := by decide +kernel
theorem dX3_become_197 : decode cX3_become 197 = .ok (.aload_n 1, 1) := by decide +kernel
theorem dX3_become_198 : decode cX3_become 198 = .ok (.getfield 36, 3) := by decide +kernel
theorem dX3_become_201 : decode cX3_become 201 = .ok (.iconst 0, 1) := by decide +kernel
theorem dX3_become_202 : decode cX3_become 202 = .ok (.aload_n 0, 1) := by decide +kernel
theorem dX3_become_203 : decode cX3_become 203 = .ok (.getfield 36, 3) := by decide +kernel
theorem dX3_become_206 : decode cX3_become 206 = .ok (.iconst 0, 1) := by decide +kernel
theorem dX3_become_207 : decode cX3_become 207 = .ok (.bipush 20, 2) := by decide +kernel
theorem dX3_become_209 : decode cX3_become 209 = .ok (.invokestatic 73, 3) := by decide +kernel
theorem dX3_become_212 : decode cX3_become 212 = .ok (.aload_n 1, 1) := by decide +kernel
theorem dX3_become_213 : decode cX3_become 213 = .ok (.getfield 39, 3) := by decide +kernel
theorem dX3_become_216 : decode cX3_become 216 = .ok (.iconst 0, 1) := by decide +kernel
theorem dX3_become_217 : decode cX3_become 217 = .ok (.aload_n 0, 1) := by decide +kernel
theorem dX3_become_218 : decode cX3_become 218 = .ok (.getfield 39, 3) := by decide +kernel
theorem dX3_become_221 : decode cX3_become 221 = .ok (.iconst 0, 1) := by decide +kernel
theorem dX3_become_222 : decode cX3_become 222 = .ok (.bipush 80, 2) := by decide +kernel
theorem dX3_become_224 : decode cX3_become 224 = .ok (.invokestatic 73, 3) := by decide +kernel
theorem dX3_become_227 : decode cX3_become 227 = .ok (.return_, 1) := by decide +kernel
theorem dX3_clear_0 : decode cX3_clear 0 = .ok (.aload_n 0, 1) := by decide +kernel
theorem dX3_clear_1 : decode cX3_clear 1 = .ok (.iconst 0, 1) := by decide +kernel
theorem dX3_clear_2 : decode cX3_clear 2 = .ok (.putfield 42, 3) := by decide +kernel
theorem dX3_clear_5 : decode cX3_clear 5 = .ok (.aload_n 0, 1) := by decide +kernel
theorem dX3_clear_6 : decode cX3_clear 6 = .ok (.iconst 0, 1) := by decide +kernel
theorem dX3_clear_7 : decode cX3_clear 7 = .ok (.putfield 46, 3) := by decide +kernel
theorem dX3_clear_10 : decode cX3_clear 10 = .ok (.aload_n 0, 1) := by decide +kernel
theorem dX3_clear_11 : decode cX3_clear 11 = .ok (.iconst 0, 1) := by decide +kernel
theorem dX3_clear_12 : decode cX3_clear 12 = .ok (.putfield 49, 3) := by decide +kernel
theorem dX3_clear_15 : decode cX3_clear 15 = .ok (.aload_n 0, 1) := by decide +kernel
theorem dX3_clear_16 : decode cX3_clear 16 = .ok (.iconst 0, 1) := by decide +kernel
theorem dX3_clear_17 : decode cX3_clear 17 = .ok (.putfield 52, 3) := by decide +kernel
theorem dX3_clear_20 : decode cX3_clear 20 = .ok (.aload_n 0, 1) := by decide +kernel
theorem dX3_clear_21 : decode cX3_clear 21 = .ok (.iconst 0, 1) := by decide +kernel
theorem dX3_clear_22 : decode cX3_clear 22 = .ok (.putfield 55, 3) := by decide +kernel
theorem dX3_clear_25 : decode cX3_clear 25 = .ok (.aload_n 0, 1) := by decide +kernel
theorem dX3_clear_26 : decode cX3_clear 26 = .ok (.iconst 0, 1) := by decide +kernel
theorem dX3_clear_27 : decode cX3_clear 27 = .ok (.putfield 58, 3) := by decide +kernel
theorem dX3_clear_30 : decode cX3_clear 30 = .ok (.aload_n 0, 1) := by decide +kernel
theorem dX3_clear_31 : decode cX3_clear 31 = .ok (.iconst 0, 1) := by decide +kernel
theorem dX3_clear_32 : decode cX3_clear 32 = .ok (.putfield 61, 3) := by decide +kernel
theorem dX3_clear_35 : decode cX3_clear 35 = .ok (.aload_n 0, 1) := by decide +kernel
theorem dX3_clear_36 : decode cX3_clear 36 = .ok (.iconst 0, 1) := by decide +kernel
theorem dX3_clear_37 : decode cX3_clear 37 = .ok (.putfield 64, 3) := by decide +kernel
theorem dX3_clear_40 : decode cX3_clear 40 = .ok (.aload_n 0, 1) := by decide +kernel
theorem dX3_clear_41 : decode cX3_clear 41 = .ok (.iconst 0, 1) := by decide +kernel
theorem dX3_clear_42 : decode cX3_clear 42 = .ok (.putfield 67, 3) := by decide +kernel
theorem dX3_clear_45 : decode cX3_clear 45 = .ok (.aload_n 0, 1) := by decide +kernel
theorem dX3_clear_46 : decode cX3_clear 46 = .ok (.iconst 0, 1) := by decide +kernel
theorem dX3_clear_47 : decode cX3_clear 47 = .ok (.putfield 70, 3) := by decide +kernel
theorem dX3_clear_50 : decode cX3_clear 50 = .ok (.return_, 1) := by decide +kernel
theorem dX3_survey_0 : decode cX3_survey 0 = .ok (.iconst 0, 1) := by decide +kernel
theorem dX3_survey_1 : decode cX3_survey 1 = .ok (.istore_n 1, 1) := by decide +kernel
theorem dX3_survey_2 : decode cX3_survey 2 = .ok (.iload_n 1, 1) := by decide +kernel
theorem dX3_survey_3 : decode cX3_survey 3 = .ok (.aload_n 0, 1) := by decide +kernel
theorem dX3_survey_4 : decode cX3_survey 4 = .ok (.invokevirtual 79, 3) := by decide +kernel
theorem dX3_survey_7 : decode cX3_survey 7 = .ok (.if_icmp .ge 86, 3) := by decide +kernel
theorem dX3_survey_93 : decode cX3_survey 93 = .ok (.return_, 1) := by decide +kernel
theorem dX4_forget_0 : decode cX4_forget 0 = .ok (.aload_n 0, 1) := by decide +kernel
theorem dX4_forget_1 : decode cX4_forget 1 = .ok (.iconst 0, 1) := by decide +kernel
theorem dX4_forget_2 : decode cX4_forget 2 = .ok (.putfield 26, 3) := by decide +kernel
theorem dX4_forget_5 : decode cX4_forget 5 = .ok (.return_, 1) := by decide +kernel
theorem dX5_advance_0 : decode cX5_advance 0 = .ok (.aload_n 0, 1) := by decide +kernel
theorem dX5_advance_1 : decode cX5_advance 1 = .ok (.aload_n 0, 1) := by decide +kernel
theorem dX5_advance_2 : decode cX5_advance 2 = .ok (.getfield 31, 3) := by decide +kernel
theorem dX5_advance_5 : decode cX5_advance 5 = .ok (.putfield 141, 3) := by decide +kernel
theorem dX5_advance_8 : decode cX5_advance 8 = .ok (.aload_n 0, 1) := by decide +kernel
theorem dX5_advance_9 : decode cX5_advance 9 = .ok (.getfield 141, 3) := by decide +kernel
theorem dX5_advance_12 : decode cX5_advance 12 = .ok (.aload_n 0, 1) := by decide +kernel
theorem dX5_advance_13 : decode cX5_advance 13 = .ok (.getfield 15, 3) := by decide +kernel
theorem dX5_advance_16 : decode cX5_advance 16 = .ok (.getfield 144, 3) := by decide +kernel
theorem dX5_advance_19 : decode cX5_advance 19 = .ok (.if_icmp .ge 35, 3) := by decide +kernel
theorem dX5_advance_54 : decode cX5_advance 54 = .ok (.aload_n 0, 1) := by decide +kernel
theorem dX5_advance_55 : decode cX5_advance 55 = .ok (.aload_n 0, 1) := by decide +kernel
theorem dX5_advance_56 : decode cX5_advance 56 = .ok (.getfield 141, 3) := by decide +kernel
theorem dX5_advance_59 : decode cX5_advance 59 = .ok (.putfield 31, 3) := by decide +kernel
theorem dX5_advance_62 : decode cX5_advance 62 = .ok (.aload_n 0, 1) := by decide +kernel
theorem dX5_advance_63 : decode cX5_advance 63 = .ok (.getfield 141, 3) := by decide +kernel
theorem dX5_advance_66 : decode cX5_advance 66 = .ok (.aload_n 0, 1) := by decide +kernel
theorem dX5_advance_67 : decode cX5_advance 67 = .ok (.getfield 15, 3) := by decide +kernel
theorem dX5_advance_70 : decode cX5_advance 70 = .ok (.getfield 144, 3) := by decide +kernel
theorem dX5_advance_73 : decode cX5_advance 73 = .ok (.if_icmp .lt 9, 3) := by decide +kernel
theorem dX5_advance_76 : decode cX5_advance 76 = .ok (.aload_n 0, 1) := by decide +kernel
theorem dX5_advance_77 : decode cX5_advance 77 = .ok (.iconst 0, 1) := by decide +kernel
theorem dX5_advance_78 : decode cX5_advance 78 = .ok (.putfield 37, 3) := by decide +kernel
theorem dX5_advance_81 : decode cX5_advance 81 = .ok (.return_, 1) := by decide +kernel
theorem dX5_readTape_0 : decode cX5_readTape 0 = .ok (.aload_n 0, 1) := by decide +kernel
theorem dX5_readTape_1 : decode cX5_readTape 1 = .ok (.getfield 19, 3) := by decide +kernel
theorem dX5_readTape_4 : decode cX5_readTape 4 = .ok (.invokevirtual 23, 3) := by decide +kernel
theorem dX5_readTape_7 : decode cX5_readTape 7 = .ok (.aload_n 0, 1) := by decide +kernel
theorem dX5_readTape_8 : decode cX5_readTape 8 = .ok (.iconst 0, 1) := by decide +kernel
theorem dX5_readTape_9 : decode cX5_readTape 9 = .ok (.putfield 28, 3) := by decide +kernel
theorem dX5_readTape_12 : decode cX5_readTape 12 = .ok (.aload_n 0, 1) := by decide +kernel
theorem dX5_readTape_13 : decode cX5_readTape 13 = .ok (.iconst (-1), 1) := by decide +kernel
theorem dX5_readTape_14 : decode cX5_readTape 14 = .ok (.putfield 9, 3) := by decide +kernel
theorem dX5_readTape_17 : decode cX5_readTape 17 = .ok (.aload_n 0, 1) := by decide +kernel
theorem dX5_readTape_18 : decode cX5_readTape 18 = .ok (.iconst 0, 1) := by decide +kernel
theorem dX5_readTape_19 : decode cX5_readTape 19 = .ok (.putfield 31, 3) := by decide +kernel
theorem dX5_readTape_22 : decode cX5_readTape 22 = .ok (.aload_n 0, 1) := by decide +kernel
theorem dX5_readTape_23 : decode cX5_readTape 23 = .ok (.invokevirtual 34, 3) := by decide +kernel
theorem dX5_readTape_26 : decode cX5_readTape 26 = .ok (.iconst 0, 1) := by decide +kernel
theorem dX5_readTape_27 : decode cX5_readTape 27 = .ok (.istore_n 1, 1) := by decide +kernel
theorem dX5_readTape_28 : decode cX5_readTape 28 = .ok (.iload_n 1, 1) := by decide +kernel
theorem dX5_readTape_29 : decode cX5_readTape 29 = .ok (.sipush 800, 3) := by decide +kernel
theorem dX5_readTape_32 : decode cX5_readTape 32 = .ok (.if_icmp .ge 27, 3) := by decide +kernel
theorem dX5_readTape_35 : decode cX5_readTape 35 = .ok (.aload_n 0, 1) := by decide +kernel
theorem dX5_readTape_36 : decode cX5_readTape 36 = .ok (.getfield 37, 3) := by decide +kernel
theorem dX5_readTape_39 : decode cX5_readTape 39 = .ok (.ifCond .eq 20, 3) := by decide +kernel
theorem dX5_readTape_59 : decode cX5_readTape 59 = .ok (.aload_n 0, 1) := by decide +kernel
theorem dX5_readTape_60 : decode cX5_readTape 60 = .ok (.getfield 19, 3) := by decide +kernel
theorem dX5_readTape_63 : decode cX5_readTape 63 = .ok (.invokevirtual 43, 3) := by decide +kernel
theorem dX5_readTape_66 : decode cX5_readTape 66 = .ok (.aload_n 0, 1) := by decide +kernel
theorem dX5_readTape_67 : decode cX5_readTape 67 = .ok (.getfield 28, 3) := by decide +kernel
theorem dX5_readTape_70 : decode cX5_readTape 70 = .ok (.ifCond .ne 7, 3) := by decide +kernel
theorem dX5_readTape_73 : decode cX5_readTape 73 = .ok (.iconst 1, 1) := by decide +kernel
theorem dX5_readTape_74 : decode cX5_readTape 74 = .ok (.goto 4, 3) := by decide +kernel
theorem dX5_readTape_78 : decode cX5_readTape 78 = .ok (.ireturn, 1) := by decide +kernel
theorem dX6_begin_0 : decode cX6_begin 0 = .ok (.aload_n 0, 1) := by decide +kernel
theorem dX6_begin_1 : decode cX6_begin 1 = .ok (.iload_n 1, 1) := by decide +kernel
theorem dX6_begin_2 : decode cX6_begin 2 = .ok (.putfield 15, 3) := by decide +kernel
theorem dX6_begin_5 : decode cX6_begin 5 = .ok (.aload_n 0, 1) := by decide +kernel
theorem dX6_begin_6 : decode cX6_begin 6 = .ok (.iload_n 2, 1) := by decide +kernel
theorem dX6_begin_7 : decode cX6_begin 7 = .ok (.putfield 19, 3) := by decide +kernel
theorem dX6_begin_10 : decode cX6_begin 10 = .ok (.aload_n 0, 1) := by decide +kernel
theorem dX6_begin_11 : decode cX6_begin 11 = .ok (.getfield 9, 3) := by decide +kernel
theorem dX6_begin_14 : decode cX6_begin 14 = .ok (.lconst 0, 1) := by decide +kernel
theorem dX6_begin_15 : decode cX6_begin 15 = .ok (.invokestatic 22, 3) := by decide +kernel
theorem dX6_begin_18 : decode cX6_begin 18 = .ok (.return_, 1) := by decide +kernel
theorem dX9_back_0 : decode cX9_back 0 = .ok (.iload_n 1, 1) := by decide +kernel
theorem dX9_back_1 : decode cX9_back 1 = .ok (.ifCond .lt 8, 3) := by decide +kernel
theorem dX9_back_4 : decode cX9_back 4 = .ok (.iload_n 1, 1) := by decide +kernel
theorem dX9_back_5 : decode cX9_back 5 = .ok (.iconst 3, 1) := by decide +kernel
theorem dX9_back_6 : decode cX9_back 6 = .ok (.if_icmp .lt 6, 3) := by decide +kernel
theorem dX9_back_9 : decode cX9_back 9 = .ok (.bipush (-2), 2) := by decide +kernel
theorem dX9_back_11 : decode cX9_back 11 = .ok (.ireturn, 1) := by decide +kernel
theorem dX9_back_12 : decode cX9_back 12 = .ok (.aload_n 0, 1) := by decide +kernel
theorem dX9_back_13 : decode cX9_back 13 = .ok (.getfield 81, 3) := by decide +kernel
theorem dX9_back_16 : decode cX9_back 16 = .ok (.iload_n 1, 1) := by decide +kernel
theorem dX9_back_17 : decode cX9_back 17 = .ok (.baload, 1) := by decide +kernel
theorem dX9_back_18 : decode cX9_back 18 = .ok (.ifCond .ne 6, 3) := by decide +kernel
theorem dX9_back_21 : decode cX9_back 21 = .ok (.bipush (-6), 2) := by decide +kernel
theorem dX9_back_23 : decode cX9_back 23 = .ok (.ireturn, 1) := by decide +kernel
theorem dX9_image_0 : decode cX9_image 0 = .ok (.iload_n 1, 1) := by decide +kernel
theorem dX9_image_1 : decode cX9_image 1 = .ok (.ifCond .lt 8, 3) := by decide +kernel
theorem dX9_image_4 : decode cX9_image 4 = .ok (.iload_n 1, 1) := by decide +kernel
theorem dX9_image_5 : decode cX9_image 5 = .ok (.iconst 3, 1) := by decide +kernel
theorem dX9_image_6 : decode cX9_image 6 = .ok (.if_icmp .lt 6, 3) := by decide +kernel
theorem dX9_image_9 : decode cX9_image 9 = .ok (.bipush (-2), 2) := by decide +kernel
theorem dX9_image_11 : decode cX9_image 11 = .ok (.ireturn, 1) := by decide +kernel
theorem dX9_image_12 : decode cX9_image 12 = .ok (.aload_n 0, 1) := by decide +kernel
theorem dX9_image_13 : decode cX9_image 13 = .ok (.getfield 32, 3) := by decide +kernel
theorem dX9_image_16 : decode cX9_image 16 = .ok (.iload_n 1, 1) := by decide +kernel
theorem dX9_image_17 : decode cX9_image 17 = .ok (.aaload, 1) := by decide +kernel
theorem dX9_image_18 : decode cX9_image 18 = .ok (.aload_n 0, 1) := by decide +kernel
theorem dX9_image_19 : decode cX9_image 19 = .ok (.getfield 19, 3) := by decide +kernel
theorem dX9_image_22 : decode cX9_image 22 = .ok (.invokevirtual 101, 3) := by decide +kernel
theorem dX9_image_25 : decode cX9_image 25 = .ok (.aload_n 0, 1) := by decide +kernel
theorem dX9_image_26 : decode cX9_image 26 = .ok (.getfield 81, 3) := by decide +kernel
theorem dX9_image_29 : decode cX9_image 29 = .ok (.iload_n 1, 1) := by decide +kernel
theorem dX9_image_30 : decode cX9_image 30 = .ok (.iconst 1, 1) := by decide +kernel
theorem dX9_image_31 : decode cX9_image 31 = .ok (.bastore, 1) := by decide +kernel
theorem dX9_image_32 : decode cX9_image 32 = .ok (.iconst 0, 1) := by decide +kernel
theorem dX9_image_33 : decode cX9_image 33 = .ok (.ireturn, 1) := by decide +kernel
theorem dX9_land_0 : decode cX9_land 0 = .ok (.aload_n 0, 1) := by decide +kernel
theorem dX9_land_1 : decode cX9_land 1 = .ok (.getfield 28, 3) := by decide +kernel
theorem dX9_land_4 : decode cX9_land 4 = .ok (.invokevirtual 94, 3) := by decide +kernel
theorem dX9_land_7 : decode cX9_land 7 = .ok (.ifCond .ne 6, 3) := by decide +kernel
theorem dX9_land_13 : decode cX9_land 13 = .ok (.aload_n 0, 1) := by decide +kernel
theorem dX9_land_14 : decode cX9_land 14 = .ok (.getfield 10, 3) := by decide +kernel
theorem dX9_land_17 : decode cX9_land 17 = .ok (.iconst 0, 1) := by decide +kernel
theorem dX9_land_18 : decode cX9_land 18 = .ok (.putfield 86, 3) := by decide +kernel
theorem dX9_land_21 : decode cX9_land 21 = .ok (.aload_n 0, 1) := by decide +kernel
theorem dX9_land_22 : decode cX9_land 22 = .ok (.getfield 19, 3) := by decide +kernel
theorem dX9_land_25 : decode cX9_land 25 = .ok (.aload_n 0, 1) := by decide +kernel
theorem dX9_land_26 : decode cX9_land 26 = .ok (.getfield 28, 3) := by decide +kernel
theorem dX9_land_29 : decode cX9_land 29 = .ok (.getfield 98, 3) := by decide +kernel
theorem dX9_land_32 : decode cX9_land 32 = .ok (.invokevirtual 101, 3) := by decide +kernel
theorem dX9_land_35 : decode cX9_land 35 = .ok (.aload_n 0, 1) := by decide +kernel
theorem dX9_land_36 : decode cX9_land 36 = .ok (.getfield 56, 3) := by decide +kernel
theorem dX9_land_39 : decode cX9_land 39 = .ok (.invokevirtual 104, 3) := by decide +kernel
theorem dX9_land_42 : decode cX9_land 42 = .ok (.aload_n 0, 1) := by decide +kernel
theorem dX9_land_43 : decode cX9_land 43 = .ok (.getfield 19, 3) := by decide +kernel
theorem dX9_land_46 : decode cX9_land 46 = .ok (.getfield 107, 3) := by decide +kernel
theorem dX9_land_49 : decode cX9_land 49 = .ok (.ireturn, 1) := by decide +kernel
theorem dX9_row_0 : decode cX9_row 0 = .ok (.iload_n 1, 1) := by decide +kernel
theorem dX9_row_1 : decode cX9_row 1 = .ok (.invokestatic 395, 3) := by decide +kernel
theorem dX9_row_4 : decode cX9_row 4 = .ok (.ifCond .eq 18, 3) := by decide +kernel
theorem dX9_row_7 : decode cX9_row 7 = .ok (.iload_n 2, 1) := by decide +kernel
theorem dX9_row_8 : decode cX9_row 8 = .ok (.ifCond .lt 14, 3) := by decide +kernel
theorem dX9_row_11 : decode cX9_row 11 = .ok (.iload_n 2, 1) := by decide +kernel
theorem dX9_row_12 : decode cX9_row 12 = .ok (.iconst 4, 1) := by decide +kernel
theorem dX9_row_13 : decode cX9_row 13 = .ok (.if_icmp .ge 9, 3) := by decide +kernel
theorem dX9_row_16 : decode cX9_row 16 = .ok (.iload_n 3, 1) := by decide +kernel
theorem dX9_row_17 : decode cX9_row 17 = .ok (.bipush 60, 2) := by decide +kernel
theorem dX9_row_19 : decode cX9_row 19 = .ok (.if_icmp .le 6, 3) := by decide +kernel
theorem dX9_row_22 : decode cX9_row 22 = .ok (.bipush (-2), 2) := by decide +kernel
theorem dX9_row_24 : decode cX9_row 24 = .ok (.ireturn, 1) := by decide +kernel
theorem dX9_row_25 : decode cX9_row 25 = .ok (.iload_n 3, 1) := by decide +kernel
theorem dX9_row_26 : decode cX9_row 26 = .ok (.ifCond .ge 6, 3) := by decide +kernel
theorem dX9_row_29 : decode cX9_row 29 = .ok (.bipush (-3), 2) := by decide +kernel
theorem dX9_row_31 : decode cX9_row 31 = .ok (.ireturn, 1) := by decide +kernel
theorem dX9_row_32 : decode cX9_row 32 = .ok (.aload_n 0, 1) := by decide +kernel
theorem dX9_row_33 : decode cX9_row 33 = .ok (.getfield 38, 3) := by decide +kernel
theorem dX9_row_36 : decode cX9_row 36 = .ok (.iload_n 1, 1) := by decide +kernel
theorem dX9_row_37 : decode cX9_row 37 = .ok (.aaload, 1) := by decide +kernel
theorem dX9_row_38 : decode cX9_row 38 = .ok (.iload_n 2, 1) := by decide +kernel
theorem dX9_row_39 : decode cX9_row 39 = .ok (.iload_n 3, 1) := by decide +kernel
theorem dX9_row_40 : decode cX9_row 40 = .ok (.invokevirtual 398, 3) := by decide +kernel
theorem dX9_row_43 : decode cX9_row 43 = .ok (.iconst 0, 1) := by decide +kernel
theorem dX9_row_44 : decode cX9_row 44 = .ok (.ireturn, 1) := by decide +kernel
theorem wd85 : Cond.fieldLink RX6 19 "GooseShares$Row" "length" "I" ∈ gW := gm (tm_2 87 (by decide +kernel)) rfl
theorem wd86 : Cond.fieldLink RX6 9 "GooseShares$Row" "numbers" "[J" ∈ gW := gm (tm_2 81 (by decide +kernel)) rfl
theorem wd87 : Cond.static yJ7_fill_d0a16 ∈ gW := gm (tm_6 58 (by decide +kernel)) rfl
theorem wd88 : Cond.initialized "java/util/Arrays" ∈ gW := gm (tm_1 18 (by decide +kernel)) rfl
theorem wd89 : Cond.code yJ7_fill_d0a16 cJ7_fill_d0a16 5 none ∈ gW := gm (tm_6 59 (by decide +kernel)) rfl
theorem wd90 : Cond.methodLink RX6 22 yJ7_fill_d0a16 ∈ gW := gm (tm_6 57 (by decide +kernel)) rfl
theorem wd91 : Cond.instanceMethod yX6_begin ∈ gW := gm (tm_6 54 (by decide +kernel)) rfl
theorem wd92 : Cond.selects RX6 yX6_begin yX6_begin ∈ gW := gm (tm_6 55 (by decide +kernel)) rfl
theorem wd93 : Cond.code yX6_begin cX6_begin 3 none ∈ gW := gm (tm_6 56 (by decide +kernel)) rfl
theorem wd94 : Cond.methodLink RX9 398 yX6_begin ∈ gW := gm (tm_6 53 (by decide +kernel)) rfl
theorem wd95 : Cond.fieldLink RX3 52 "GooseShares$Land" "law" "I" ∈ gW := gm (tm_1 61 (by decide +kernel)) rfl
theorem wd96 : Cond.fieldLink RX3 55 "GooseShares$Land" "ear" "I" ∈ gW := gm (tm_1 67 (by decide +kernel)) rfl
theorem wd97 : Cond.fieldLink RX3 58 "GooseShares$Land" "odds" "I" ∈ gW := gm (tm_1 70 (by decide +kernel)) rfl
theorem wd98 : Cond.fieldLink RX3 67 "GooseShares$Land" "lit" "I" ∈ gW := gm (tm_1 88 (by decide +kernel)) rfl
theorem wd99 : Cond.fieldLink RX3 70 "GooseShares$Land" "acts" "I" ∈ gW := gm (tm_1 93 (by decide +kernel)) rfl
theorem wd100 : Cond.fieldLink RX3 9 "GooseShares$Land" "starts" "[I" ∈ gW := gm (tm_1 95 (by decide +kernel)) rfl
theorem wd101 : Cond.initialized "java/lang/System" ∈ gW := gm (tm_1 17 (by decide +kernel)) rfl
theorem wd102 : Cond.methodLink RX3 73 arraycopyName ∈ gW := gm (tm_3 48 (by decide +kernel)) rfl
theorem wd103 : Cond.native arraycopyName ∈ gW := gm (tm_3 50 (by decide +kernel)) rfl
theorem wd104 : Cond.static arraycopyName ∈ gW := gm (tm_3 49 (by decide +kernel)) rfl
theorem wd105 : Cond.fieldLink RX3 15 "GooseShares$Land" "headings" "[I" ∈ gW := gm (tm_1 99 (by decide +kernel)) rfl
theorem wd106 : Cond.fieldLink RX3 18 "GooseShares$Land" "flocks" "[I" ∈ gW := gm (tm_1 103 (by decide +kernel)) rfl
theorem wd107 : Cond.fieldLink RX3 21 "GooseShares$Land" "houses" "[I" ∈ gW := gm (tm_1 107 (by decide +kernel)) rfl
theorem wd108 : Cond.fieldLink RX3 24 "GooseShares$Land" "wants" "[I" ∈ gW := gm (tm_1 112 (by decide +kernel)) rfl
theorem wd109 : Cond.fieldLink RX3 27 "GooseShares$Land" "pays" "[I" ∈ gW := gm (tm_1 116 (by decide +kernel)) rfl
theorem wd110 : Cond.fieldLink RX3 30 "GooseShares$Land" "actPlaces" "[I" ∈ gW := gm (tm_1 120 (by decide +kernel)) rfl
theorem wd111 : Cond.fieldLink RX3 33 "GooseShares$Land" "actWere" "[I" ∈ gW := gm (tm_1 121 (by decide +kernel)) rfl
theorem wd112 : Cond.fieldLink RX3 36 "GooseShares$Land" "within" "[I" ∈ gW := gm (tm_1 122 (by decide +kernel)) rfl
theorem wd113 : Cond.fieldLink RX3 39 "GooseShares$Land" "beside" "[I" ∈ gW := gm (tm_1 124 (by decide +kernel)) rfl
theorem wd114 : Cond.fieldLink RX9 32 "GooseShares" "images" "[LGooseShares$Land;" ∈ gW := gm (tm_2 101 (by decide +kernel)) rfl
theorem wd115 : Cond.instanceMethod yX3_become ∈ gW := gm (tm_3 45 (by decide +kernel)) rfl
theorem wd116 : Cond.selects RX3 yX3_become yX3_become ∈ gW := gm (tm_3 46 (by decide +kernel)) rfl
theorem wd117 : Cond.code yX3_become cX3_become 2 none ∈ gW := gm (tm_3 47 (by decide +kernel)) rfl
theorem wd118 : Cond.methodLink RX9 101 yX3_become ∈ gW := gm (tm_3 44 (by decide +kernel)) rfl
theorem wd119 : Cond.fieldLink RX9 81 "GooseShares" "imaged" "[Z" ∈ gW := gm (tm_2 108 (by decide +kernel)) rfl
theorem wd120 : Cond.fieldLink RX5 31 "GooseShares$Reader" "stop" "I" ∈ gW := gm (tm_1 179 (by decide +kernel)) rfl
theorem wd121 : Cond.fieldLink RX5 141 "GooseShares$Reader" "start" "I" ∈ gW := gm (tm_1 178 (by decide +kernel)) rfl
theorem wd122 : Cond.fieldLink RX5 15 "GooseShares$Reader" "tape" "LGooseShares$Tape;" ∈ gW := gm (tm_1 174 (by decide +kernel)) rfl
theorem wd123 : Cond.fieldLink RX5 144 "GooseShares$Tape" "length" "I" ∈ gW := gm (tm_1 38 (by decide +kernel)) rfl
theorem wd124 : Cond.fieldLink RX5 37 "GooseShares$Reader" "kind" "I" ∈ gW := gm (tm_1 177 (by decide +kernel)) rfl
theorem wd125 : Cond.fieldLink RX5 19 "GooseShares$Reader" "draft" "LGooseShares$Land;" ∈ gW := gm (tm_1 175 (by decide +kernel)) rfl
theorem wd126 : Cond.instanceMethod yX3_clear ∈ gW := gm (tm_2 153 (by decide +kernel)) rfl
theorem wd127 : Cond.selects RX3 yX3_clear yX3_clear ∈ gW := gm (tm_2 154 (by decide +kernel)) rfl
theorem wd128 : Cond.code yX3_clear cX3_clear 1 none ∈ gW := gm (tm_2 155 (by decide +kernel)) rfl
theorem wd129 : Cond.methodLink RX5 23 yX3_clear ∈ gW := gm (tm_2 152 (by decide +kernel)) rfl
theorem wd130 : Cond.fieldLink RX5 28 "GooseShares$Reader" "trouble" "I" ∈ gW := gm (tm_1 180 (by decide +kernel)) rfl
theorem wd131 : Cond.fieldLink RX5 9 "GooseShares$Reader" "where" "I" ∈ gW := gm (tm_1 182 (by decide +kernel)) rfl
theorem wd132 : Cond.instanceMethod yX5_advance ∈ gW := gm (tm_2 157 (by decide +kernel)) rfl
theorem wd133 : Cond.selects RX5 yX5_advance yX5_advance ∈ gW := gm (tm_2 158 (by decide +kernel)) rfl
theorem wd134 : Cond.initialized RX5 ∈ gW := gm (tm_1 4 (by decide +kernel)) rfl
theorem wd135 : Cond.code yX5_advance cX5_advance 1 none ∈ gW := gm (tm_2 159 (by decide +kernel)) rfl
theorem wd136 : Cond.methodLink RX5 34 yX5_advance ∈ gW := gm (tm_2 156 (by decide +kernel)) rfl
theorem wd137 : Cond.instanceMethod yX3_survey ∈ gW := gm (tm_3 25 (by decide +kernel)) rfl
theorem wd138 : Cond.selects RX3 yX3_survey yX3_survey ∈ gW := gm (tm_3 26 (by decide +kernel)) rfl
theorem wd139 : Cond.code yX3_survey cX3_survey 3 none ∈ gW := gm (tm_3 27 (by decide +kernel)) rfl
theorem wd140 : Cond.methodLink RX5 43 yX3_survey ∈ gW := gm (tm_3 24 (by decide +kernel)) rfl
theorem wd141 : Cond.fieldLink RX4 26 "GooseShares$Lanterns" "known" "Z" ∈ gW := gm (tm_2 12 (by decide +kernel)) rfl
theorem wd142 : Cond.instanceMethod yX5_readTape ∈ gW := gm (tm_2 149 (by decide +kernel)) rfl
theorem wd143 : Cond.selects RX5 yX5_readTape yX5_readTape ∈ gW := gm (tm_2 150 (by decide +kernel)) rfl
theorem wd144 : Cond.code yX5_readTape cX5_readTape 2 (some .boolean) ∈ gW := gm (tm_2 151 (by decide +kernel)) rfl
theorem wd145 : Cond.methodLink RX9 94 yX5_readTape ∈ gW := gm (tm_2 148 (by decide +kernel)) rfl
theorem wd146 : Cond.fieldLink RX9 98 "GooseShares$Reader" "draft" "LGooseShares$Land;" ∈ gW := gm (tm_1 176 (by decide +kernel)) rfl
theorem wd147 : Cond.fieldLink RX9 56 "GooseShares" "lanterns" "LGooseShares$Lanterns;" ∈ gW := gm (tm_2 104 (by decide +kernel)) rfl
theorem wd148 : Cond.instanceMethod yX4_forget ∈ gW := gm (tm_3 52 (by decide +kernel)) rfl
theorem wd149 : Cond.selects RX4 yX4_forget yX4_forget ∈ gW := gm (tm_3 53 (by decide +kernel)) rfl
theorem wd150 : Cond.initialized RX4 ∈ gW := gm (tm_1 6 (by decide +kernel)) rfl
theorem wd151 : Cond.code yX4_forget cX4_forget 1 none ∈ gW := gm (tm_3 54 (by decide +kernel)) rfl
theorem wd152 : Cond.methodLink RX9 104 yX4_forget ∈ gW := gm (tm_3 51 (by decide +kernel)) rfl
theorem my_J7_fill_d0a16 : gWS "java/util/Arrays" yJ7_fill_d0a16 cJ7_fill_d0a16 5 none 2 := ⟨⟨wd87, wd88, wd89⟩, ⟨rfl, by decide +kernel, by decide +kernel, by decide +kernel⟩⟩
theorem my_X6_begin : gWV RX6 yX6_begin cX6_begin 3 none 2 := ⟨⟨wd91, wd92, wd68, wd93⟩, ⟨rfl, by decide +kernel, by decide +kernel, by decide +kernel⟩⟩
theorem my_X3_become : gWV RX3 yX3_become cX3_become 2 none 1 := ⟨⟨wd115, wd116, wd7, wd117⟩, ⟨rfl, by decide +kernel, by decide +kernel, by decide +kernel⟩⟩
theorem my_X3_clear : gWV RX3 yX3_clear cX3_clear 1 none 0 := ⟨⟨wd126, wd127, wd7, wd128⟩, ⟨rfl, by decide +kernel, by decide +kernel, by decide +kernel⟩⟩
theorem my_X5_advance : gWV RX5 yX5_advance cX5_advance 1 none 0 := ⟨⟨wd132, wd133, wd134, wd135⟩, ⟨rfl, by decide +kernel, by decide +kernel, by decide +kernel⟩⟩
theorem my_X3_survey : gWV RX3 yX3_survey cX3_survey 3 none 0 := ⟨⟨wd137, wd138, wd7, wd139⟩, ⟨rfl, by decide +kernel, by decide +kernel, by decide +kernel⟩⟩
theorem my_X5_readTape : gWV RX5 yX5_readTape cX5_readTape 2 (some .boolean) 0 := ⟨⟨wd142, wd143, wd134, wd144⟩, ⟨rfl, by decide +kernel, by decide +kernel, by decide +kernel⟩⟩
theorem my_X4_forget : gWV RX4 yX4_forget cX4_forget 1 none 0 := ⟨⟨wd148, wd149, wd150, wd151⟩, ⟨rfl, by decide +kernel, by decide +kernel, by decide +kernel⟩⟩
theorem ti_3 : (3 : Int32).toInt = 3 := by decide
end
section
def gImgs (E : gE) (L : List Nat) (f : gF) (iv : Nat → Option Nat) (n : Nat) : Prop := ∀ k, k < 3 → ∃ (q : Nat) (a : Nat → Nat), iv k = some q ∧ q ∈ L ∧ f q = .inr (3, [.int (0 : Int32), .int (0 : Int32), .int (0 : Int32), .int (0 : Int32), .int (0 : Int32), .int (0 : Int32), .int (0 : Int32), .int (0 : Int32), .int (0 : Int32), .int (0 : Int32), .ref (a 0), .ref (a 1), .ref (a 2), .ref (a 3), .ref (a 4), .ref (a 5), .ref (a 6), .ref (a 7), .ref (a 8), .ref (a 9)]) ∧ gArrs E L f a ∧ q ≠ n
theorem gArrs_neO {E : gE} {L : List Nat} {f : gF} {na : Nat → Nat} {b ci : Nat} {x : List Value} (h : gArrs E L f na) (hb : f b = .inr (ci, x)) : ∀ i, i < 10 → b ≠ na i := fun i hi => by
  obtain ⟨-, v, h2⟩ := h i hi
  exact g_neOA hb h2
theorem gArrs_neA {E : gE} {L : List Nat} {f : gF} {na : Nat → Nat} {b n : Nat} {cA : ClassId} {x : (Nat → Int32) ⊕ ((Nat → Int64) ⊕ ((Nat → UInt32) ⊕ ((Nat → UInt64) ⊕ (Nat → Option Nat))))} (h : gArrs E L f na) (hb : f b = .inl (cA, n, x)) (hn : ∀ i, i < 10 → n ≠ gLen i) : ∀ i, i < 10 → b ≠ na i := fun i hi => by
  obtain ⟨-, v, h2⟩ := h i hi
  exact g_neN hb h2 (hn i hi)
theorem gArrs_keep1 {E : gE} {L : List Nat} {f f1 : gF} {na : Nat → Nat} {q ci : Nat} {x : List Value} (hk : ∀ b, b ≠ q → f1 b = f b) (hq : f q = .inr (ci, x)) (h : gArrs E L f na) : gArrs E L f1 na := fun i hi => by
  obtain ⟨h1, v, h2⟩ := h i hi
  exact ⟨h1, v, (hk _ (g_neAO h2 hq)).trans h2⟩
theorem gArrs_keep2 {E : gE} {L : List Nat} {f f1 : gF} {na : Nat → Nat} {q ci q2 cj : Nat} {x y : List Value} (hk : ∀ b, b ≠ q → b ≠ q2 → f1 b = f b) (hq : f q = .inr (ci, x)) (hq2 : f q2 = .inr (cj, y)) (h : gArrs E L f na) : gArrs E L f1 na := fun i hi => by
  obtain ⟨h1, v, h2⟩ := h i hi
  exact ⟨h1, v, (hk _ (g_neAO h2 hq) (g_neAO h2 hq2)).trans h2⟩
set_option maxHeartbeats 4000000 in
set_option maxRecDepth 100000 in
theorem k_fillJ (l : Launch) (E : gE) (L : List Nat) (f : gF) {a n : Nat} {v : Nat → Int64} (ma : a ∈ L) (fa : f a = .inl (E.2.2 2, n, .inr (.inl v))) (hn : n < 2 ^ 31) (z : Int64) : gMv l E yJ7_fill_d0a16 cJ7_fill_d0a16 5 (gRm 1 0 0) [.ref a, .long z] L f (fun L1 f1 => L = L1 ∧ (∃ u, f1 a = .inl (E.2.2 2, n, .inr (.inl u))) ∧ ∀ b, b ≠ a → f1 b = f b) := by
  refine gMv.intro (by decide) (Nat.le_of_ble_eq_true rfl) ?_
  intro p e s m below meth c A ls C hr hnm hA hH hl
  have C : gC E cJ7_fill_d0a16 5 RJ7 p s m _ meth c := C
  have hl : lv_has ls 5 [(0, .ref a), (1, .long z)] := hl
  have hx := C.1
  have hb := C.2.1
  refine lv_iconst (v := (0 : Int32)) hx hb dJ7_fill_d0a16_0 (by decide) ?_
  refine lv_istore_n (lv' := [(3, .int (0 : Int32)), (0, .ref a), (1, .long z)]) hx hb dJ7_fill_d0a16_1 rfl hl (by decide) rfl (fun ls hl => ?_)
  refine lv_aload_n hx hb dJ7_fill_d0a16_2 rfl (lv_at hl 1 rfl) ?_
  refine g_alen C hH ma 2 rfl fa (v := nI n) rfl dJ7_fill_d0a16_3 ?_
  refine lv_istore (lv' := [(4, .int (nI n)), (3, .int (0 : Int32)), (0, .ref a), (1, .long z)]) hx hb dJ7_fill_d0a16_4 hl (by decide) rfl (fun ls hl => ?_)
  have loop : ∀ (k i : Nat) (x : Int32) (f1 : gF) (v1 : Nat → Int64) (H : Heap) (locs : List Loc) (ls : Array Slot), i + k = n → x = nI i → f1 a = .inl (E.2.2 2, n, .inr (.inl v1)) → (∀ b, b ≠ a → f1 b = f b) → gH E A L f1 s.heap H locs → lv_has ls 5 [(4, .int (nI n)), (3, .int x), (0, .ref a), (1, .long z)] → W p l e (gRm 1 0 0) s m [Value.ref a, Value.long z].toArray below meth c H locs 0 0 (MQ below (gQv E A (fun L1 f1 => L = L1 ∧ (∃ u, f1 a = .inl (E.2.2 2, n, .inr (.inl u))) ∧ ∀ b, b ≠ a → f1 b = f b)) [Value.ref a, Value.long z].toArray s (gRm 1 0 0).cells (gRm 1 0 0).slots A) (F0 m 6 ls []) := by
    intro k
    induction k with
    | zero =>
      intro i x f1 v1 H locs ls hik ex h1 h2 hH hl
      obtain rfl : i = n := by omega
      refine lv_iload_n hx hb dJ7_fill_d0a16_6 rfl (lv_at hl 1 rfl) ?_
      refine lv_iload hx hb dJ7_fill_d0a16_7 (lv_at hl 0 rfl) ?_
      refine lv_icmp_ge (tgt := 22) hx hb dJ7_fill_d0a16_9 (by decide) (fun _ => ?_) (fun h => absurd (by rw [ex]; exact Int32.le_refl _) h)
      refine g_vret C hr hH (Nat.le_of_ble_eq_true rfl) (Nat.le_of_ble_eq_true rfl) dJ7_fill_d0a16_22 ?_
      exact ⟨rfl, ⟨_, h1⟩, h2⟩
    | succ k ih =>
      intro i x f1 v1 H locs ls hik ex h1 h2 hH hl
      refine lv_iload_n hx hb dJ7_fill_d0a16_6 rfl (lv_at hl 1 rfl) ?_
      refine lv_iload hx hb dJ7_fill_d0a16_7 (lv_at hl 0 rfl) ?_
      refine lv_icmp_ge (tgt := 22) hx hb dJ7_fill_d0a16_9 (by decide) (fun h => absurd h (by rw [ex]; exact nI_ge (by omega) hn)) (fun _ => ?_)
      refine lv_aload_n hx hb dJ7_fill_d0a16_12 rfl (lv_at hl 2 rfl) ?_
      refine lv_iload_n hx hb dJ7_fill_d0a16_13 rfl (lv_at hl 1 rfl) ?_
      refine lv_lload_n hx hb dJ7_fill_d0a16_14 rfl (lv_at hl 3 rfl) ?_
      refine g_last C hH ma h1 (by rw [ex]; exact vp_in_nI (by omega) hn) dJ7_fill_d0a16_15 (fun H locs hH => ?_)
      obtain ⟨x2, ex2⟩ : ∃ y : Int32, y = x + 1 := ⟨_, rfl⟩
      refine lv_iinc (v := x2) (lv' := [(3, .int x2), (4, .int (nI n)), (0, .ref a), (1, .long z)]) hx hb dJ7_fill_d0a16_16 hl (k := 1) rfl (by rw [ex2]; rfl) (by decide) rfl (fun ls hl => ?_)
      refine lv_goto (tgt := 6) hx hb dJ7_fill_d0a16_19 (by decide) ?_
      exact ih (i + 1) x2 _ _ _ _ ls (by omega) (by rw [ex2, ex]; exact nI_1 i) (va_up_self _ _ _) (fun b hb => (va_up_ne _ _ hb).trans (h2 b hb)) hH (lv_sub hl [1, 0, 2, 3] rfl)
  exact loop n 0 _ _ _ _ _ ls (by omega) nI_0.symm fa (fun _ _ => rfl) hH hl
set_option maxHeartbeats 4000000 in
set_option maxRecDepth 100000 in
theorem k_begin (l : Launch) (E : gE) (L : List Nat) (f : gF) {q nu : Nat} {u : Nat → Int64} (mq : q ∈ L) (fq : f q = .inr (6, [.ref nu, .int (-1 : Int32), .int (0 : Int32)])) (mu : nu ∈ L) (fu : f nu = .inl (E.2.2 2, 60, .inr (.inl u))) (p0 p1 : Int32) : gMv l E yX6_begin cX6_begin 3 (gRm 2 0 0) [.ref q, .int p0, .int p1] L f (fun _ _ => True) := by
  refine gMv.intro (by decide) (Nat.le_of_ble_eq_true rfl) ?_
  intro p e s m below meth c A ls C hr hnm hA hH hl
  have C : gC E cX6_begin 3 RX6 p s m _ meth c := C
  have hl : lv_has ls 3 [(0, .ref q), (1, .int p0), (2, .int p1)] := hl
  have hx := C.1
  have hb := C.2.1
  refine lv_aload_n hx hb dX6_begin_0 rfl (lv_at hl 0 rfl) ?_
  refine lv_iload_n hx hb dX6_begin_1 rfl (lv_at hl 1 rfl) ?_
  refine g_put C hH mq fq iX6 tyX6 tyX6_ok nmX6 rfl 1 (by decide) wd64 rfl rfl rfl rfl (Nat.le_of_ble_eq_true rfl) (fs' := [.ref nu, .int p0, .int (0 : Int32)]) rfl dX6_begin_2 (fun H locs hH => ?_)
  obtain ⟨f1, ef1⟩ : ∃ z : gF, z = va_up f q (.inr (6, [.ref nu, .int p0, .int (0 : Int32)])) := ⟨_, rfl⟩
  have hH : gH E A L f1 s.heap H locs := by rw [ef1]; exact hH
  have h2 : f1 q = .inr (6, [.ref nu, .int p0, .int (0 : Int32)]) := (congrFun ef1 q).trans (va_up_self _ _ _)
  refine lv_aload_n hx hb dX6_begin_5 rfl (lv_at hl 0 rfl) ?_
  refine lv_iload_n hx hb dX6_begin_6 rfl (lv_at hl 2 rfl) ?_
  refine g_put C hH mq h2 iX6 tyX6 tyX6_ok nmX6 rfl 2 (by decide) wd85 rfl rfl rfl rfl (Nat.le_of_ble_eq_true rfl) (fs' := [.ref nu, .int p0, .int p1]) rfl dX6_begin_7 (fun H locs hH => ?_)
  obtain ⟨f3, ef3⟩ : ∃ z : gF, z = va_up f1 q (.inr (6, [.ref nu, .int p0, .int p1])) := ⟨_, rfl⟩
  have hH : gH E A L f3 s.heap H locs := by rw [ef3]; exact hH
  have h4 : f3 q = .inr (6, [.ref nu, .int p0, .int p1]) := (congrFun ef3 q).trans (va_up_self _ _ _)
  refine lv_aload_n hx hb dX6_begin_10 rfl (lv_at hl 0 rfl) ?_
  refine g_get C hH mq h4 iX6 rfl 0 (by decide) wd86 rfl rfl dX6_begin_11 ?_
  refine lv_lconst (v := (0 : Int64)) hx hb dX6_begin_14 (by decide) ?_
  have h5 : f1 nu = .inl (E.2.2 2, 60, .inr (.inl u)) := ((congrFun ef1 nu).trans (va_up_ne _ _ (g_neAO fu fq))).trans fu
  have h6 : f3 nu = .inl (E.2.2 2, 60, .inr (.inl u)) := ((congrFun ef3 nu).trans (va_up_ne _ _ (g_neAO h5 h2))).trans h5
  refine g_Sv C hl.1 hA hH (As := [.ref nu, .long (0 : Int64)]) (rest := []) (k_fillJ l E L f3 mu h6 (Nat.le_of_ble_eq_true rfl) (0 : Int64)) my_J7_fill_d0a16 wd90 rfl rfl (Nat.le_of_ble_eq_true rfl) ⟨Nat.le_of_ble_eq_true rfl, Nat.le_of_ble_eq_true rfl⟩ ⟨Nat.le_of_ble_eq_true rfl, Nat.le_of_ble_eq_true rfl⟩ dX6_begin_15 (fun L8 f7 H locs hp hH => ?_)
  obtain ⟨rfl, ⟨v9, h10⟩, k11⟩ := hp
  refine g_vret C hr hH (Nat.le_of_ble_eq_true rfl) (Nat.le_of_ble_eq_true rfl) dX6_begin_18 ?_
  exact trivial
set_option maxHeartbeats 4000000 in
set_option maxRecDepth 100000 in
theorem k_row (l : Launch) (E : gE) (L : List Nat) (f : gF) {x xt xn xr xi xw xs xl xc xh xf xm : Nat} (mx : x ∈ L) (fx : f x = .inr (9, [.ref xt, .ref xn, .ref xr, .ref xi, .ref xw, .ref xs, .ref xl, .ref xc, .ref xh, .ref xf, .ref xm])) {wv : Nat → Option Nat} (mw : xw ∈ L) (fw : f xw = .inl (E.2.2 5, 4, .inr (.inr (.inr (.inr wv))))) (wr : gRows E L f wv) (p0 p1 p2 : Int32) : gMi l E yX9_row cX9_row 4 .int (gRm 3 0 0) [.ref x, .int p0, .int p1, .int p2] L f (fun r _ _ => r = gRow p0 p1 p2) := by
  refine gMi.intro (by decide) (Nat.le_of_ble_eq_true rfl) ?_
  intro p e s m below meth c A ls C hr hA hH hl
  have C : gC E cX9_row 4 RX9 p s m _ meth c := C
  have hl : lv_has ls 4 [(0, .ref x), (1, .int p0), (2, .int p1), (3, .int p2)] := hl
  have hx := C.1
  have hb := C.2.1
  refine lv_iload_n hx hb dX9_row_0 rfl (lv_at hl 1 rfl) ?_
  refine g_Si C hl.1 hA hH (As := [.int p0]) (rest := []) (k_isSlot l E L f p0) my_X9_isSlot wd17 rfl rfl (Nat.le_of_ble_eq_true rfl) ⟨Nat.le_of_ble_eq_true rfl, Nat.le_of_ble_eq_true rfl⟩ ⟨Nat.le_of_ble_eq_true rfl, Nat.le_of_ble_eq_true rfl⟩ dX9_row_1 (fun r3 L2 f1 H locs hp hH => ?_)
  obtain ⟨er3, rfl, rfl⟩ := hp
  subst er3
  refine lv_if_eq (tgt := 22) hx hb dX9_row_4 (by decide) (fun c4 => ?_) (fun c4 => ?_)
  · skip
    refine lv_bipush (v := (-2 : Int32)) hx hb dX9_row_22 (by decide) ?_
    refine g_iret C hr hH (Nat.le_of_ble_eq_true rfl) (Nat.le_of_ble_eq_true rfl) dX9_row_24 ?_
    exact (by rw [gRow, if_pos c4])
  · skip
    refine lv_iload_n hx hb dX9_row_7 rfl (lv_at hl 2 rfl) ?_
    refine lv_if_lt (tgt := 22) hx hb dX9_row_8 (by decide) (fun c5 => ?_) (fun c5 => ?_)
    · skip
      refine lv_bipush (v := (-2 : Int32)) hx hb dX9_row_22 (by decide) ?_
      refine g_iret C hr hH (Nat.le_of_ble_eq_true rfl) (Nat.le_of_ble_eq_true rfl) dX9_row_24 ?_
      exact (by rw [gRow, if_neg c4, if_pos c5])
    · skip
      refine lv_iload_n hx hb dX9_row_11 rfl (lv_at hl 2 rfl) ?_
      refine lv_iconst (v := (4 : Int32)) hx hb dX9_row_12 (by decide) ?_
      refine lv_icmp_ge (tgt := 22) hx hb dX9_row_13 (by decide) (fun c6 => ?_) (fun c6 => ?_)
      · skip
        refine lv_bipush (v := (-2 : Int32)) hx hb dX9_row_22 (by decide) ?_
        refine g_iret C hr hH (Nat.le_of_ble_eq_true rfl) (Nat.le_of_ble_eq_true rfl) dX9_row_24 ?_
        exact (by rw [gRow, if_neg c4, if_neg c5, if_pos c6])
      · skip
        refine lv_iload_n hx hb dX9_row_16 rfl (lv_at hl 3 rfl) ?_
        refine lv_bipush (v := (60 : Int32)) hx hb dX9_row_17 (by decide) ?_
        refine lv_icmp_le (tgt := 25) hx hb dX9_row_19 (by decide) (fun c7 => ?_) (fun c7 => ?_)
        · skip
          refine lv_iload_n hx hb dX9_row_25 rfl (lv_at hl 3 rfl) ?_
          refine lv_if_ge (tgt := 32) hx hb dX9_row_26 (by decide) (fun c8 => ?_) (fun c8 => ?_)
          · skip
            refine lv_aload_n hx hb dX9_row_32 rfl (lv_at hl 0 rfl) ?_
            refine g_get C hH mx fx iX9 rfl 4 (by decide) wd65 rfl rfl dX9_row_33 ?_
            refine lv_iload_n hx hb dX9_row_36 rfl (lv_at hl 1 rfl) ?_
            obtain ⟨q9, nu10, u11, h12, m13, h14, m15, h16⟩ := wr (p0).toNatClampNeg (vp_lt (gSlot_in c4))
            refine g_aald C hH mw 5 rfl fw (gSlot_in c4) h12 dX9_row_37 ?_
            refine lv_iload_n hx hb dX9_row_38 rfl (lv_at hl 2 rfl) ?_
            refine lv_iload_n hx hb dX9_row_39 rfl (lv_at hl 3 rfl) ?_
            refine g_Vv C hl.1 hA hH (As := [.int p1, .int p2]) (rest := []) (k_begin l E L f m13 h14 m15 h16 p1 p2) my_X6_begin wd94 m13 h14 rfl rfl rfl (Nat.le_of_ble_eq_true rfl) ⟨Nat.le_of_ble_eq_true rfl, Nat.le_of_ble_eq_true rfl⟩ ⟨Nat.le_of_ble_eq_true rfl, Nat.le_of_ble_eq_true rfl⟩ dX9_row_40 (fun L18 f17 H locs hp hH => ?_)
            refine lv_iconst (v := (0 : Int32)) hx hb dX9_row_43 (by decide) ?_
            refine g_iret C hr hH (Nat.le_of_ble_eq_true rfl) (Nat.le_of_ble_eq_true rfl) dX9_row_44 ?_
            exact (by rw [gRow, if_neg c4, if_neg c5, if_neg c6, if_pos c7, if_pos c8])
          · skip
            refine lv_bipush (v := (-3 : Int32)) hx hb dX9_row_29 (by decide) ?_
            refine g_iret C hr hH (Nat.le_of_ble_eq_true rfl) (Nat.le_of_ble_eq_true rfl) dX9_row_31 ?_
            exact (by rw [gRow, if_neg c4, if_neg c5, if_neg c6, if_pos c7, if_neg c8])
        · skip
          refine lv_bipush (v := (-2 : Int32)) hx hb dX9_row_22 (by decide) ?_
          refine g_iret C hr hH (Nat.le_of_ble_eq_true rfl) (Nat.le_of_ble_eq_true rfl) dX9_row_24 ?_
          exact (by rw [gRow, if_neg c4, if_neg c5, if_neg c6, if_neg c7])
set_option maxHeartbeats 4000000 in
set_option maxRecDepth 100000 in
theorem k_become (l : Launch) (E : gE) (L : List Nat) (f : gF) {q o : Nat} {na oa : Nat → Nat} {v0 u0 v1 u1 v2 u2 v3 u3 v4 u4 v5 u5 v6 u6 v7 u7 v8 u8 v9 u9 : Int32} (mq : q ∈ L) (fq : f q = .inr (3, [.int v0, .int v1, .int v2, .int v3, .int v4, .int v5, .int v6, .int v7, .int v8, .int v9, .ref (na 0), .ref (na 1), .ref (na 2), .ref (na 3), .ref (na 4), .ref (na 5), .ref (na 6), .ref (na 7), .ref (na 8), .ref (na 9)])) (mo : o ∈ L) (fo : f o = .inr (3, [.int u0, .int u1, .int u2, .int u3, .int u4, .int u5, .int u6, .int u7, .int u8, .int u9, .ref (oa 0), .ref (oa 1), .ref (oa 2), .ref (oa 3), .ref (oa 4), .ref (oa 5), .ref (oa 6), .ref (oa 7), .ref (oa 8), .ref (oa 9)])) (gq : gArrs E L f na) (go : gArrs E L f oa) (hqo : q ≠ o) : gMv l E yX3_become cX3_become 2 (gRm 1 0 0) [.ref q, .ref o] L f (fun L1 f1 => L = L1 ∧ f1 q = .inr (3, [.int u0, .int u1, .int u2, .int u3, .int u4, .int u5, .int u6, .int u7, .int u8, .int u9, .ref (na 0), .ref (na 1), .ref (na 2), .ref (na 3), .ref (na 4), .ref (na 5), .ref (na 6), .ref (na 7), .ref (na 8), .ref (na 9)]) ∧ gArrs E L f1 na ∧ ∀ b, b ≠ q → (∀ i, i < 10 → b ≠ na i) → f1 b = f b) := by
  refine gMv.intro (by decide) (Nat.le_of_ble_eq_true rfl) ?_
  intro p e s m below meth c A ls C hr hnm hA hH hl
  have C : gC E cX3_become 2 RX3 p s m _ meth c := C
  have hl : lv_has ls 2 [(0, .ref q), (1, .ref o)] := hl
  have hx := C.1
  have hb := C.2.1
  refine lv_aload_n hx hb dX3_become_0 rfl (lv_at hl 0 rfl) ?_
  refine lv_aload_n hx hb dX3_become_1 rfl (lv_at hl 1 rfl) ?_
  refine g_get C hH mo fo iX3 rfl 0 (by decide) wd0 rfl rfl dX3_become_2 ?_
  refine g_put C hH mq fq iX3 tyX3 tyX3_ok nmX3 rfl 0 (by decide) wd0 rfl rfl rfl rfl (Nat.le_of_ble_eq_true rfl) (fs' := [.int u0, .int v1, .int v2, .int v3, .int v4, .int v5, .int v6, .int v7, .int v8, .int v9, .ref (na 0), .ref (na 1), .ref (na 2), .ref (na 3), .ref (na 4), .ref (na 5), .ref (na 6), .ref (na 7), .ref (na 8), .ref (na 9)]) rfl dX3_become_5 (fun H locs hH => ?_)
  obtain ⟨f1, ef1⟩ : ∃ z : gF, z = va_up f q (.inr (3, [.int u0, .int v1, .int v2, .int v3, .int v4, .int v5, .int v6, .int v7, .int v8, .int v9, .ref (na 0), .ref (na 1), .ref (na 2), .ref (na 3), .ref (na 4), .ref (na 5), .ref (na 6), .ref (na 7), .ref (na 8), .ref (na 9)])) := ⟨_, rfl⟩
  have hH : gH E A L f1 s.heap H locs := by rw [ef1]; exact hH
  have h2 : f1 q = .inr (3, [.int u0, .int v1, .int v2, .int v3, .int v4, .int v5, .int v6, .int v7, .int v8, .int v9, .ref (na 0), .ref (na 1), .ref (na 2), .ref (na 3), .ref (na 4), .ref (na 5), .ref (na 6), .ref (na 7), .ref (na 8), .ref (na 9)]) := (congrFun ef1 q).trans (va_up_self _ _ _)
  refine lv_aload_n hx hb dX3_become_8 rfl (lv_at hl 0 rfl) ?_
  refine lv_aload_n hx hb dX3_become_9 rfl (lv_at hl 1 rfl) ?_
  have h3 : f1 o = .inr (3, [.int u0, .int u1, .int u2, .int u3, .int u4, .int u5, .int u6, .int u7, .int u8, .int u9, .ref (oa 0), .ref (oa 1), .ref (oa 2), .ref (oa 3), .ref (oa 4), .ref (oa 5), .ref (oa 6), .ref (oa 7), .ref (oa 8), .ref (oa 9)]) := ((congrFun ef1 o).trans (va_up_ne _ _ (Ne.symm hqo))).trans fo
  refine g_get C hH mo h3 iX3 rfl 1 (by decide) wd1 rfl rfl dX3_become_10 ?_
  refine g_put C hH mq h2 iX3 tyX3 tyX3_ok nmX3 rfl 1 (by decide) wd1 rfl rfl rfl rfl (Nat.le_of_ble_eq_true rfl) (fs' := [.int u0, .int u1, .int v2, .int v3, .int v4, .int v5, .int v6, .int v7, .int v8, .int v9, .ref (na 0), .ref (na 1), .ref (na 2), .ref (na 3), .ref (na 4), .ref (na 5), .ref (na 6), .ref (na 7), .ref (na 8), .ref (na 9)]) rfl dX3_become_13 (fun H locs hH => ?_)
  obtain ⟨f4, ef4⟩ : ∃ z : gF, z = va_up f1 q (.inr (3, [.int u0, .int u1, .int v2, .int v3, .int v4, .int v5, .int v6, .int v7, .int v8, .int v9, .ref (na 0), .ref (na 1), .ref (na 2), .ref (na 3), .ref (na 4), .ref (na 5), .ref (na 6), .ref (na 7), .ref (na 8), .ref (na 9)])) := ⟨_, rfl⟩
  have hH : gH E A L f4 s.heap H locs := by rw [ef4]; exact hH
  have h5 : f4 q = .inr (3, [.int u0, .int u1, .int v2, .int v3, .int v4, .int v5, .int v6, .int v7, .int v8, .int v9, .ref (na 0), .ref (na 1), .ref (na 2), .ref (na 3), .ref (na 4), .ref (na 5), .ref (na 6), .ref (na 7), .ref (na 8), .ref (na 9)]) := (congrFun ef4 q).trans (va_up_self _ _ _)
  refine lv_aload_n hx hb dX3_become_16 rfl (lv_at hl 0 rfl) ?_
  refine lv_aload_n hx hb dX3_become_17 rfl (lv_at hl 1 rfl) ?_
  have h6 : f4 o = .inr (3, [.int u0, .int u1, .int u2, .int u3, .int u4, .int u5, .int u6, .int u7, .int u8, .int u9, .ref (oa 0), .ref (oa 1), .ref (oa 2), .ref (oa 3), .ref (oa 4), .ref (oa 5), .ref (oa 6), .ref (oa 7), .ref (oa 8), .ref (oa 9)]) := ((congrFun ef4 o).trans (va_up_ne _ _ (Ne.symm hqo))).trans h3
  refine g_get C hH mo h6 iX3 rfl 2 (by decide) wd2 rfl rfl dX3_become_18 ?_
  refine g_put C hH mq h5 iX3 tyX3 tyX3_ok nmX3 rfl 2 (by decide) wd2 rfl rfl rfl rfl (Nat.le_of_ble_eq_true rfl) (fs' := [.int u0, .int u1, .int u2, .int v3, .int v4, .int v5, .int v6, .int v7, .int v8, .int v9, .ref (na 0), .ref (na 1), .ref (na 2), .ref (na 3), .ref (na 4), .ref (na 5), .ref (na 6), .ref (na 7), .ref (na 8), .ref (na 9)]) rfl dX3_become_21 (fun H locs hH => ?_)
  obtain ⟨f7, ef7⟩ : ∃ z : gF, z = va_up f4 q (.inr (3, [.int u0, .int u1, .int u2, .int v3, .int v4, .int v5, .int v6, .int v7, .int v8, .int v9, .ref (na 0), .ref (na 1), .ref (na 2), .ref (na 3), .ref (na 4), .ref (na 5), .ref (na 6), .ref (na 7), .ref (na 8), .ref (na 9)])) := ⟨_, rfl⟩
  have hH : gH E A L f7 s.heap H locs := by rw [ef7]; exact hH
  have h8 : f7 q = .inr (3, [.int u0, .int u1, .int u2, .int v3, .int v4, .int v5, .int v6, .int v7, .int v8, .int v9, .ref (na 0), .ref (na 1), .ref (na 2), .ref (na 3), .ref (na 4), .ref (na 5), .ref (na 6), .ref (na 7), .ref (na 8), .ref (na 9)]) := (congrFun ef7 q).trans (va_up_self _ _ _)
  refine lv_aload_n hx hb dX3_become_24 rfl (lv_at hl 0 rfl) ?_
  refine lv_aload_n hx hb dX3_become_25 rfl (lv_at hl 1 rfl) ?_
  have h9 : f7 o = .inr (3, [.int u0, .int u1, .int u2, .int u3, .int u4, .int u5, .int u6, .int u7, .int u8, .int u9, .ref (oa 0), .ref (oa 1), .ref (oa 2), .ref (oa 3), .ref (oa 4), .ref (oa 5), .ref (oa 6), .ref (oa 7), .ref (oa 8), .ref (oa 9)]) := ((congrFun ef7 o).trans (va_up_ne _ _ (Ne.symm hqo))).trans h6
  refine g_get C hH mo h9 iX3 rfl 3 (by decide) wd95 rfl rfl dX3_become_26 ?_
  refine g_put C hH mq h8 iX3 tyX3 tyX3_ok nmX3 rfl 3 (by decide) wd95 rfl rfl rfl rfl (Nat.le_of_ble_eq_true rfl) (fs' := [.int u0, .int u1, .int u2, .int u3, .int v4, .int v5, .int v6, .int v7, .int v8, .int v9, .ref (na 0), .ref (na 1), .ref (na 2), .ref (na 3), .ref (na 4), .ref (na 5), .ref (na 6), .ref (na 7), .ref (na 8), .ref (na 9)]) rfl dX3_become_29 (fun H locs hH => ?_)
  obtain ⟨f10, ef10⟩ : ∃ z : gF, z = va_up f7 q (.inr (3, [.int u0, .int u1, .int u2, .int u3, .int v4, .int v5, .int v6, .int v7, .int v8, .int v9, .ref (na 0), .ref (na 1), .ref (na 2), .ref (na 3), .ref (na 4), .ref (na 5), .ref (na 6), .ref (na 7), .ref (na 8), .ref (na 9)])) := ⟨_, rfl⟩
  have hH : gH E A L f10 s.heap H locs := by rw [ef10]; exact hH
  have h11 : f10 q = .inr (3, [.int u0, .int u1, .int u2, .int u3, .int v4, .int v5, .int v6, .int v7, .int v8, .int v9, .ref (na 0), .ref (na 1), .ref (na 2), .ref (na 3), .ref (na 4), .ref (na 5), .ref (na 6), .ref (na 7), .ref (na 8), .ref (na 9)]) := (congrFun ef10 q).trans (va_up_self _ _ _)
  refine lv_aload_n hx hb dX3_become_32 rfl (lv_at hl 0 rfl) ?_
  refine lv_aload_n hx hb dX3_become_33 rfl (lv_at hl 1 rfl) ?_
  have h12 : f10 o = .inr (3, [.int u0, .int u1, .int u2, .int u3, .int u4, .int u5, .int u6, .int u7, .int u8, .int u9, .ref (oa 0), .ref (oa 1), .ref (oa 2), .ref (oa 3), .ref (oa 4), .ref (oa 5), .ref (oa 6), .ref (oa 7), .ref (oa 8), .ref (oa 9)]) := ((congrFun ef10 o).trans (va_up_ne _ _ (Ne.symm hqo))).trans h9
  refine g_get C hH mo h12 iX3 rfl 4 (by decide) wd96 rfl rfl dX3_become_34 ?_
  refine g_put C hH mq h11 iX3 tyX3 tyX3_ok nmX3 rfl 4 (by decide) wd96 rfl rfl rfl rfl (Nat.le_of_ble_eq_true rfl) (fs' := [.int u0, .int u1, .int u2, .int u3, .int u4, .int v5, .int v6, .int v7, .int v8, .int v9, .ref (na 0), .ref (na 1), .ref (na 2), .ref (na 3), .ref (na 4), .ref (na 5), .ref (na 6), .ref (na 7), .ref (na 8), .ref (na 9)]) rfl dX3_become_37 (fun H locs hH => ?_)
  obtain ⟨f13, ef13⟩ : ∃ z : gF, z = va_up f10 q (.inr (3, [.int u0, .int u1, .int u2, .int u3, .int u4, .int v5, .int v6, .int v7, .int v8, .int v9, .ref (na 0), .ref (na 1), .ref (na 2), .ref (na 3), .ref (na 4), .ref (na 5), .ref (na 6), .ref (na 7), .ref (na 8), .ref (na 9)])) := ⟨_, rfl⟩
  have hH : gH E A L f13 s.heap H locs := by rw [ef13]; exact hH
  have h14 : f13 q = .inr (3, [.int u0, .int u1, .int u2, .int u3, .int u4, .int v5, .int v6, .int v7, .int v8, .int v9, .ref (na 0), .ref (na 1), .ref (na 2), .ref (na 3), .ref (na 4), .ref (na 5), .ref (na 6), .ref (na 7), .ref (na 8), .ref (na 9)]) := (congrFun ef13 q).trans (va_up_self _ _ _)
  refine lv_aload_n hx hb dX3_become_40 rfl (lv_at hl 0 rfl) ?_
  refine lv_aload_n hx hb dX3_become_41 rfl (lv_at hl 1 rfl) ?_
  have h15 : f13 o = .inr (3, [.int u0, .int u1, .int u2, .int u3, .int u4, .int u5, .int u6, .int u7, .int u8, .int u9, .ref (oa 0), .ref (oa 1), .ref (oa 2), .ref (oa 3), .ref (oa 4), .ref (oa 5), .ref (oa 6), .ref (oa 7), .ref (oa 8), .ref (oa 9)]) := ((congrFun ef13 o).trans (va_up_ne _ _ (Ne.symm hqo))).trans h12
  refine g_get C hH mo h15 iX3 rfl 5 (by decide) wd97 rfl rfl dX3_become_42 ?_
  refine g_put C hH mq h14 iX3 tyX3 tyX3_ok nmX3 rfl 5 (by decide) wd97 rfl rfl rfl rfl (Nat.le_of_ble_eq_true rfl) (fs' := [.int u0, .int u1, .int u2, .int u3, .int u4, .int u5, .int v6, .int v7, .int v8, .int v9, .ref (na 0), .ref (na 1), .ref (na 2), .ref (na 3), .ref (na 4), .ref (na 5), .ref (na 6), .ref (na 7), .ref (na 8), .ref (na 9)]) rfl dX3_become_45 (fun H locs hH => ?_)
  obtain ⟨f16, ef16⟩ : ∃ z : gF, z = va_up f13 q (.inr (3, [.int u0, .int u1, .int u2, .int u3, .int u4, .int u5, .int v6, .int v7, .int v8, .int v9, .ref (na 0), .ref (na 1), .ref (na 2), .ref (na 3), .ref (na 4), .ref (na 5), .ref (na 6), .ref (na 7), .ref (na 8), .ref (na 9)])) := ⟨_, rfl⟩
  have hH : gH E A L f16 s.heap H locs := by rw [ef16]; exact hH
  have h17 : f16 q = .inr (3, [.int u0, .int u1, .int u2, .int u3, .int u4, .int u5, .int v6, .int v7, .int v8, .int v9, .ref (na 0), .ref (na 1), .ref (na 2), .ref (na 3), .ref (na 4), .ref (na 5), .ref (na 6), .ref (na 7), .ref (na 8), .ref (na 9)]) := (congrFun ef16 q).trans (va_up_self _ _ _)
  refine lv_aload_n hx hb dX3_become_48 rfl (lv_at hl 0 rfl) ?_
  refine lv_aload_n hx hb dX3_become_49 rfl (lv_at hl 1 rfl) ?_
  have h18 : f16 o = .inr (3, [.int u0, .int u1, .int u2, .int u3, .int u4, .int u5, .int u6, .int u7, .int u8, .int u9, .ref (oa 0), .ref (oa 1), .ref (oa 2), .ref (oa 3), .ref (oa 4), .ref (oa 5), .ref (oa 6), .ref (oa 7), .ref (oa 8), .ref (oa 9)]) := ((congrFun ef16 o).trans (va_up_ne _ _ (Ne.symm hqo))).trans h15
  refine g_get C hH mo h18 iX3 rfl 6 (by decide) wd3 rfl rfl dX3_become_50 ?_
  refine g_put C hH mq h17 iX3 tyX3 tyX3_ok nmX3 rfl 6 (by decide) wd3 rfl rfl rfl rfl (Nat.le_of_ble_eq_true rfl) (fs' := [.int u0, .int u1, .int u2, .int u3, .int u4, .int u5, .int u6, .int v7, .int v8, .int v9, .ref (na 0), .ref (na 1), .ref (na 2), .ref (na 3), .ref (na 4), .ref (na 5), .ref (na 6), .ref (na 7), .ref (na 8), .ref (na 9)]) rfl dX3_become_53 (fun H locs hH => ?_)
  obtain ⟨f19, ef19⟩ : ∃ z : gF, z = va_up f16 q (.inr (3, [.int u0, .int u1, .int u2, .int u3, .int u4, .int u5, .int u6, .int v7, .int v8, .int v9, .ref (na 0), .ref (na 1), .ref (na 2), .ref (na 3), .ref (na 4), .ref (na 5), .ref (na 6), .ref (na 7), .ref (na 8), .ref (na 9)])) := ⟨_, rfl⟩
  have hH : gH E A L f19 s.heap H locs := by rw [ef19]; exact hH
  have h20 : f19 q = .inr (3, [.int u0, .int u1, .int u2, .int u3, .int u4, .int u5, .int u6, .int v7, .int v8, .int v9, .ref (na 0), .ref (na 1), .ref (na 2), .ref (na 3), .ref (na 4), .ref (na 5), .ref (na 6), .ref (na 7), .ref (na 8), .ref (na 9)]) := (congrFun ef19 q).trans (va_up_self _ _ _)
  refine lv_aload_n hx hb dX3_become_56 rfl (lv_at hl 0 rfl) ?_
  refine lv_aload_n hx hb dX3_become_57 rfl (lv_at hl 1 rfl) ?_
  have h21 : f19 o = .inr (3, [.int u0, .int u1, .int u2, .int u3, .int u4, .int u5, .int u6, .int u7, .int u8, .int u9, .ref (oa 0), .ref (oa 1), .ref (oa 2), .ref (oa 3), .ref (oa 4), .ref (oa 5), .ref (oa 6), .ref (oa 7), .ref (oa 8), .ref (oa 9)]) := ((congrFun ef19 o).trans (va_up_ne _ _ (Ne.symm hqo))).trans h18
  refine g_get C hH mo h21 iX3 rfl 7 (by decide) wd4 rfl rfl dX3_become_58 ?_
  refine g_put C hH mq h20 iX3 tyX3 tyX3_ok nmX3 rfl 7 (by decide) wd4 rfl rfl rfl rfl (Nat.le_of_ble_eq_true rfl) (fs' := [.int u0, .int u1, .int u2, .int u3, .int u4, .int u5, .int u6, .int u7, .int v8, .int v9, .ref (na 0), .ref (na 1), .ref (na 2), .ref (na 3), .ref (na 4), .ref (na 5), .ref (na 6), .ref (na 7), .ref (na 8), .ref (na 9)]) rfl dX3_become_61 (fun H locs hH => ?_)
  obtain ⟨f22, ef22⟩ : ∃ z : gF, z = va_up f19 q (.inr (3, [.int u0, .int u1, .int u2, .int u3, .int u4, .int u5, .int u6, .int u7, .int v8, .int v9, .ref (na 0), .ref (na 1), .ref (na 2), .ref (na 3), .ref (na 4), .ref (na 5), .ref (na 6), .ref (na 7), .ref (na 8), .ref (na 9)])) := ⟨_, rfl⟩
  have hH : gH E A L f22 s.heap H locs := by rw [ef22]; exact hH
  have h23 : f22 q = .inr (3, [.int u0, .int u1, .int u2, .int u3, .int u4, .int u5, .int u6, .int u7, .int v8, .int v9, .ref (na 0), .ref (na 1), .ref (na 2), .ref (na 3), .ref (na 4), .ref (na 5), .ref (na 6), .ref (na 7), .ref (na 8), .ref (na 9)]) := (congrFun ef22 q).trans (va_up_self _ _ _)
  refine lv_aload_n hx hb dX3_become_64 rfl (lv_at hl 0 rfl) ?_
  refine lv_aload_n hx hb dX3_become_65 rfl (lv_at hl 1 rfl) ?_
  have h24 : f22 o = .inr (3, [.int u0, .int u1, .int u2, .int u3, .int u4, .int u5, .int u6, .int u7, .int u8, .int u9, .ref (oa 0), .ref (oa 1), .ref (oa 2), .ref (oa 3), .ref (oa 4), .ref (oa 5), .ref (oa 6), .ref (oa 7), .ref (oa 8), .ref (oa 9)]) := ((congrFun ef22 o).trans (va_up_ne _ _ (Ne.symm hqo))).trans h21
  refine g_get C hH mo h24 iX3 rfl 8 (by decide) wd98 rfl rfl dX3_become_66 ?_
  refine g_put C hH mq h23 iX3 tyX3 tyX3_ok nmX3 rfl 8 (by decide) wd98 rfl rfl rfl rfl (Nat.le_of_ble_eq_true rfl) (fs' := [.int u0, .int u1, .int u2, .int u3, .int u4, .int u5, .int u6, .int u7, .int u8, .int v9, .ref (na 0), .ref (na 1), .ref (na 2), .ref (na 3), .ref (na 4), .ref (na 5), .ref (na 6), .ref (na 7), .ref (na 8), .ref (na 9)]) rfl dX3_become_69 (fun H locs hH => ?_)
  obtain ⟨f25, ef25⟩ : ∃ z : gF, z = va_up f22 q (.inr (3, [.int u0, .int u1, .int u2, .int u3, .int u4, .int u5, .int u6, .int u7, .int u8, .int v9, .ref (na 0), .ref (na 1), .ref (na 2), .ref (na 3), .ref (na 4), .ref (na 5), .ref (na 6), .ref (na 7), .ref (na 8), .ref (na 9)])) := ⟨_, rfl⟩
  have hH : gH E A L f25 s.heap H locs := by rw [ef25]; exact hH
  have h26 : f25 q = .inr (3, [.int u0, .int u1, .int u2, .int u3, .int u4, .int u5, .int u6, .int u7, .int u8, .int v9, .ref (na 0), .ref (na 1), .ref (na 2), .ref (na 3), .ref (na 4), .ref (na 5), .ref (na 6), .ref (na 7), .ref (na 8), .ref (na 9)]) := (congrFun ef25 q).trans (va_up_self _ _ _)
  refine lv_aload_n hx hb dX3_become_72 rfl (lv_at hl 0 rfl) ?_
  refine lv_aload_n hx hb dX3_become_73 rfl (lv_at hl 1 rfl) ?_
  have h27 : f25 o = .inr (3, [.int u0, .int u1, .int u2, .int u3, .int u4, .int u5, .int u6, .int u7, .int u8, .int u9, .ref (oa 0), .ref (oa 1), .ref (oa 2), .ref (oa 3), .ref (oa 4), .ref (oa 5), .ref (oa 6), .ref (oa 7), .ref (oa 8), .ref (oa 9)]) := ((congrFun ef25 o).trans (va_up_ne _ _ (Ne.symm hqo))).trans h24
  refine g_get C hH mo h27 iX3 rfl 9 (by decide) wd99 rfl rfl dX3_become_74 ?_
  refine g_put C hH mq h26 iX3 tyX3 tyX3_ok nmX3 rfl 9 (by decide) wd99 rfl rfl rfl rfl (Nat.le_of_ble_eq_true rfl) (fs' := [.int u0, .int u1, .int u2, .int u3, .int u4, .int u5, .int u6, .int u7, .int u8, .int u9, .ref (na 0), .ref (na 1), .ref (na 2), .ref (na 3), .ref (na 4), .ref (na 5), .ref (na 6), .ref (na 7), .ref (na 8), .ref (na 9)]) rfl dX3_become_77 (fun H locs hH => ?_)
  obtain ⟨f28, ef28⟩ : ∃ z : gF, z = va_up f25 q (.inr (3, [.int u0, .int u1, .int u2, .int u3, .int u4, .int u5, .int u6, .int u7, .int u8, .int u9, .ref (na 0), .ref (na 1), .ref (na 2), .ref (na 3), .ref (na 4), .ref (na 5), .ref (na 6), .ref (na 7), .ref (na 8), .ref (na 9)])) := ⟨_, rfl⟩
  have hH : gH E A L f28 s.heap H locs := by rw [ef28]; exact hH
  have h29 : f28 q = .inr (3, [.int u0, .int u1, .int u2, .int u3, .int u4, .int u5, .int u6, .int u7, .int u8, .int u9, .ref (na 0), .ref (na 1), .ref (na 2), .ref (na 3), .ref (na 4), .ref (na 5), .ref (na 6), .ref (na 7), .ref (na 8), .ref (na 9)]) := (congrFun ef28 q).trans (va_up_self _ _ _)
  refine lv_aload_n hx hb dX3_become_80 rfl (lv_at hl 1 rfl) ?_
  have h30 : f28 o = .inr (3, [.int u0, .int u1, .int u2, .int u3, .int u4, .int u5, .int u6, .int u7, .int u8, .int u9, .ref (oa 0), .ref (oa 1), .ref (oa 2), .ref (oa 3), .ref (oa 4), .ref (oa 5), .ref (oa 6), .ref (oa 7), .ref (oa 8), .ref (oa 9)]) := ((congrFun ef28 o).trans (va_up_ne _ _ (Ne.symm hqo))).trans h27
  refine g_get C hH mo h30 iX3 rfl 10 (by decide) wd100 rfl rfl dX3_become_81 ?_
  refine lv_iconst (v := (0 : Int32)) hx hb dX3_become_84 (by decide) ?_
  refine lv_aload_n hx hb dX3_become_85 rfl (lv_at hl 0 rfl) ?_
  refine g_get C hH mq h29 iX3 rfl 10 (by decide) wd100 rfl rfl dX3_become_86 ?_
  refine lv_iconst (v := (0 : Int32)) hx hb dX3_become_89 (by decide) ?_
  refine lv_iconst (v := (4 : Int32)) hx hb dX3_become_90 (by decide) ?_
  have h31 := gArrs_upO ef1 fq go
  have h32 := gArrs_upO ef4 h2 h31
  have h33 := gArrs_upO ef7 h5 h32
  have h34 := gArrs_upO ef10 h8 h33
  have h35 := gArrs_upO ef13 h11 h34
  have h36 := gArrs_upO ef16 h14 h35
  have h37 := gArrs_upO ef19 h17 h36
  have h38 := gArrs_upO ef22 h20 h37
  have h39 := gArrs_upO ef25 h23 h38
  have h40 := gArrs_upO ef28 h26 h39
  obtain ⟨m41, v42, h43⟩ := h40 0 (by decide)
  have h44 := gArrs_upO ef1 fq gq
  have h45 := gArrs_upO ef4 h2 h44
  have h46 := gArrs_upO ef7 h5 h45
  have h47 := gArrs_upO ef10 h8 h46
  have h48 := gArrs_upO ef13 h11 h47
  have h49 := gArrs_upO ef16 h14 h48
  have h50 := gArrs_upO ef19 h17 h49
  have h51 := gArrs_upO ef22 h20 h50
  have h52 := gArrs_upO ef25 h23 h51
  have h53 := gArrs_upO ef28 h26 h52
  obtain ⟨m54, v55, h56⟩ := h53 0 (by decide)
  refine g_copyi C hl.1.symm hH wd102 wd103 wd104 wd101 m41 h43 m54 h56 (by decide) (by decide) (by decide) (by decide) (by decide) (Nat.le_of_ble_eq_true rfl) (Nat.le_of_ble_eq_true rfl) dX3_become_91 (fun H locs hH => ?_)
  obtain ⟨f57, ef57⟩ : ∃ z : gF, z = va_up f28 (na 0) (.inl (E.2.2 1, (gLen 0), .inl (va_cpy v42 v55 ((0 : Int32)).toNatClampNeg ((0 : Int32)).toNatClampNeg ((4 : Int32)).toNatClampNeg))) := ⟨_, rfl⟩
  have hH : gH E A L f57 s.heap H locs := by rw [ef57]; exact hH
  have h58 : f57 (na 0) = .inl (E.2.2 1, (gLen 0), .inl (va_cpy v42 v55 ((0 : Int32)).toNatClampNeg ((0 : Int32)).toNatClampNeg ((4 : Int32)).toNatClampNeg)) := (congrFun ef57 (na 0)).trans (va_up_self _ _ _)
  refine lv_aload_n hx hb dX3_become_94 rfl (lv_at hl 1 rfl) ?_
  have h59 : f57 o = .inr (3, [.int u0, .int u1, .int u2, .int u3, .int u4, .int u5, .int u6, .int u7, .int u8, .int u9, .ref (oa 0), .ref (oa 1), .ref (oa 2), .ref (oa 3), .ref (oa 4), .ref (oa 5), .ref (oa 6), .ref (oa 7), .ref (oa 8), .ref (oa 9)]) := ((congrFun ef57 o).trans (va_up_ne _ _ (g_neOA h30 h56))).trans h30
  refine g_get C hH mo h59 iX3 rfl 11 (by decide) wd105 rfl rfl dX3_become_95 ?_
  refine lv_iconst (v := (0 : Int32)) hx hb dX3_become_98 (by decide) ?_
  refine lv_aload_n hx hb dX3_become_99 rfl (lv_at hl 0 rfl) ?_
  have h60 : f57 q = .inr (3, [.int u0, .int u1, .int u2, .int u3, .int u4, .int u5, .int u6, .int u7, .int u8, .int u9, .ref (na 0), .ref (na 1), .ref (na 2), .ref (na 3), .ref (na 4), .ref (na 5), .ref (na 6), .ref (na 7), .ref (na 8), .ref (na 9)]) := ((congrFun ef57 q).trans (va_up_ne _ _ (g_neOA h29 h56))).trans h29
  refine g_get C hH mq h60 iX3 rfl 11 (by decide) wd105 rfl rfl dX3_become_100 ?_
  refine lv_iconst (v := (0 : Int32)) hx hb dX3_become_103 (by decide) ?_
  refine lv_iconst (v := (4 : Int32)) hx hb dX3_become_104 (by decide) ?_
  have h61 := gArrs_upI ef57 h56 h40
  obtain ⟨m62, v63, h64⟩ := h61 1 (by decide)
  have h65 := gArrs_upI ef57 h56 h53
  obtain ⟨m66, v67, h68⟩ := h65 1 (by decide)
  refine g_copyi C hl.1.symm hH wd102 wd103 wd104 wd101 m62 h64 m66 h68 (by decide) (by decide) (by decide) (by decide) (by decide) (Nat.le_of_ble_eq_true rfl) (Nat.le_of_ble_eq_true rfl) dX3_become_105 (fun H locs hH => ?_)
  obtain ⟨f69, ef69⟩ : ∃ z : gF, z = va_up f57 (na 1) (.inl (E.2.2 1, (gLen 1), .inl (va_cpy v63 v67 ((0 : Int32)).toNatClampNeg ((0 : Int32)).toNatClampNeg ((4 : Int32)).toNatClampNeg))) := ⟨_, rfl⟩
  have hH : gH E A L f69 s.heap H locs := by rw [ef69]; exact hH
  have h70 : f69 (na 1) = .inl (E.2.2 1, (gLen 1), .inl (va_cpy v63 v67 ((0 : Int32)).toNatClampNeg ((0 : Int32)).toNatClampNeg ((4 : Int32)).toNatClampNeg)) := (congrFun ef69 (na 1)).trans (va_up_self _ _ _)
  refine lv_aload_n hx hb dX3_become_108 rfl (lv_at hl 1 rfl) ?_
  have h71 : f69 o = .inr (3, [.int u0, .int u1, .int u2, .int u3, .int u4, .int u5, .int u6, .int u7, .int u8, .int u9, .ref (oa 0), .ref (oa 1), .ref (oa 2), .ref (oa 3), .ref (oa 4), .ref (oa 5), .ref (oa 6), .ref (oa 7), .ref (oa 8), .ref (oa 9)]) := ((congrFun ef69 o).trans (va_up_ne _ _ (g_neOA h59 h68))).trans h59
  refine g_get C hH mo h71 iX3 rfl 12 (by decide) wd106 rfl rfl dX3_become_109 ?_
  refine lv_iconst (v := (0 : Int32)) hx hb dX3_become_112 (by decide) ?_
  refine lv_aload_n hx hb dX3_become_113 rfl (lv_at hl 0 rfl) ?_
  have h72 : f69 q = .inr (3, [.int u0, .int u1, .int u2, .int u3, .int u4, .int u5, .int u6, .int u7, .int u8, .int u9, .ref (na 0), .ref (na 1), .ref (na 2), .ref (na 3), .ref (na 4), .ref (na 5), .ref (na 6), .ref (na 7), .ref (na 8), .ref (na 9)]) := ((congrFun ef69 q).trans (va_up_ne _ _ (g_neOA h60 h68))).trans h60
  refine g_get C hH mq h72 iX3 rfl 12 (by decide) wd106 rfl rfl dX3_become_114 ?_
  refine lv_iconst (v := (0 : Int32)) hx hb dX3_become_117 (by decide) ?_
  refine lv_iconst (v := (4 : Int32)) hx hb dX3_become_118 (by decide) ?_
  have h73 := gArrs_upI ef69 h68 h61
  obtain ⟨m74, v75, h76⟩ := h73 2 (by decide)
  have h77 := gArrs_upI ef69 h68 h65
  obtain ⟨m78, v79, h80⟩ := h77 2 (by decide)
  refine g_copyi C hl.1.symm hH wd102 wd103 wd104 wd101 m74 h76 m78 h80 (by decide) (by decide) (by decide) (by decide) (by decide) (Nat.le_of_ble_eq_true rfl) (Nat.le_of_ble_eq_true rfl) dX3_become_119 (fun H locs hH => ?_)
  obtain ⟨f81, ef81⟩ : ∃ z : gF, z = va_up f69 (na 2) (.inl (E.2.2 1, (gLen 2), .inl (va_cpy v75 v79 ((0 : Int32)).toNatClampNeg ((0 : Int32)).toNatClampNeg ((4 : Int32)).toNatClampNeg))) := ⟨_, rfl⟩
  have hH : gH E A L f81 s.heap H locs := by rw [ef81]; exact hH
  have h82 : f81 (na 2) = .inl (E.2.2 1, (gLen 2), .inl (va_cpy v75 v79 ((0 : Int32)).toNatClampNeg ((0 : Int32)).toNatClampNeg ((4 : Int32)).toNatClampNeg)) := (congrFun ef81 (na 2)).trans (va_up_self _ _ _)
  refine lv_aload_n hx hb dX3_become_122 rfl (lv_at hl 1 rfl) ?_
  have h83 : f81 o = .inr (3, [.int u0, .int u1, .int u2, .int u3, .int u4, .int u5, .int u6, .int u7, .int u8, .int u9, .ref (oa 0), .ref (oa 1), .ref (oa 2), .ref (oa 3), .ref (oa 4), .ref (oa 5), .ref (oa 6), .ref (oa 7), .ref (oa 8), .ref (oa 9)]) := ((congrFun ef81 o).trans (va_up_ne _ _ (g_neOA h71 h80))).trans h71
  refine g_get C hH mo h83 iX3 rfl 13 (by decide) wd107 rfl rfl dX3_become_123 ?_
  refine lv_iconst (v := (0 : Int32)) hx hb dX3_become_126 (by decide) ?_
  refine lv_aload_n hx hb dX3_become_127 rfl (lv_at hl 0 rfl) ?_
  have h84 : f81 q = .inr (3, [.int u0, .int u1, .int u2, .int u3, .int u4, .int u5, .int u6, .int u7, .int u8, .int u9, .ref (na 0), .ref (na 1), .ref (na 2), .ref (na 3), .ref (na 4), .ref (na 5), .ref (na 6), .ref (na 7), .ref (na 8), .ref (na 9)]) := ((congrFun ef81 q).trans (va_up_ne _ _ (g_neOA h72 h80))).trans h72
  refine g_get C hH mq h84 iX3 rfl 13 (by decide) wd107 rfl rfl dX3_become_128 ?_
  refine lv_iconst (v := (0 : Int32)) hx hb dX3_become_131 (by decide) ?_
  refine lv_bipush (v := (6 : Int32)) hx hb dX3_become_132 (by decide) ?_
  have h85 := gArrs_upI ef81 h80 h73
  obtain ⟨m86, v87, h88⟩ := h85 3 (by decide)
  have h89 := gArrs_upI ef81 h80 h77
  obtain ⟨m90, v91, h92⟩ := h89 3 (by decide)
  refine g_copyi C hl.1.symm hH wd102 wd103 wd104 wd101 m86 h88 m90 h92 (by decide) (by decide) (by decide) (by decide) (by decide) (Nat.le_of_ble_eq_true rfl) (Nat.le_of_ble_eq_true rfl) dX3_become_134 (fun H locs hH => ?_)
  obtain ⟨f93, ef93⟩ : ∃ z : gF, z = va_up f81 (na 3) (.inl (E.2.2 1, (gLen 3), .inl (va_cpy v87 v91 ((0 : Int32)).toNatClampNeg ((0 : Int32)).toNatClampNeg ((6 : Int32)).toNatClampNeg))) := ⟨_, rfl⟩
  have hH : gH E A L f93 s.heap H locs := by rw [ef93]; exact hH
  have h94 : f93 (na 3) = .inl (E.2.2 1, (gLen 3), .inl (va_cpy v87 v91 ((0 : Int32)).toNatClampNeg ((0 : Int32)).toNatClampNeg ((6 : Int32)).toNatClampNeg)) := (congrFun ef93 (na 3)).trans (va_up_self _ _ _)
  refine lv_aload_n hx hb dX3_become_137 rfl (lv_at hl 1 rfl) ?_
  have h95 : f93 o = .inr (3, [.int u0, .int u1, .int u2, .int u3, .int u4, .int u5, .int u6, .int u7, .int u8, .int u9, .ref (oa 0), .ref (oa 1), .ref (oa 2), .ref (oa 3), .ref (oa 4), .ref (oa 5), .ref (oa 6), .ref (oa 7), .ref (oa 8), .ref (oa 9)]) := ((congrFun ef93 o).trans (va_up_ne _ _ (g_neOA h83 h92))).trans h83
  refine g_get C hH mo h95 iX3 rfl 14 (by decide) wd108 rfl rfl dX3_become_138 ?_
  refine lv_iconst (v := (0 : Int32)) hx hb dX3_become_141 (by decide) ?_
  refine lv_aload_n hx hb dX3_become_142 rfl (lv_at hl 0 rfl) ?_
  have h96 : f93 q = .inr (3, [.int u0, .int u1, .int u2, .int u3, .int u4, .int u5, .int u6, .int u7, .int u8, .int u9, .ref (na 0), .ref (na 1), .ref (na 2), .ref (na 3), .ref (na 4), .ref (na 5), .ref (na 6), .ref (na 7), .ref (na 8), .ref (na 9)]) := ((congrFun ef93 q).trans (va_up_ne _ _ (g_neOA h84 h92))).trans h84
  refine g_get C hH mq h96 iX3 rfl 14 (by decide) wd108 rfl rfl dX3_become_143 ?_
  refine lv_iconst (v := (0 : Int32)) hx hb dX3_become_146 (by decide) ?_
  refine lv_bipush (v := (6 : Int32)) hx hb dX3_become_147 (by decide) ?_
  have h97 := gArrs_upI ef93 h92 h85
  obtain ⟨m98, v99, h100⟩ := h97 4 (by decide)
  have h101 := gArrs_upI ef93 h92 h89
  obtain ⟨m102, v103, h104⟩ := h101 4 (by decide)
  refine g_copyi C hl.1.symm hH wd102 wd103 wd104 wd101 m98 h100 m102 h104 (by decide) (by decide) (by decide) (by decide) (by decide) (Nat.le_of_ble_eq_true rfl) (Nat.le_of_ble_eq_true rfl) dX3_become_149 (fun H locs hH => ?_)
  obtain ⟨f105, ef105⟩ : ∃ z : gF, z = va_up f93 (na 4) (.inl (E.2.2 1, (gLen 4), .inl (va_cpy v99 v103 ((0 : Int32)).toNatClampNeg ((0 : Int32)).toNatClampNeg ((6 : Int32)).toNatClampNeg))) := ⟨_, rfl⟩
  have hH : gH E A L f105 s.heap H locs := by rw [ef105]; exact hH
  have h106 : f105 (na 4) = .inl (E.2.2 1, (gLen 4), .inl (va_cpy v99 v103 ((0 : Int32)).toNatClampNeg ((0 : Int32)).toNatClampNeg ((6 : Int32)).toNatClampNeg)) := (congrFun ef105 (na 4)).trans (va_up_self _ _ _)
  refine lv_aload_n hx hb dX3_become_152 rfl (lv_at hl 1 rfl) ?_
  have h107 : f105 o = .inr (3, [.int u0, .int u1, .int u2, .int u3, .int u4, .int u5, .int u6, .int u7, .int u8, .int u9, .ref (oa 0), .ref (oa 1), .ref (oa 2), .ref (oa 3), .ref (oa 4), .ref (oa 5), .ref (oa 6), .ref (oa 7), .ref (oa 8), .ref (oa 9)]) := ((congrFun ef105 o).trans (va_up_ne _ _ (g_neOA h95 h104))).trans h95
  refine g_get C hH mo h107 iX3 rfl 15 (by decide) wd109 rfl rfl dX3_become_153 ?_
  refine lv_iconst (v := (0 : Int32)) hx hb dX3_become_156 (by decide) ?_
  refine lv_aload_n hx hb dX3_become_157 rfl (lv_at hl 0 rfl) ?_
  have h108 : f105 q = .inr (3, [.int u0, .int u1, .int u2, .int u3, .int u4, .int u5, .int u6, .int u7, .int u8, .int u9, .ref (na 0), .ref (na 1), .ref (na 2), .ref (na 3), .ref (na 4), .ref (na 5), .ref (na 6), .ref (na 7), .ref (na 8), .ref (na 9)]) := ((congrFun ef105 q).trans (va_up_ne _ _ (g_neOA h96 h104))).trans h96
  refine g_get C hH mq h108 iX3 rfl 15 (by decide) wd109 rfl rfl dX3_become_158 ?_
  refine lv_iconst (v := (0 : Int32)) hx hb dX3_become_161 (by decide) ?_
  refine lv_bipush (v := (6 : Int32)) hx hb dX3_become_162 (by decide) ?_
  have h109 := gArrs_upI ef105 h104 h97
  obtain ⟨m110, v111, h112⟩ := h109 5 (by decide)
  have h113 := gArrs_upI ef105 h104 h101
  obtain ⟨m114, v115, h116⟩ := h113 5 (by decide)
  refine g_copyi C hl.1.symm hH wd102 wd103 wd104 wd101 m110 h112 m114 h116 (by decide) (by decide) (by decide) (by decide) (by decide) (Nat.le_of_ble_eq_true rfl) (Nat.le_of_ble_eq_true rfl) dX3_become_164 (fun H locs hH => ?_)
  obtain ⟨f117, ef117⟩ : ∃ z : gF, z = va_up f105 (na 5) (.inl (E.2.2 1, (gLen 5), .inl (va_cpy v111 v115 ((0 : Int32)).toNatClampNeg ((0 : Int32)).toNatClampNeg ((6 : Int32)).toNatClampNeg))) := ⟨_, rfl⟩
  have hH : gH E A L f117 s.heap H locs := by rw [ef117]; exact hH
  have h118 : f117 (na 5) = .inl (E.2.2 1, (gLen 5), .inl (va_cpy v111 v115 ((0 : Int32)).toNatClampNeg ((0 : Int32)).toNatClampNeg ((6 : Int32)).toNatClampNeg)) := (congrFun ef117 (na 5)).trans (va_up_self _ _ _)
  refine lv_aload_n hx hb dX3_become_167 rfl (lv_at hl 1 rfl) ?_
  have h119 : f117 o = .inr (3, [.int u0, .int u1, .int u2, .int u3, .int u4, .int u5, .int u6, .int u7, .int u8, .int u9, .ref (oa 0), .ref (oa 1), .ref (oa 2), .ref (oa 3), .ref (oa 4), .ref (oa 5), .ref (oa 6), .ref (oa 7), .ref (oa 8), .ref (oa 9)]) := ((congrFun ef117 o).trans (va_up_ne _ _ (g_neOA h107 h116))).trans h107
  refine g_get C hH mo h119 iX3 rfl 16 (by decide) wd110 rfl rfl dX3_become_168 ?_
  refine lv_iconst (v := (0 : Int32)) hx hb dX3_become_171 (by decide) ?_
  refine lv_aload_n hx hb dX3_become_172 rfl (lv_at hl 0 rfl) ?_
  have h120 : f117 q = .inr (3, [.int u0, .int u1, .int u2, .int u3, .int u4, .int u5, .int u6, .int u7, .int u8, .int u9, .ref (na 0), .ref (na 1), .ref (na 2), .ref (na 3), .ref (na 4), .ref (na 5), .ref (na 6), .ref (na 7), .ref (na 8), .ref (na 9)]) := ((congrFun ef117 q).trans (va_up_ne _ _ (g_neOA h108 h116))).trans h108
  refine g_get C hH mq h120 iX3 rfl 16 (by decide) wd110 rfl rfl dX3_become_173 ?_
  refine lv_iconst (v := (0 : Int32)) hx hb dX3_become_176 (by decide) ?_
  refine lv_bipush (v := (40 : Int32)) hx hb dX3_become_177 (by decide) ?_
  have h121 := gArrs_upI ef117 h116 h109
  obtain ⟨m122, v123, h124⟩ := h121 6 (by decide)
  have h125 := gArrs_upI ef117 h116 h113
  obtain ⟨m126, v127, h128⟩ := h125 6 (by decide)
  refine g_copyi C hl.1.symm hH wd102 wd103 wd104 wd101 m122 h124 m126 h128 (by decide) (by decide) (by decide) (by decide) (by decide) (Nat.le_of_ble_eq_true rfl) (Nat.le_of_ble_eq_true rfl) dX3_become_179 (fun H locs hH => ?_)
  obtain ⟨f129, ef129⟩ : ∃ z : gF, z = va_up f117 (na 6) (.inl (E.2.2 1, (gLen 6), .inl (va_cpy v123 v127 ((0 : Int32)).toNatClampNeg ((0 : Int32)).toNatClampNeg ((40 : Int32)).toNatClampNeg))) := ⟨_, rfl⟩
  have hH : gH E A L f129 s.heap H locs := by rw [ef129]; exact hH
  have h130 : f129 (na 6) = .inl (E.2.2 1, (gLen 6), .inl (va_cpy v123 v127 ((0 : Int32)).toNatClampNeg ((0 : Int32)).toNatClampNeg ((40 : Int32)).toNatClampNeg)) := (congrFun ef129 (na 6)).trans (va_up_self _ _ _)
  refine lv_aload_n hx hb dX3_become_182 rfl (lv_at hl 1 rfl) ?_
  have h131 : f129 o = .inr (3, [.int u0, .int u1, .int u2, .int u3, .int u4, .int u5, .int u6, .int u7, .int u8, .int u9, .ref (oa 0), .ref (oa 1), .ref (oa 2), .ref (oa 3), .ref (oa 4), .ref (oa 5), .ref (oa 6), .ref (oa 7), .ref (oa 8), .ref (oa 9)]) := ((congrFun ef129 o).trans (va_up_ne _ _ (g_neOA h119 h128))).trans h119
  refine g_get C hH mo h131 iX3 rfl 17 (by decide) wd111 rfl rfl dX3_become_183 ?_
  refine lv_iconst (v := (0 : Int32)) hx hb dX3_become_186 (by decide) ?_
  refine lv_aload_n hx hb dX3_become_187 rfl (lv_at hl 0 rfl) ?_
  have h132 : f129 q = .inr (3, [.int u0, .int u1, .int u2, .int u3, .int u4, .int u5, .int u6, .int u7, .int u8, .int u9, .ref (na 0), .ref (na 1), .ref (na 2), .ref (na 3), .ref (na 4), .ref (na 5), .ref (na 6), .ref (na 7), .ref (na 8), .ref (na 9)]) := ((congrFun ef129 q).trans (va_up_ne _ _ (g_neOA h120 h128))).trans h120
  refine g_get C hH mq h132 iX3 rfl 17 (by decide) wd111 rfl rfl dX3_become_188 ?_
  refine lv_iconst (v := (0 : Int32)) hx hb dX3_become_191 (by decide) ?_
  refine lv_bipush (v := (40 : Int32)) hx hb dX3_become_192 (by decide) ?_
  have h133 := gArrs_upI ef129 h128 h121
  obtain ⟨m134, v135, h136⟩ := h133 7 (by decide)
  have h137 := gArrs_upI ef129 h128 h125
  obtain ⟨m138, v139, h140⟩ := h137 7 (by decide)
  refine g_copyi C hl.1.symm hH wd102 wd103 wd104 wd101 m134 h136 m138 h140 (by decide) (by decide) (by decide) (by decide) (by decide) (Nat.le_of_ble_eq_true rfl) (Nat.le_of_ble_eq_true rfl) dX3_become_194 (fun H locs hH => ?_)
  obtain ⟨f141, ef141⟩ : ∃ z : gF, z = va_up f129 (na 7) (.inl (E.2.2 1, (gLen 7), .inl (va_cpy v135 v139 ((0 : Int32)).toNatClampNeg ((0 : Int32)).toNatClampNeg ((40 : Int32)).toNatClampNeg))) := ⟨_, rfl⟩
  have hH : gH E A L f141 s.heap H locs := by rw [ef141]; exact hH
  have h142 : f141 (na 7) = .inl (E.2.2 1, (gLen 7), .inl (va_cpy v135 v139 ((0 : Int32)).toNatClampNeg ((0 : Int32)).toNatClampNeg ((40 : Int32)).toNatClampNeg)) := (congrFun ef141 (na 7)).trans (va_up_self _ _ _)
  refine lv_aload_n hx hb dX3_become_197 rfl (lv_at hl 1 rfl) ?_
  have h143 : f141 o = .inr (3, [.int u0, .int u1, .int u2, .int u3, .int u4, .int u5, .int u6, .int u7, .int u8, .int u9, .ref (oa 0), .ref (oa 1), .ref (oa 2), .ref (oa 3), .ref (oa 4), .ref (oa 5), .ref (oa 6), .ref (oa 7), .ref (oa 8), .ref (oa 9)]) := ((congrFun ef141 o).trans (va_up_ne _ _ (g_neOA h131 h140))).trans h131
  refine g_get C hH mo h143 iX3 rfl 18 (by decide) wd112 rfl rfl dX3_become_198 ?_
  refine lv_iconst (v := (0 : Int32)) hx hb dX3_become_201 (by decide) ?_
  refine lv_aload_n hx hb dX3_become_202 rfl (lv_at hl 0 rfl) ?_
  have h144 : f141 q = .inr (3, [.int u0, .int u1, .int u2, .int u3, .int u4, .int u5, .int u6, .int u7, .int u8, .int u9, .ref (na 0), .ref (na 1), .ref (na 2), .ref (na 3), .ref (na 4), .ref (na 5), .ref (na 6), .ref (na 7), .ref (na 8), .ref (na 9)]) := ((congrFun ef141 q).trans (va_up_ne _ _ (g_neOA h132 h140))).trans h132
  refine g_get C hH mq h144 iX3 rfl 18 (by decide) wd112 rfl rfl dX3_become_203 ?_
  refine lv_iconst (v := (0 : Int32)) hx hb dX3_become_206 (by decide) ?_
  refine lv_bipush (v := (20 : Int32)) hx hb dX3_become_207 (by decide) ?_
  have h145 := gArrs_upI ef141 h140 h133
  obtain ⟨m146, v147, h148⟩ := h145 8 (by decide)
  have h149 := gArrs_upI ef141 h140 h137
  obtain ⟨m150, v151, h152⟩ := h149 8 (by decide)
  refine g_copyi C hl.1.symm hH wd102 wd103 wd104 wd101 m146 h148 m150 h152 (by decide) (by decide) (by decide) (by decide) (by decide) (Nat.le_of_ble_eq_true rfl) (Nat.le_of_ble_eq_true rfl) dX3_become_209 (fun H locs hH => ?_)
  obtain ⟨f153, ef153⟩ : ∃ z : gF, z = va_up f141 (na 8) (.inl (E.2.2 1, (gLen 8), .inl (va_cpy v147 v151 ((0 : Int32)).toNatClampNeg ((0 : Int32)).toNatClampNeg ((20 : Int32)).toNatClampNeg))) := ⟨_, rfl⟩
  have hH : gH E A L f153 s.heap H locs := by rw [ef153]; exact hH
  have h154 : f153 (na 8) = .inl (E.2.2 1, (gLen 8), .inl (va_cpy v147 v151 ((0 : Int32)).toNatClampNeg ((0 : Int32)).toNatClampNeg ((20 : Int32)).toNatClampNeg)) := (congrFun ef153 (na 8)).trans (va_up_self _ _ _)
  refine lv_aload_n hx hb dX3_become_212 rfl (lv_at hl 1 rfl) ?_
  have h155 : f153 o = .inr (3, [.int u0, .int u1, .int u2, .int u3, .int u4, .int u5, .int u6, .int u7, .int u8, .int u9, .ref (oa 0), .ref (oa 1), .ref (oa 2), .ref (oa 3), .ref (oa 4), .ref (oa 5), .ref (oa 6), .ref (oa 7), .ref (oa 8), .ref (oa 9)]) := ((congrFun ef153 o).trans (va_up_ne _ _ (g_neOA h143 h152))).trans h143
  refine g_get C hH mo h155 iX3 rfl 19 (by decide) wd113 rfl rfl dX3_become_213 ?_
  refine lv_iconst (v := (0 : Int32)) hx hb dX3_become_216 (by decide) ?_
  refine lv_aload_n hx hb dX3_become_217 rfl (lv_at hl 0 rfl) ?_
  have h156 : f153 q = .inr (3, [.int u0, .int u1, .int u2, .int u3, .int u4, .int u5, .int u6, .int u7, .int u8, .int u9, .ref (na 0), .ref (na 1), .ref (na 2), .ref (na 3), .ref (na 4), .ref (na 5), .ref (na 6), .ref (na 7), .ref (na 8), .ref (na 9)]) := ((congrFun ef153 q).trans (va_up_ne _ _ (g_neOA h144 h152))).trans h144
  refine g_get C hH mq h156 iX3 rfl 19 (by decide) wd113 rfl rfl dX3_become_218 ?_
  refine lv_iconst (v := (0 : Int32)) hx hb dX3_become_221 (by decide) ?_
  refine lv_bipush (v := (80 : Int32)) hx hb dX3_become_222 (by decide) ?_
  have h157 := gArrs_upI ef153 h152 h145
  obtain ⟨m158, v159, h160⟩ := h157 9 (by decide)
  have h161 := gArrs_upI ef153 h152 h149
  obtain ⟨m162, v163, h164⟩ := h161 9 (by decide)
  refine g_copyi C hl.1.symm hH wd102 wd103 wd104 wd101 m158 h160 m162 h164 (by decide) (by decide) (by decide) (by decide) (by decide) (Nat.le_of_ble_eq_true rfl) (Nat.le_of_ble_eq_true rfl) dX3_become_224 (fun H locs hH => ?_)
  obtain ⟨f165, ef165⟩ : ∃ z : gF, z = va_up f153 (na 9) (.inl (E.2.2 1, (gLen 9), .inl (va_cpy v159 v163 ((0 : Int32)).toNatClampNeg ((0 : Int32)).toNatClampNeg ((80 : Int32)).toNatClampNeg))) := ⟨_, rfl⟩
  have hH : gH E A L f165 s.heap H locs := by rw [ef165]; exact hH
  have h166 : f165 (na 9) = .inl (E.2.2 1, (gLen 9), .inl (va_cpy v159 v163 ((0 : Int32)).toNatClampNeg ((0 : Int32)).toNatClampNeg ((80 : Int32)).toNatClampNeg)) := (congrFun ef165 (na 9)).trans (va_up_self _ _ _)
  refine g_vret C hr hH (Nat.le_of_ble_eq_true rfl) (Nat.le_of_ble_eq_true rfl) dX3_become_227 ?_
  have h167 : f165 q = .inr (3, [.int u0, .int u1, .int u2, .int u3, .int u4, .int u5, .int u6, .int u7, .int u8, .int u9, .ref (na 0), .ref (na 1), .ref (na 2), .ref (na 3), .ref (na 4), .ref (na 5), .ref (na 6), .ref (na 7), .ref (na 8), .ref (na 9)]) := ((congrFun ef165 q).trans (va_up_ne _ _ (g_neOA h156 h164))).trans h156
  have h168 := gArrs_upI ef165 h164 h161
  exact ⟨rfl, h167, h168, fun b h1 h2 => by rw [ef165, va_up_ne _ _ (h2 9 (by decide)), ef153, va_up_ne _ _ (h2 8 (by decide)), ef141, va_up_ne _ _ (h2 7 (by decide)), ef129, va_up_ne _ _ (h2 6 (by decide)), ef117, va_up_ne _ _ (h2 5 (by decide)), ef105, va_up_ne _ _ (h2 4 (by decide)), ef93, va_up_ne _ _ (h2 3 (by decide)), ef81, va_up_ne _ _ (h2 2 (by decide)), ef69, va_up_ne _ _ (h2 1 (by decide)), ef57, va_up_ne _ _ (h2 0 (by decide)), ef28, va_up_ne _ _ h1, ef25, va_up_ne _ _ h1, ef22, va_up_ne _ _ h1, ef19, va_up_ne _ _ h1, ef16, va_up_ne _ _ h1, ef13, va_up_ne _ _ h1, ef10, va_up_ne _ _ h1, ef7, va_up_ne _ _ h1, ef4, va_up_ne _ _ h1, ef1, va_up_ne _ _ h1]⟩
set_option maxHeartbeats 4000000 in
set_option maxRecDepth 100000 in
theorem k_image (l : Launch) (E : gE) (L : List Nat) (f : gF) {x xt xn xr xi xw xs xl xc xh xf xm : Nat} (mx : x ∈ L) (fx : f x = .inr (9, [.ref xt, .ref xn, .ref xr, .ref xi, .ref xw, .ref xs, .ref xl, .ref xc, .ref xh, .ref xf, .ref xm])) {na : Nat → Nat} (mn : xn ∈ L) (fn : f xn = .inr (3, [.int (0 : Int32), .int (0 : Int32), .int (0 : Int32), .int (0 : Int32), .int (0 : Int32), .int (0 : Int32), .int (0 : Int32), .int (0 : Int32), .int (0 : Int32), .int (0 : Int32), .ref (na 0), .ref (na 1), .ref (na 2), .ref (na 3), .ref (na 4), .ref (na 5), .ref (na 6), .ref (na 7), .ref (na 8), .ref (na 9)])) {iv : Nat → Option Nat} (mi : xi ∈ L) (fi : f xi = .inl (E.2.2 4, 3, .inr (.inr (.inr (.inr iv))))) (im : gImgs E L f iv xn) (mm : xm ∈ L) (fm : f xm = .inl (E.2.2 3, 3, .inl (fun _ => 0))) (gn : gArrs E L f na) (p0 : Int32) : gMi l E yX9_image cX9_image 2 .int (gRm 2 0 0) [.ref x, .int p0] L f (fun r _ _ => r = gImage p0) := by
  refine gMi.intro (by decide) (Nat.le_of_ble_eq_true rfl) ?_
  intro p e s m below meth c A ls C hr hA hH hl
  have C : gC E cX9_image 2 RX9 p s m _ meth c := C
  have hl : lv_has ls 2 [(0, .ref x), (1, .int p0)] := hl
  have hx := C.1
  have hb := C.2.1
  refine lv_iload_n hx hb dX9_image_0 rfl (lv_at hl 1 rfl) ?_
  refine lv_if_lt (tgt := 9) hx hb dX9_image_1 (by decide) (fun c1 => ?_) (fun c1 => ?_)
  · skip
    refine lv_bipush (v := (-2 : Int32)) hx hb dX9_image_9 (by decide) ?_
    refine g_iret C hr hH (Nat.le_of_ble_eq_true rfl) (Nat.le_of_ble_eq_true rfl) dX9_image_11 ?_
    exact (by rw [gImage, if_pos c1])
  · skip
    refine lv_iload_n hx hb dX9_image_4 rfl (lv_at hl 1 rfl) ?_
    refine lv_iconst (v := (3 : Int32)) hx hb dX9_image_5 (by decide) ?_
    refine lv_icmp_lt (tgt := 12) hx hb dX9_image_6 (by decide) (fun c2 => ?_) (fun c2 => ?_)
    · skip
      refine lv_aload_n hx hb dX9_image_12 rfl (lv_at hl 0 rfl) ?_
      refine g_get C hH mx fx iX9 rfl 3 (by decide) wd114 rfl rfl dX9_image_13 ?_
      refine lv_iload_n hx hb dX9_image_16 rfl (lv_at hl 1 rfl) ?_
      obtain ⟨q3, nu4, h6, m7, h8, m9, h10⟩ := im (p0).toNatClampNeg (vp_lt (vp_inL (by simp only [fa_lt, fa_le, fa_eq, ti_0, ti_3] at c1 c2; omega)))
      refine g_aald C hH mi 4 rfl fi (vp_inL (by simp only [fa_lt, fa_le, fa_eq, ti_0, ti_3] at c1 c2; omega)) h6 dX9_image_17 ?_
      refine lv_aload_n hx hb dX9_image_18 rfl (lv_at hl 0 rfl) ?_
      refine g_get C hH mx fx iX9 rfl 1 (by decide) wd18 rfl rfl dX9_image_19 ?_
      refine g_Vv C hl.1 hA hH (As := [.ref xn]) (rest := []) (k_become l E L f m7 h8 mn fn m9 gn h10) my_X3_become wd118 m7 h8 rfl rfl rfl (Nat.le_of_ble_eq_true rfl) ⟨Nat.le_of_ble_eq_true rfl, Nat.le_of_ble_eq_true rfl⟩ ⟨Nat.le_of_ble_eq_true rfl, Nat.le_of_ble_eq_true rfl⟩ dX9_image_22 (fun L12 f11 H locs hp hH => ?_)
      obtain ⟨rfl, h13, h14, k15⟩ := hp
      refine lv_aload_n hx hb dX9_image_25 rfl (lv_at hl 0 rfl) ?_
      have h16 : f11 x = .inr (9, [.ref xt, .ref xn, .ref xr, .ref xi, .ref xw, .ref xs, .ref xl, .ref xc, .ref xh, .ref xf, .ref xm]) := (k15 x (g_neO fx h8 (by decide)) (gArrs_neO m9 fx)).trans fx
      refine g_get C hH mx h16 iX9 rfl 10 (by decide) wd119 rfl rfl dX9_image_26 ?_
      refine lv_iload_n hx hb dX9_image_29 rfl (lv_at hl 1 rfl) ?_
      refine lv_iconst (v := (1 : Int32)) hx hb dX9_image_30 (by decide) ?_
      have h17 : f11 xm = .inl (E.2.2 3, 3, .inl (fun _ => 0)) := (k15 xm (g_neAO fm h8) (gArrs_neA m9 fm (by decide))).trans fm
      refine g_zast C hH mm h17 (vp_inL (by simp only [fa_lt, fa_le, fa_eq, ti_0, ti_3] at c1 c2; omega)) dX9_image_31 (fun H locs hH => ?_)
      obtain ⟨f18, ef18⟩ : ∃ z : gF, z = va_up f11 xm (.inl (E.2.2 3, 3, .inl (upd (fun _ => 0) (p0).toNatClampNeg (vp_nar .boolean ((1 : Int32)))))) := ⟨_, rfl⟩
      have hH : gH E A L f18 s.heap H locs := by rw [ef18]; exact hH
      have h19 : f18 xm = .inl (E.2.2 3, 3, .inl (upd (fun _ => 0) (p0).toNatClampNeg (vp_nar .boolean ((1 : Int32))))) := (congrFun ef18 xm).trans (va_up_self _ _ _)
      refine lv_iconst (v := (0 : Int32)) hx hb dX9_image_32 (by decide) ?_
      refine g_iret C hr hH (Nat.le_of_ble_eq_true rfl) (Nat.le_of_ble_eq_true rfl) dX9_image_33 ?_
      exact (by rw [gImage, if_neg c1, if_pos c2])
    · skip
      refine lv_bipush (v := (-2 : Int32)) hx hb dX9_image_9 (by decide) ?_
      refine g_iret C hr hH (Nat.le_of_ble_eq_true rfl) (Nat.le_of_ble_eq_true rfl) dX9_image_11 ?_
      exact (by rw [gImage, if_neg c1, if_neg c2])
set_option maxHeartbeats 4000000 in
set_option maxRecDepth 100000 in
theorem k_back (l : Launch) (E : gE) (L : List Nat) (f : gF) {x xt xn xr xi xw xs xl xc xh xf xm : Nat} (mx : x ∈ L) (fx : f x = .inr (9, [.ref xt, .ref xn, .ref xr, .ref xi, .ref xw, .ref xs, .ref xl, .ref xc, .ref xh, .ref xf, .ref xm])) {na : Nat → Nat} (mn : xn ∈ L) (fn : f xn = .inr (3, [.int (0 : Int32), .int (0 : Int32), .int (0 : Int32), .int (0 : Int32), .int (0 : Int32), .int (0 : Int32), .int (0 : Int32), .int (0 : Int32), .int (0 : Int32), .int (0 : Int32), .ref (na 0), .ref (na 1), .ref (na 2), .ref (na 3), .ref (na 4), .ref (na 5), .ref (na 6), .ref (na 7), .ref (na 8), .ref (na 9)])) (mm : xm ∈ L) (fm : f xm = .inl (E.2.2 3, 3, .inl (fun _ => 0))) (p0 : Int32) : gMi l E yX9_back cX9_back 2 .int (gRm 2 0 0) [.ref x, .int p0] L f (fun r _ _ => r = gBack p0) := by
  refine gMi.intro (by decide) (Nat.le_of_ble_eq_true rfl) ?_
  intro p e s m below meth c A ls C hr hA hH hl
  have C : gC E cX9_back 2 RX9 p s m _ meth c := C
  have hl : lv_has ls 2 [(0, .ref x), (1, .int p0)] := hl
  have hx := C.1
  have hb := C.2.1
  refine lv_iload_n hx hb dX9_back_0 rfl (lv_at hl 1 rfl) ?_
  refine lv_if_lt (tgt := 9) hx hb dX9_back_1 (by decide) (fun c1 => ?_) (fun c1 => ?_)
  · skip
    refine lv_bipush (v := (-2 : Int32)) hx hb dX9_back_9 (by decide) ?_
    refine g_iret C hr hH (Nat.le_of_ble_eq_true rfl) (Nat.le_of_ble_eq_true rfl) dX9_back_11 ?_
    exact (by rw [gBack, if_pos c1])
  · skip
    refine lv_iload_n hx hb dX9_back_4 rfl (lv_at hl 1 rfl) ?_
    refine lv_iconst (v := (3 : Int32)) hx hb dX9_back_5 (by decide) ?_
    refine lv_icmp_lt (tgt := 12) hx hb dX9_back_6 (by decide) (fun c2 => ?_) (fun c2 => ?_)
    · skip
      refine lv_aload_n hx hb dX9_back_12 rfl (lv_at hl 0 rfl) ?_
      refine g_get C hH mx fx iX9 rfl 10 (by decide) wd119 rfl rfl dX9_back_13 ?_
      refine lv_iload_n hx hb dX9_back_16 rfl (lv_at hl 1 rfl) ?_
      refine g_zald C hH mm fm (vp_inL (by simp only [fa_lt, fa_le, fa_eq, ti_0, ti_3] at c1 c2; omega)) dX9_back_17 ?_
      refine lv_if_ne (tgt := 24) hx hb dX9_back_18 (by decide) (fun h => absurd (by decide) h) (fun _ => ?_)
      refine lv_bipush (v := (-6 : Int32)) hx hb dX9_back_21 (by decide) ?_
      refine g_iret C hr hH (Nat.le_of_ble_eq_true rfl) (Nat.le_of_ble_eq_true rfl) dX9_back_23 ?_
      exact (by rw [gBack, if_neg c1, if_pos c2])
    · skip
      refine lv_bipush (v := (-2 : Int32)) hx hb dX9_back_9 (by decide) ?_
      refine g_iret C hr hH (Nat.le_of_ble_eq_true rfl) (Nat.le_of_ble_eq_true rfl) dX9_back_11 ?_
      exact (by rw [gBack, if_neg c1, if_neg c2])
set_option maxHeartbeats 4000000 in
set_option maxRecDepth 100000 in
theorem k_clear (l : Launch) (E : gE) (L : List Nat) (f : gF) {q : Nat} {na : Nat → Nat} (mq : q ∈ L) (fq : f q = .inr (3, [.int (0 : Int32), .int (0 : Int32), .int (0 : Int32), .int (0 : Int32), .int (0 : Int32), .int (0 : Int32), .int (0 : Int32), .int (0 : Int32), .int (0 : Int32), .int (0 : Int32), .ref (na 0), .ref (na 1), .ref (na 2), .ref (na 3), .ref (na 4), .ref (na 5), .ref (na 6), .ref (na 7), .ref (na 8), .ref (na 9)])) : gMv l E yX3_clear cX3_clear 1 (gRm 1 0 0) [.ref q] L f (fun L1 f1 => L = L1 ∧ f1 q = .inr (3, [.int (0 : Int32), .int (0 : Int32), .int (0 : Int32), .int (0 : Int32), .int (0 : Int32), .int (0 : Int32), .int (0 : Int32), .int (0 : Int32), .int (0 : Int32), .int (0 : Int32), .ref (na 0), .ref (na 1), .ref (na 2), .ref (na 3), .ref (na 4), .ref (na 5), .ref (na 6), .ref (na 7), .ref (na 8), .ref (na 9)]) ∧ ∀ b, b ≠ q → f1 b = f b) := by
  refine gMv.intro (by decide) (Nat.le_of_ble_eq_true rfl) ?_
  intro p e s m below meth c A ls C hr hnm hA hH hl
  have C : gC E cX3_clear 1 RX3 p s m _ meth c := C
  have hl : lv_has ls 1 [(0, .ref q)] := hl
  have hx := C.1
  have hb := C.2.1
  refine lv_aload_n hx hb dX3_clear_0 rfl (lv_at hl 0 rfl) ?_
  refine lv_iconst (v := (0 : Int32)) hx hb dX3_clear_1 (by decide) ?_
  refine g_put C hH mq fq iX3 tyX3 tyX3_ok nmX3 rfl 0 (by decide) wd0 rfl rfl rfl rfl (Nat.le_of_ble_eq_true rfl) (fs' := [.int (0 : Int32), .int (0 : Int32), .int (0 : Int32), .int (0 : Int32), .int (0 : Int32), .int (0 : Int32), .int (0 : Int32), .int (0 : Int32), .int (0 : Int32), .int (0 : Int32), .ref (na 0), .ref (na 1), .ref (na 2), .ref (na 3), .ref (na 4), .ref (na 5), .ref (na 6), .ref (na 7), .ref (na 8), .ref (na 9)]) rfl dX3_clear_2 (fun H locs hH => ?_)
  obtain ⟨f1, ef1⟩ : ∃ z : gF, z = va_up f q (.inr (3, [.int (0 : Int32), .int (0 : Int32), .int (0 : Int32), .int (0 : Int32), .int (0 : Int32), .int (0 : Int32), .int (0 : Int32), .int (0 : Int32), .int (0 : Int32), .int (0 : Int32), .ref (na 0), .ref (na 1), .ref (na 2), .ref (na 3), .ref (na 4), .ref (na 5), .ref (na 6), .ref (na 7), .ref (na 8), .ref (na 9)])) := ⟨_, rfl⟩
  have hH : gH E A L f1 s.heap H locs := by rw [ef1]; exact hH
  have h2 : f1 q = .inr (3, [.int (0 : Int32), .int (0 : Int32), .int (0 : Int32), .int (0 : Int32), .int (0 : Int32), .int (0 : Int32), .int (0 : Int32), .int (0 : Int32), .int (0 : Int32), .int (0 : Int32), .ref (na 0), .ref (na 1), .ref (na 2), .ref (na 3), .ref (na 4), .ref (na 5), .ref (na 6), .ref (na 7), .ref (na 8), .ref (na 9)]) := (congrFun ef1 q).trans (va_up_self _ _ _)
  refine lv_aload_n hx hb dX3_clear_5 rfl (lv_at hl 0 rfl) ?_
  refine lv_iconst (v := (0 : Int32)) hx hb dX3_clear_6 (by decide) ?_
  refine g_put C hH mq h2 iX3 tyX3 tyX3_ok nmX3 rfl 1 (by decide) wd1 rfl rfl rfl rfl (Nat.le_of_ble_eq_true rfl) (fs' := [.int (0 : Int32), .int (0 : Int32), .int (0 : Int32), .int (0 : Int32), .int (0 : Int32), .int (0 : Int32), .int (0 : Int32), .int (0 : Int32), .int (0 : Int32), .int (0 : Int32), .ref (na 0), .ref (na 1), .ref (na 2), .ref (na 3), .ref (na 4), .ref (na 5), .ref (na 6), .ref (na 7), .ref (na 8), .ref (na 9)]) rfl dX3_clear_7 (fun H locs hH => ?_)
  obtain ⟨f3, ef3⟩ : ∃ z : gF, z = va_up f1 q (.inr (3, [.int (0 : Int32), .int (0 : Int32), .int (0 : Int32), .int (0 : Int32), .int (0 : Int32), .int (0 : Int32), .int (0 : Int32), .int (0 : Int32), .int (0 : Int32), .int (0 : Int32), .ref (na 0), .ref (na 1), .ref (na 2), .ref (na 3), .ref (na 4), .ref (na 5), .ref (na 6), .ref (na 7), .ref (na 8), .ref (na 9)])) := ⟨_, rfl⟩
  have hH : gH E A L f3 s.heap H locs := by rw [ef3]; exact hH
  have h4 : f3 q = .inr (3, [.int (0 : Int32), .int (0 : Int32), .int (0 : Int32), .int (0 : Int32), .int (0 : Int32), .int (0 : Int32), .int (0 : Int32), .int (0 : Int32), .int (0 : Int32), .int (0 : Int32), .ref (na 0), .ref (na 1), .ref (na 2), .ref (na 3), .ref (na 4), .ref (na 5), .ref (na 6), .ref (na 7), .ref (na 8), .ref (na 9)]) := (congrFun ef3 q).trans (va_up_self _ _ _)
  refine lv_aload_n hx hb dX3_clear_10 rfl (lv_at hl 0 rfl) ?_
  refine lv_iconst (v := (0 : Int32)) hx hb dX3_clear_11 (by decide) ?_
  refine g_put C hH mq h4 iX3 tyX3 tyX3_ok nmX3 rfl 2 (by decide) wd2 rfl rfl rfl rfl (Nat.le_of_ble_eq_true rfl) (fs' := [.int (0 : Int32), .int (0 : Int32), .int (0 : Int32), .int (0 : Int32), .int (0 : Int32), .int (0 : Int32), .int (0 : Int32), .int (0 : Int32), .int (0 : Int32), .int (0 : Int32), .ref (na 0), .ref (na 1), .ref (na 2), .ref (na 3), .ref (na 4), .ref (na 5), .ref (na 6), .ref (na 7), .ref (na 8), .ref (na 9)]) rfl dX3_clear_12 (fun H locs hH => ?_)
  obtain ⟨f5, ef5⟩ : ∃ z : gF, z = va_up f3 q (.inr (3, [.int (0 : Int32), .int (0 : Int32), .int (0 : Int32), .int (0 : Int32), .int (0 : Int32), .int (0 : Int32), .int (0 : Int32), .int (0 : Int32), .int (0 : Int32), .int (0 : Int32), .ref (na 0), .ref (na 1), .ref (na 2), .ref (na 3), .ref (na 4), .ref (na 5), .ref (na 6), .ref (na 7), .ref (na 8), .ref (na 9)])) := ⟨_, rfl⟩
  have hH : gH E A L f5 s.heap H locs := by rw [ef5]; exact hH
  have h6 : f5 q = .inr (3, [.int (0 : Int32), .int (0 : Int32), .int (0 : Int32), .int (0 : Int32), .int (0 : Int32), .int (0 : Int32), .int (0 : Int32), .int (0 : Int32), .int (0 : Int32), .int (0 : Int32), .ref (na 0), .ref (na 1), .ref (na 2), .ref (na 3), .ref (na 4), .ref (na 5), .ref (na 6), .ref (na 7), .ref (na 8), .ref (na 9)]) := (congrFun ef5 q).trans (va_up_self _ _ _)
  refine lv_aload_n hx hb dX3_clear_15 rfl (lv_at hl 0 rfl) ?_
  refine lv_iconst (v := (0 : Int32)) hx hb dX3_clear_16 (by decide) ?_
  refine g_put C hH mq h6 iX3 tyX3 tyX3_ok nmX3 rfl 3 (by decide) wd95 rfl rfl rfl rfl (Nat.le_of_ble_eq_true rfl) (fs' := [.int (0 : Int32), .int (0 : Int32), .int (0 : Int32), .int (0 : Int32), .int (0 : Int32), .int (0 : Int32), .int (0 : Int32), .int (0 : Int32), .int (0 : Int32), .int (0 : Int32), .ref (na 0), .ref (na 1), .ref (na 2), .ref (na 3), .ref (na 4), .ref (na 5), .ref (na 6), .ref (na 7), .ref (na 8), .ref (na 9)]) rfl dX3_clear_17 (fun H locs hH => ?_)
  obtain ⟨f7, ef7⟩ : ∃ z : gF, z = va_up f5 q (.inr (3, [.int (0 : Int32), .int (0 : Int32), .int (0 : Int32), .int (0 : Int32), .int (0 : Int32), .int (0 : Int32), .int (0 : Int32), .int (0 : Int32), .int (0 : Int32), .int (0 : Int32), .ref (na 0), .ref (na 1), .ref (na 2), .ref (na 3), .ref (na 4), .ref (na 5), .ref (na 6), .ref (na 7), .ref (na 8), .ref (na 9)])) := ⟨_, rfl⟩
  have hH : gH E A L f7 s.heap H locs := by rw [ef7]; exact hH
  have h8 : f7 q = .inr (3, [.int (0 : Int32), .int (0 : Int32), .int (0 : Int32), .int (0 : Int32), .int (0 : Int32), .int (0 : Int32), .int (0 : Int32), .int (0 : Int32), .int (0 : Int32), .int (0 : Int32), .ref (na 0), .ref (na 1), .ref (na 2), .ref (na 3), .ref (na 4), .ref (na 5), .ref (na 6), .ref (na 7), .ref (na 8), .ref (na 9)]) := (congrFun ef7 q).trans (va_up_self _ _ _)
  refine lv_aload_n hx hb dX3_clear_20 rfl (lv_at hl 0 rfl) ?_
  refine lv_iconst (v := (0 : Int32)) hx hb dX3_clear_21 (by decide) ?_
  refine g_put C hH mq h8 iX3 tyX3 tyX3_ok nmX3 rfl 4 (by decide) wd96 rfl rfl rfl rfl (Nat.le_of_ble_eq_true rfl) (fs' := [.int (0 : Int32), .int (0 : Int32), .int (0 : Int32), .int (0 : Int32), .int (0 : Int32), .int (0 : Int32), .int (0 : Int32), .int (0 : Int32), .int (0 : Int32), .int (0 : Int32), .ref (na 0), .ref (na 1), .ref (na 2), .ref (na 3), .ref (na 4), .ref (na 5), .ref (na 6), .ref (na 7), .ref (na 8), .ref (na 9)]) rfl dX3_clear_22 (fun H locs hH => ?_)
  obtain ⟨f9, ef9⟩ : ∃ z : gF, z = va_up f7 q (.inr (3, [.int (0 : Int32), .int (0 : Int32), .int (0 : Int32), .int (0 : Int32), .int (0 : Int32), .int (0 : Int32), .int (0 : Int32), .int (0 : Int32), .int (0 : Int32), .int (0 : Int32), .ref (na 0), .ref (na 1), .ref (na 2), .ref (na 3), .ref (na 4), .ref (na 5), .ref (na 6), .ref (na 7), .ref (na 8), .ref (na 9)])) := ⟨_, rfl⟩
  have hH : gH E A L f9 s.heap H locs := by rw [ef9]; exact hH
  have h10 : f9 q = .inr (3, [.int (0 : Int32), .int (0 : Int32), .int (0 : Int32), .int (0 : Int32), .int (0 : Int32), .int (0 : Int32), .int (0 : Int32), .int (0 : Int32), .int (0 : Int32), .int (0 : Int32), .ref (na 0), .ref (na 1), .ref (na 2), .ref (na 3), .ref (na 4), .ref (na 5), .ref (na 6), .ref (na 7), .ref (na 8), .ref (na 9)]) := (congrFun ef9 q).trans (va_up_self _ _ _)
  refine lv_aload_n hx hb dX3_clear_25 rfl (lv_at hl 0 rfl) ?_
  refine lv_iconst (v := (0 : Int32)) hx hb dX3_clear_26 (by decide) ?_
  refine g_put C hH mq h10 iX3 tyX3 tyX3_ok nmX3 rfl 5 (by decide) wd97 rfl rfl rfl rfl (Nat.le_of_ble_eq_true rfl) (fs' := [.int (0 : Int32), .int (0 : Int32), .int (0 : Int32), .int (0 : Int32), .int (0 : Int32), .int (0 : Int32), .int (0 : Int32), .int (0 : Int32), .int (0 : Int32), .int (0 : Int32), .ref (na 0), .ref (na 1), .ref (na 2), .ref (na 3), .ref (na 4), .ref (na 5), .ref (na 6), .ref (na 7), .ref (na 8), .ref (na 9)]) rfl dX3_clear_27 (fun H locs hH => ?_)
  obtain ⟨f11, ef11⟩ : ∃ z : gF, z = va_up f9 q (.inr (3, [.int (0 : Int32), .int (0 : Int32), .int (0 : Int32), .int (0 : Int32), .int (0 : Int32), .int (0 : Int32), .int (0 : Int32), .int (0 : Int32), .int (0 : Int32), .int (0 : Int32), .ref (na 0), .ref (na 1), .ref (na 2), .ref (na 3), .ref (na 4), .ref (na 5), .ref (na 6), .ref (na 7), .ref (na 8), .ref (na 9)])) := ⟨_, rfl⟩
  have hH : gH E A L f11 s.heap H locs := by rw [ef11]; exact hH
  have h12 : f11 q = .inr (3, [.int (0 : Int32), .int (0 : Int32), .int (0 : Int32), .int (0 : Int32), .int (0 : Int32), .int (0 : Int32), .int (0 : Int32), .int (0 : Int32), .int (0 : Int32), .int (0 : Int32), .ref (na 0), .ref (na 1), .ref (na 2), .ref (na 3), .ref (na 4), .ref (na 5), .ref (na 6), .ref (na 7), .ref (na 8), .ref (na 9)]) := (congrFun ef11 q).trans (va_up_self _ _ _)
  refine lv_aload_n hx hb dX3_clear_30 rfl (lv_at hl 0 rfl) ?_
  refine lv_iconst (v := (0 : Int32)) hx hb dX3_clear_31 (by decide) ?_
  refine g_put C hH mq h12 iX3 tyX3 tyX3_ok nmX3 rfl 6 (by decide) wd3 rfl rfl rfl rfl (Nat.le_of_ble_eq_true rfl) (fs' := [.int (0 : Int32), .int (0 : Int32), .int (0 : Int32), .int (0 : Int32), .int (0 : Int32), .int (0 : Int32), .int (0 : Int32), .int (0 : Int32), .int (0 : Int32), .int (0 : Int32), .ref (na 0), .ref (na 1), .ref (na 2), .ref (na 3), .ref (na 4), .ref (na 5), .ref (na 6), .ref (na 7), .ref (na 8), .ref (na 9)]) rfl dX3_clear_32 (fun H locs hH => ?_)
  obtain ⟨f13, ef13⟩ : ∃ z : gF, z = va_up f11 q (.inr (3, [.int (0 : Int32), .int (0 : Int32), .int (0 : Int32), .int (0 : Int32), .int (0 : Int32), .int (0 : Int32), .int (0 : Int32), .int (0 : Int32), .int (0 : Int32), .int (0 : Int32), .ref (na 0), .ref (na 1), .ref (na 2), .ref (na 3), .ref (na 4), .ref (na 5), .ref (na 6), .ref (na 7), .ref (na 8), .ref (na 9)])) := ⟨_, rfl⟩
  have hH : gH E A L f13 s.heap H locs := by rw [ef13]; exact hH
  have h14 : f13 q = .inr (3, [.int (0 : Int32), .int (0 : Int32), .int (0 : Int32), .int (0 : Int32), .int (0 : Int32), .int (0 : Int32), .int (0 : Int32), .int (0 : Int32), .int (0 : Int32), .int (0 : Int32), .ref (na 0), .ref (na 1), .ref (na 2), .ref (na 3), .ref (na 4), .ref (na 5), .ref (na 6), .ref (na 7), .ref (na 8), .ref (na 9)]) := (congrFun ef13 q).trans (va_up_self _ _ _)
  refine lv_aload_n hx hb dX3_clear_35 rfl (lv_at hl 0 rfl) ?_
  refine lv_iconst (v := (0 : Int32)) hx hb dX3_clear_36 (by decide) ?_
  refine g_put C hH mq h14 iX3 tyX3 tyX3_ok nmX3 rfl 7 (by decide) wd4 rfl rfl rfl rfl (Nat.le_of_ble_eq_true rfl) (fs' := [.int (0 : Int32), .int (0 : Int32), .int (0 : Int32), .int (0 : Int32), .int (0 : Int32), .int (0 : Int32), .int (0 : Int32), .int (0 : Int32), .int (0 : Int32), .int (0 : Int32), .ref (na 0), .ref (na 1), .ref (na 2), .ref (na 3), .ref (na 4), .ref (na 5), .ref (na 6), .ref (na 7), .ref (na 8), .ref (na 9)]) rfl dX3_clear_37 (fun H locs hH => ?_)
  obtain ⟨f15, ef15⟩ : ∃ z : gF, z = va_up f13 q (.inr (3, [.int (0 : Int32), .int (0 : Int32), .int (0 : Int32), .int (0 : Int32), .int (0 : Int32), .int (0 : Int32), .int (0 : Int32), .int (0 : Int32), .int (0 : Int32), .int (0 : Int32), .ref (na 0), .ref (na 1), .ref (na 2), .ref (na 3), .ref (na 4), .ref (na 5), .ref (na 6), .ref (na 7), .ref (na 8), .ref (na 9)])) := ⟨_, rfl⟩
  have hH : gH E A L f15 s.heap H locs := by rw [ef15]; exact hH
  have h16 : f15 q = .inr (3, [.int (0 : Int32), .int (0 : Int32), .int (0 : Int32), .int (0 : Int32), .int (0 : Int32), .int (0 : Int32), .int (0 : Int32), .int (0 : Int32), .int (0 : Int32), .int (0 : Int32), .ref (na 0), .ref (na 1), .ref (na 2), .ref (na 3), .ref (na 4), .ref (na 5), .ref (na 6), .ref (na 7), .ref (na 8), .ref (na 9)]) := (congrFun ef15 q).trans (va_up_self _ _ _)
  refine lv_aload_n hx hb dX3_clear_40 rfl (lv_at hl 0 rfl) ?_
  refine lv_iconst (v := (0 : Int32)) hx hb dX3_clear_41 (by decide) ?_
  refine g_put C hH mq h16 iX3 tyX3 tyX3_ok nmX3 rfl 8 (by decide) wd98 rfl rfl rfl rfl (Nat.le_of_ble_eq_true rfl) (fs' := [.int (0 : Int32), .int (0 : Int32), .int (0 : Int32), .int (0 : Int32), .int (0 : Int32), .int (0 : Int32), .int (0 : Int32), .int (0 : Int32), .int (0 : Int32), .int (0 : Int32), .ref (na 0), .ref (na 1), .ref (na 2), .ref (na 3), .ref (na 4), .ref (na 5), .ref (na 6), .ref (na 7), .ref (na 8), .ref (na 9)]) rfl dX3_clear_42 (fun H locs hH => ?_)
  obtain ⟨f17, ef17⟩ : ∃ z : gF, z = va_up f15 q (.inr (3, [.int (0 : Int32), .int (0 : Int32), .int (0 : Int32), .int (0 : Int32), .int (0 : Int32), .int (0 : Int32), .int (0 : Int32), .int (0 : Int32), .int (0 : Int32), .int (0 : Int32), .ref (na 0), .ref (na 1), .ref (na 2), .ref (na 3), .ref (na 4), .ref (na 5), .ref (na 6), .ref (na 7), .ref (na 8), .ref (na 9)])) := ⟨_, rfl⟩
  have hH : gH E A L f17 s.heap H locs := by rw [ef17]; exact hH
  have h18 : f17 q = .inr (3, [.int (0 : Int32), .int (0 : Int32), .int (0 : Int32), .int (0 : Int32), .int (0 : Int32), .int (0 : Int32), .int (0 : Int32), .int (0 : Int32), .int (0 : Int32), .int (0 : Int32), .ref (na 0), .ref (na 1), .ref (na 2), .ref (na 3), .ref (na 4), .ref (na 5), .ref (na 6), .ref (na 7), .ref (na 8), .ref (na 9)]) := (congrFun ef17 q).trans (va_up_self _ _ _)
  refine lv_aload_n hx hb dX3_clear_45 rfl (lv_at hl 0 rfl) ?_
  refine lv_iconst (v := (0 : Int32)) hx hb dX3_clear_46 (by decide) ?_
  refine g_put C hH mq h18 iX3 tyX3 tyX3_ok nmX3 rfl 9 (by decide) wd99 rfl rfl rfl rfl (Nat.le_of_ble_eq_true rfl) (fs' := [.int (0 : Int32), .int (0 : Int32), .int (0 : Int32), .int (0 : Int32), .int (0 : Int32), .int (0 : Int32), .int (0 : Int32), .int (0 : Int32), .int (0 : Int32), .int (0 : Int32), .ref (na 0), .ref (na 1), .ref (na 2), .ref (na 3), .ref (na 4), .ref (na 5), .ref (na 6), .ref (na 7), .ref (na 8), .ref (na 9)]) rfl dX3_clear_47 (fun H locs hH => ?_)
  obtain ⟨f19, ef19⟩ : ∃ z : gF, z = va_up f17 q (.inr (3, [.int (0 : Int32), .int (0 : Int32), .int (0 : Int32), .int (0 : Int32), .int (0 : Int32), .int (0 : Int32), .int (0 : Int32), .int (0 : Int32), .int (0 : Int32), .int (0 : Int32), .ref (na 0), .ref (na 1), .ref (na 2), .ref (na 3), .ref (na 4), .ref (na 5), .ref (na 6), .ref (na 7), .ref (na 8), .ref (na 9)])) := ⟨_, rfl⟩
  have hH : gH E A L f19 s.heap H locs := by rw [ef19]; exact hH
  have h20 : f19 q = .inr (3, [.int (0 : Int32), .int (0 : Int32), .int (0 : Int32), .int (0 : Int32), .int (0 : Int32), .int (0 : Int32), .int (0 : Int32), .int (0 : Int32), .int (0 : Int32), .int (0 : Int32), .ref (na 0), .ref (na 1), .ref (na 2), .ref (na 3), .ref (na 4), .ref (na 5), .ref (na 6), .ref (na 7), .ref (na 8), .ref (na 9)]) := (congrFun ef19 q).trans (va_up_self _ _ _)
  refine g_vret C hr hH (Nat.le_of_ble_eq_true rfl) (Nat.le_of_ble_eq_true rfl) dX3_clear_50 ?_
  exact ⟨rfl, h20, fun b h1 => by rw [ef19, va_up_ne _ _ h1, ef17, va_up_ne _ _ h1, ef15, va_up_ne _ _ h1, ef13, va_up_ne _ _ h1, ef11, va_up_ne _ _ h1, ef9, va_up_ne _ _ h1, ef7, va_up_ne _ _ h1, ef5, va_up_ne _ _ h1, ef3, va_up_ne _ _ h1, ef1, va_up_ne _ _ h1]⟩
set_option maxHeartbeats 4000000 in
set_option maxRecDepth 100000 in
theorem k_advance (l : Launch) (E : gE) (L : List Nat) (f : gF) {xr xt xd xb : Nat} (mr : xr ∈ L) (fr : f xr = .inr (5, [.ref xt, .ref xd, .int (0 : Int32), .int (0 : Int32), .int (0 : Int32), .int (0 : Int32), .int (-1 : Int32)])) (mt : xt ∈ L) (ft : f xt = .inr (8, [.ref xb, .int (0 : Int32)])) : gMv l E yX5_advance cX5_advance 1 (gRm 1 0 0) [.ref xr] L f (fun L1 f1 => L = L1 ∧ f1 xr = .inr (5, [.ref xt, .ref xd, .int (0 : Int32), .int (0 : Int32), .int (0 : Int32), .int (0 : Int32), .int (-1 : Int32)]) ∧ ∀ b, b ≠ xr → f1 b = f b) := by
  refine gMv.intro (by decide) (Nat.le_of_ble_eq_true rfl) ?_
  intro p e s m below meth c A ls C hr hnm hA hH hl
  have C : gC E cX5_advance 1 RX5 p s m _ meth c := C
  have hl : lv_has ls 1 [(0, .ref xr)] := hl
  have hx := C.1
  have hb := C.2.1
  refine lv_aload_n hx hb dX5_advance_0 rfl (lv_at hl 0 rfl) ?_
  refine lv_aload_n hx hb dX5_advance_1 rfl (lv_at hl 0 rfl) ?_
  refine g_get C hH mr fr iX5 rfl 4 (by decide) wd120 rfl rfl dX5_advance_2 ?_
  refine g_put C hH mr fr iX5 tyX5 tyX5_ok nmX5 rfl 3 (by decide) wd121 rfl rfl rfl rfl (Nat.le_of_ble_eq_true rfl) (fs' := [.ref xt, .ref xd, .int (0 : Int32), .int (0 : Int32), .int (0 : Int32), .int (0 : Int32), .int (-1 : Int32)]) rfl dX5_advance_5 (fun H locs hH => ?_)
  obtain ⟨f1, ef1⟩ : ∃ z : gF, z = va_up f xr (.inr (5, [.ref xt, .ref xd, .int (0 : Int32), .int (0 : Int32), .int (0 : Int32), .int (0 : Int32), .int (-1 : Int32)])) := ⟨_, rfl⟩
  have hH : gH E A L f1 s.heap H locs := by rw [ef1]; exact hH
  have h2 : f1 xr = .inr (5, [.ref xt, .ref xd, .int (0 : Int32), .int (0 : Int32), .int (0 : Int32), .int (0 : Int32), .int (-1 : Int32)]) := (congrFun ef1 xr).trans (va_up_self _ _ _)
  refine lv_aload_n hx hb dX5_advance_8 rfl (lv_at hl 0 rfl) ?_
  refine g_get C hH mr h2 iX5 rfl 3 (by decide) wd121 rfl rfl dX5_advance_9 ?_
  refine lv_aload_n hx hb dX5_advance_12 rfl (lv_at hl 0 rfl) ?_
  refine g_get C hH mr h2 iX5 rfl 0 (by decide) wd122 rfl rfl dX5_advance_13 ?_
  have h3 : f1 xt = .inr (8, [.ref xb, .int (0 : Int32)]) := ((congrFun ef1 xt).trans (va_up_ne _ _ (g_neO ft fr (by decide)))).trans ft
  refine g_get C hH mt h3 iX8 rfl 1 (by decide) wd123 rfl rfl dX5_advance_16 ?_
  refine lv_icmp_ge (tgt := 54) hx hb dX5_advance_19 (by decide) (fun _ => ?_) (fun h => absurd (by decide) h)
  refine lv_aload_n hx hb dX5_advance_54 rfl (lv_at hl 0 rfl) ?_
  refine lv_aload_n hx hb dX5_advance_55 rfl (lv_at hl 0 rfl) ?_
  refine g_get C hH mr h2 iX5 rfl 3 (by decide) wd121 rfl rfl dX5_advance_56 ?_
  refine g_put C hH mr h2 iX5 tyX5 tyX5_ok nmX5 rfl 4 (by decide) wd120 rfl rfl rfl rfl (Nat.le_of_ble_eq_true rfl) (fs' := [.ref xt, .ref xd, .int (0 : Int32), .int (0 : Int32), .int (0 : Int32), .int (0 : Int32), .int (-1 : Int32)]) rfl dX5_advance_59 (fun H locs hH => ?_)
  obtain ⟨f4, ef4⟩ : ∃ z : gF, z = va_up f1 xr (.inr (5, [.ref xt, .ref xd, .int (0 : Int32), .int (0 : Int32), .int (0 : Int32), .int (0 : Int32), .int (-1 : Int32)])) := ⟨_, rfl⟩
  have hH : gH E A L f4 s.heap H locs := by rw [ef4]; exact hH
  have h5 : f4 xr = .inr (5, [.ref xt, .ref xd, .int (0 : Int32), .int (0 : Int32), .int (0 : Int32), .int (0 : Int32), .int (-1 : Int32)]) := (congrFun ef4 xr).trans (va_up_self _ _ _)
  refine lv_aload_n hx hb dX5_advance_62 rfl (lv_at hl 0 rfl) ?_
  refine g_get C hH mr h5 iX5 rfl 3 (by decide) wd121 rfl rfl dX5_advance_63 ?_
  refine lv_aload_n hx hb dX5_advance_66 rfl (lv_at hl 0 rfl) ?_
  refine g_get C hH mr h5 iX5 rfl 0 (by decide) wd122 rfl rfl dX5_advance_67 ?_
  have h6 : f4 xt = .inr (8, [.ref xb, .int (0 : Int32)]) := ((congrFun ef4 xt).trans (va_up_ne _ _ (g_neO h3 h2 (by decide)))).trans h3
  refine g_get C hH mt h6 iX8 rfl 1 (by decide) wd123 rfl rfl dX5_advance_70 ?_
  refine lv_icmp_lt (tgt := 82) hx hb dX5_advance_73 (by decide) (fun h => absurd h (by decide)) (fun _ => ?_)
  refine lv_aload_n hx hb dX5_advance_76 rfl (lv_at hl 0 rfl) ?_
  refine lv_iconst (v := (0 : Int32)) hx hb dX5_advance_77 (by decide) ?_
  refine g_put C hH mr h5 iX5 tyX5 tyX5_ok nmX5 rfl 2 (by decide) wd124 rfl rfl rfl rfl (Nat.le_of_ble_eq_true rfl) (fs' := [.ref xt, .ref xd, .int (0 : Int32), .int (0 : Int32), .int (0 : Int32), .int (0 : Int32), .int (-1 : Int32)]) rfl dX5_advance_78 (fun H locs hH => ?_)
  obtain ⟨f7, ef7⟩ : ∃ z : gF, z = va_up f4 xr (.inr (5, [.ref xt, .ref xd, .int (0 : Int32), .int (0 : Int32), .int (0 : Int32), .int (0 : Int32), .int (-1 : Int32)])) := ⟨_, rfl⟩
  have hH : gH E A L f7 s.heap H locs := by rw [ef7]; exact hH
  have h8 : f7 xr = .inr (5, [.ref xt, .ref xd, .int (0 : Int32), .int (0 : Int32), .int (0 : Int32), .int (0 : Int32), .int (-1 : Int32)]) := (congrFun ef7 xr).trans (va_up_self _ _ _)
  refine g_vret C hr hH (Nat.le_of_ble_eq_true rfl) (Nat.le_of_ble_eq_true rfl) dX5_advance_81 ?_
  exact ⟨rfl, h8, fun b h1 => by rw [ef7, va_up_ne _ _ h1, ef4, va_up_ne _ _ h1, ef1, va_up_ne _ _ h1]⟩
set_option maxHeartbeats 4000000 in
set_option maxRecDepth 100000 in
theorem k_survey (l : Launch) (E : gE) (L : List Nat) (f : gF) {xn : Nat} {na : Nat → Nat} (mn : xn ∈ L) (fn : f xn = .inr (3, [.int (0 : Int32), .int (0 : Int32), .int (0 : Int32), .int (0 : Int32), .int (0 : Int32), .int (0 : Int32), .int (0 : Int32), .int (0 : Int32), .int (0 : Int32), .int (0 : Int32), .ref (na 0), .ref (na 1), .ref (na 2), .ref (na 3), .ref (na 4), .ref (na 5), .ref (na 6), .ref (na 7), .ref (na 8), .ref (na 9)])) : gMv l E yX3_survey cX3_survey 3 (gRm 2 0 0) [.ref xn] L f (fun L1 f1 => L = L1 ∧ f = f1) := by
  refine gMv.intro (by decide) (Nat.le_of_ble_eq_true rfl) ?_
  intro p e s m below meth c A ls C hr hnm hA hH hl
  have C : gC E cX3_survey 3 RX3 p s m _ meth c := C
  have hl : lv_has ls 3 [(0, .ref xn)] := hl
  have hx := C.1
  have hb := C.2.1
  refine lv_iconst (v := (0 : Int32)) hx hb dX3_survey_0 (by decide) ?_
  refine lv_istore_n (lv' := [(1, .int (0 : Int32)), (0, .ref xn)]) hx hb dX3_survey_1 rfl hl (by decide) rfl (fun ls hl => ?_)
  refine lv_iload_n hx hb dX3_survey_2 rfl (lv_at hl 0 rfl) ?_
  refine lv_aload_n hx hb dX3_survey_3 rfl (lv_at hl 1 rfl) ?_
  refine g_Vi C hl.1 hA hH (As := []) (rest := [.int (0 : Int32)]) (k_cells l E L f mn fn) my_X3_cells wd9 mn fn rfl rfl rfl (Nat.le_of_ble_eq_true rfl) ⟨Nat.le_of_ble_eq_true rfl, Nat.le_of_ble_eq_true rfl⟩ ⟨Nat.le_of_ble_eq_true rfl, Nat.le_of_ble_eq_true rfl⟩ dX3_survey_4 (fun r3 L2 f1 H locs hp hH => ?_)
  obtain ⟨er3, rfl, rfl⟩ := hp
  subst er3
  refine lv_icmp_ge (tgt := 93) hx hb dX3_survey_7 (by decide) (fun _ => ?_) (fun h => absurd (by decide) h)
  refine g_vret C hr hH (Nat.le_of_ble_eq_true rfl) (Nat.le_of_ble_eq_true rfl) dX3_survey_93 ?_
  exact ⟨rfl, rfl⟩
set_option maxHeartbeats 4000000 in
set_option maxRecDepth 100000 in
theorem k_readTape (l : Launch) (E : gE) (L : List Nat) (f : gF) {xr xt xd xb : Nat} (mr : xr ∈ L) (fr : f xr = .inr (5, [.ref xt, .ref xd, .int (0 : Int32), .int (0 : Int32), .int (0 : Int32), .int (0 : Int32), .int (-1 : Int32)])) (mt : xt ∈ L) (ft : f xt = .inr (8, [.ref xb, .int (0 : Int32)])) {da : Nat → Nat} (md : xd ∈ L) (fd : f xd = .inr (3, [.int (0 : Int32), .int (0 : Int32), .int (0 : Int32), .int (0 : Int32), .int (0 : Int32), .int (0 : Int32), .int (0 : Int32), .int (0 : Int32), .int (0 : Int32), .int (0 : Int32), .ref (da 0), .ref (da 1), .ref (da 2), .ref (da 3), .ref (da 4), .ref (da 5), .ref (da 6), .ref (da 7), .ref (da 8), .ref (da 9)])) : gMi l E yX5_readTape cX5_readTape 2 .boolean (gRm 4 0 0) [.ref xr] L f (fun r L1 f1 => r = 1 ∧ L = L1 ∧ f1 xd = .inr (3, [.int (0 : Int32), .int (0 : Int32), .int (0 : Int32), .int (0 : Int32), .int (0 : Int32), .int (0 : Int32), .int (0 : Int32), .int (0 : Int32), .int (0 : Int32), .int (0 : Int32), .ref (da 0), .ref (da 1), .ref (da 2), .ref (da 3), .ref (da 4), .ref (da 5), .ref (da 6), .ref (da 7), .ref (da 8), .ref (da 9)]) ∧ f1 xr = .inr (5, [.ref xt, .ref xd, .int (0 : Int32), .int (0 : Int32), .int (0 : Int32), .int (0 : Int32), .int (-1 : Int32)]) ∧ ∀ b, b ≠ xd → b ≠ xr → f1 b = f b) := by
  refine gMi.intro (by decide) (Nat.le_of_ble_eq_true rfl) ?_
  intro p e s m below meth c A ls C hr hA hH hl
  have C : gC E cX5_readTape 2 RX5 p s m _ meth c := C
  have hl : lv_has ls 2 [(0, .ref xr)] := hl
  have hx := C.1
  have hb := C.2.1
  refine lv_aload_n hx hb dX5_readTape_0 rfl (lv_at hl 0 rfl) ?_
  refine g_get C hH mr fr iX5 rfl 1 (by decide) wd125 rfl rfl dX5_readTape_1 ?_
  refine g_Vv C hl.1 hA hH (As := []) (rest := []) (k_clear l E L f md fd) my_X3_clear wd129 md fd rfl rfl rfl (Nat.le_of_ble_eq_true rfl) ⟨Nat.le_of_ble_eq_true rfl, Nat.le_of_ble_eq_true rfl⟩ ⟨Nat.le_of_ble_eq_true rfl, Nat.le_of_ble_eq_true rfl⟩ dX5_readTape_4 (fun L2 f1 H locs hp hH => ?_)
  obtain ⟨rfl, h3, k4⟩ := hp
  refine lv_aload_n hx hb dX5_readTape_7 rfl (lv_at hl 0 rfl) ?_
  refine lv_iconst (v := (0 : Int32)) hx hb dX5_readTape_8 (by decide) ?_
  have h5 : f1 xr = .inr (5, [.ref xt, .ref xd, .int (0 : Int32), .int (0 : Int32), .int (0 : Int32), .int (0 : Int32), .int (-1 : Int32)]) := (k4 xr (g_neO fr fd (by decide))).trans fr
  refine g_put C hH mr h5 iX5 tyX5 tyX5_ok nmX5 rfl 5 (by decide) wd130 rfl rfl rfl rfl (Nat.le_of_ble_eq_true rfl) (fs' := [.ref xt, .ref xd, .int (0 : Int32), .int (0 : Int32), .int (0 : Int32), .int (0 : Int32), .int (-1 : Int32)]) rfl dX5_readTape_9 (fun H locs hH => ?_)
  obtain ⟨f6, ef6⟩ : ∃ z : gF, z = va_up f1 xr (.inr (5, [.ref xt, .ref xd, .int (0 : Int32), .int (0 : Int32), .int (0 : Int32), .int (0 : Int32), .int (-1 : Int32)])) := ⟨_, rfl⟩
  have hH : gH E A L f6 s.heap H locs := by rw [ef6]; exact hH
  have h7 : f6 xr = .inr (5, [.ref xt, .ref xd, .int (0 : Int32), .int (0 : Int32), .int (0 : Int32), .int (0 : Int32), .int (-1 : Int32)]) := (congrFun ef6 xr).trans (va_up_self _ _ _)
  refine lv_aload_n hx hb dX5_readTape_12 rfl (lv_at hl 0 rfl) ?_
  refine lv_iconst (v := (-1 : Int32)) hx hb dX5_readTape_13 (by decide) ?_
  refine g_put C hH mr h7 iX5 tyX5 tyX5_ok nmX5 rfl 6 (by decide) wd131 rfl rfl rfl rfl (Nat.le_of_ble_eq_true rfl) (fs' := [.ref xt, .ref xd, .int (0 : Int32), .int (0 : Int32), .int (0 : Int32), .int (0 : Int32), .int (-1 : Int32)]) rfl dX5_readTape_14 (fun H locs hH => ?_)
  obtain ⟨f8, ef8⟩ : ∃ z : gF, z = va_up f6 xr (.inr (5, [.ref xt, .ref xd, .int (0 : Int32), .int (0 : Int32), .int (0 : Int32), .int (0 : Int32), .int (-1 : Int32)])) := ⟨_, rfl⟩
  have hH : gH E A L f8 s.heap H locs := by rw [ef8]; exact hH
  have h9 : f8 xr = .inr (5, [.ref xt, .ref xd, .int (0 : Int32), .int (0 : Int32), .int (0 : Int32), .int (0 : Int32), .int (-1 : Int32)]) := (congrFun ef8 xr).trans (va_up_self _ _ _)
  refine lv_aload_n hx hb dX5_readTape_17 rfl (lv_at hl 0 rfl) ?_
  refine lv_iconst (v := (0 : Int32)) hx hb dX5_readTape_18 (by decide) ?_
  refine g_put C hH mr h9 iX5 tyX5 tyX5_ok nmX5 rfl 4 (by decide) wd120 rfl rfl rfl rfl (Nat.le_of_ble_eq_true rfl) (fs' := [.ref xt, .ref xd, .int (0 : Int32), .int (0 : Int32), .int (0 : Int32), .int (0 : Int32), .int (-1 : Int32)]) rfl dX5_readTape_19 (fun H locs hH => ?_)
  obtain ⟨f10, ef10⟩ : ∃ z : gF, z = va_up f8 xr (.inr (5, [.ref xt, .ref xd, .int (0 : Int32), .int (0 : Int32), .int (0 : Int32), .int (0 : Int32), .int (-1 : Int32)])) := ⟨_, rfl⟩
  have hH : gH E A L f10 s.heap H locs := by rw [ef10]; exact hH
  have h11 : f10 xr = .inr (5, [.ref xt, .ref xd, .int (0 : Int32), .int (0 : Int32), .int (0 : Int32), .int (0 : Int32), .int (-1 : Int32)]) := (congrFun ef10 xr).trans (va_up_self _ _ _)
  refine lv_aload_n hx hb dX5_readTape_22 rfl (lv_at hl 0 rfl) ?_
  have h12 : f1 xt = .inr (8, [.ref xb, .int (0 : Int32)]) := (k4 xt (g_neO ft fd (by decide))).trans ft
  have h13 : f6 xt = .inr (8, [.ref xb, .int (0 : Int32)]) := ((congrFun ef6 xt).trans (va_up_ne _ _ (g_neO h12 h5 (by decide)))).trans h12
  have h14 : f8 xt = .inr (8, [.ref xb, .int (0 : Int32)]) := ((congrFun ef8 xt).trans (va_up_ne _ _ (g_neO h13 h7 (by decide)))).trans h13
  have h15 : f10 xt = .inr (8, [.ref xb, .int (0 : Int32)]) := ((congrFun ef10 xt).trans (va_up_ne _ _ (g_neO h14 h9 (by decide)))).trans h14
  refine g_Vv C hl.1 hA hH (As := []) (rest := []) (k_advance l E L f10 mr h11 mt h15) my_X5_advance wd136 mr h11 rfl rfl rfl (Nat.le_of_ble_eq_true rfl) ⟨Nat.le_of_ble_eq_true rfl, Nat.le_of_ble_eq_true rfl⟩ ⟨Nat.le_of_ble_eq_true rfl, Nat.le_of_ble_eq_true rfl⟩ dX5_readTape_23 (fun L17 f16 H locs hp hH => ?_)
  obtain ⟨rfl, h18, k19⟩ := hp
  refine lv_iconst (v := (0 : Int32)) hx hb dX5_readTape_26 (by decide) ?_
  refine lv_istore_n (lv' := [(1, .int (0 : Int32)), (0, .ref xr)]) hx hb dX5_readTape_27 rfl hl (by decide) rfl (fun ls hl => ?_)
  refine lv_iload_n hx hb dX5_readTape_28 rfl (lv_at hl 0 rfl) ?_
  refine lv_sipush (v := (800 : Int32)) hx hb dX5_readTape_29 (by decide) ?_
  refine lv_icmp_ge (tgt := 59) hx hb dX5_readTape_32 (by decide) (fun h => absurd h (by decide)) (fun _ => ?_)
  refine lv_aload_n hx hb dX5_readTape_35 rfl (lv_at hl 1 rfl) ?_
  refine g_get C hH mr h18 iX5 rfl 2 (by decide) wd124 rfl rfl dX5_readTape_36 ?_
  refine lv_if_eq (tgt := 59) hx hb dX5_readTape_39 (by decide) (fun _ => ?_) (fun h => absurd (by decide) h)
  refine lv_aload_n hx hb dX5_readTape_59 rfl (lv_at hl 1 rfl) ?_
  refine g_get C hH mr h18 iX5 rfl 1 (by decide) wd125 rfl rfl dX5_readTape_60 ?_
  have h20 : f6 xd = .inr (3, [.int (0 : Int32), .int (0 : Int32), .int (0 : Int32), .int (0 : Int32), .int (0 : Int32), .int (0 : Int32), .int (0 : Int32), .int (0 : Int32), .int (0 : Int32), .int (0 : Int32), .ref (da 0), .ref (da 1), .ref (da 2), .ref (da 3), .ref (da 4), .ref (da 5), .ref (da 6), .ref (da 7), .ref (da 8), .ref (da 9)]) := ((congrFun ef6 xd).trans (va_up_ne _ _ (g_neO h3 h5 (by decide)))).trans h3
  have h21 : f8 xd = .inr (3, [.int (0 : Int32), .int (0 : Int32), .int (0 : Int32), .int (0 : Int32), .int (0 : Int32), .int (0 : Int32), .int (0 : Int32), .int (0 : Int32), .int (0 : Int32), .int (0 : Int32), .ref (da 0), .ref (da 1), .ref (da 2), .ref (da 3), .ref (da 4), .ref (da 5), .ref (da 6), .ref (da 7), .ref (da 8), .ref (da 9)]) := ((congrFun ef8 xd).trans (va_up_ne _ _ (g_neO h20 h7 (by decide)))).trans h20
  have h22 : f10 xd = .inr (3, [.int (0 : Int32), .int (0 : Int32), .int (0 : Int32), .int (0 : Int32), .int (0 : Int32), .int (0 : Int32), .int (0 : Int32), .int (0 : Int32), .int (0 : Int32), .int (0 : Int32), .ref (da 0), .ref (da 1), .ref (da 2), .ref (da 3), .ref (da 4), .ref (da 5), .ref (da 6), .ref (da 7), .ref (da 8), .ref (da 9)]) := ((congrFun ef10 xd).trans (va_up_ne _ _ (g_neO h21 h9 (by decide)))).trans h21
  have h23 : f16 xd = .inr (3, [.int (0 : Int32), .int (0 : Int32), .int (0 : Int32), .int (0 : Int32), .int (0 : Int32), .int (0 : Int32), .int (0 : Int32), .int (0 : Int32), .int (0 : Int32), .int (0 : Int32), .ref (da 0), .ref (da 1), .ref (da 2), .ref (da 3), .ref (da 4), .ref (da 5), .ref (da 6), .ref (da 7), .ref (da 8), .ref (da 9)]) := (k19 xd (g_neO h22 h11 (by decide))).trans h22
  refine g_Vv C hl.1 hA hH (As := []) (rest := []) (k_survey l E L f16 md h23) my_X3_survey wd140 md h23 rfl rfl rfl (Nat.le_of_ble_eq_true rfl) ⟨Nat.le_of_ble_eq_true rfl, Nat.le_of_ble_eq_true rfl⟩ ⟨Nat.le_of_ble_eq_true rfl, Nat.le_of_ble_eq_true rfl⟩ dX5_readTape_63 (fun L25 f24 H locs hp hH => ?_)
  obtain ⟨rfl, rfl⟩ := hp
  refine lv_aload_n hx hb dX5_readTape_66 rfl (lv_at hl 1 rfl) ?_
  refine g_get C hH mr h18 iX5 rfl 5 (by decide) wd130 rfl rfl dX5_readTape_67 ?_
  refine lv_if_ne (tgt := 77) hx hb dX5_readTape_70 (by decide) (fun h => absurd (by decide) h) (fun _ => ?_)
  refine lv_iconst (v := (1 : Int32)) hx hb dX5_readTape_73 (by decide) ?_
  refine lv_goto (tgt := 78) hx hb dX5_readTape_74 (by decide) ?_
  refine g_zret C hr (by first | rfl | decide | (exact rfl)) hH (Nat.le_of_ble_eq_true rfl) (Nat.le_of_ble_eq_true rfl) dX5_readTape_78 ?_
  exact ⟨rfl, rfl, h23, h18, fun b h1 h2 => by rw [k19 b h2, ef10, va_up_ne _ _ h2, ef8, va_up_ne _ _ h2, ef6, va_up_ne _ _ h2, k4 b h1]⟩
set_option maxHeartbeats 4000000 in
set_option maxRecDepth 100000 in
theorem k_forget (l : Launch) (E : gE) (L : List Nat) (f : gF) {xn xs xl : Nat} {lf ll : Nat} (ml : xl ∈ L) (fl : f xl = .inr (4, [.ref xn, .ref xs, .ref lf, .ref ll, .int (0 : Int32)])) : gMv l E yX4_forget cX4_forget 1 (gRm 1 0 0) [.ref xl] L f (fun L1 f1 => L = L1 ∧ f1 xl = .inr (4, [.ref xn, .ref xs, .ref lf, .ref ll, .int (0 : Int32)]) ∧ ∀ b, b ≠ xl → f1 b = f b) := by
  refine gMv.intro (by decide) (Nat.le_of_ble_eq_true rfl) ?_
  intro p e s m below meth c A ls C hr hnm hA hH hl
  have C : gC E cX4_forget 1 RX4 p s m _ meth c := C
  have hl : lv_has ls 1 [(0, .ref xl)] := hl
  have hx := C.1
  have hb := C.2.1
  refine lv_aload_n hx hb dX4_forget_0 rfl (lv_at hl 0 rfl) ?_
  refine lv_iconst (v := (0 : Int32)) hx hb dX4_forget_1 (by decide) ?_
  refine g_put C hH ml fl iX4 tyX4 tyX4_ok nmX4 rfl 4 (by decide) wd141 rfl rfl rfl rfl (Nat.le_of_ble_eq_true rfl) (fs' := [.ref xn, .ref xs, .ref lf, .ref ll, .int (0 : Int32)]) rfl dX4_forget_2 (fun H locs hH => ?_)
  obtain ⟨f1, ef1⟩ : ∃ z : gF, z = va_up f xl (.inr (4, [.ref xn, .ref xs, .ref lf, .ref ll, .int (0 : Int32)])) := ⟨_, rfl⟩
  have hH : gH E A L f1 s.heap H locs := by rw [ef1]; exact hH
  have h2 : f1 xl = .inr (4, [.ref xn, .ref xs, .ref lf, .ref ll, .int (0 : Int32)]) := (congrFun ef1 xl).trans (va_up_self _ _ _)
  refine g_vret C hr hH (Nat.le_of_ble_eq_true rfl) (Nat.le_of_ble_eq_true rfl) dX4_forget_5 ?_
  exact ⟨rfl, h2, fun b h1 => by rw [ef1, va_up_ne _ _ h1]⟩
set_option maxHeartbeats 4000000 in
set_option maxRecDepth 100000 in
theorem k_land (l : Launch) (E : gE) (L : List Nat) (f : gF) {x xt xn xr xi xw xs xl xc xh xf xm : Nat} (mx : x ∈ L) (fx : f x = .inr (9, [.ref xt, .ref xn, .ref xr, .ref xi, .ref xw, .ref xs, .ref xl, .ref xc, .ref xh, .ref xf, .ref xm])) {xb : Nat} (mt : xt ∈ L) (ft : f xt = .inr (8, [.ref xb, .int (0 : Int32)])) {xd : Nat} (mr : xr ∈ L) (fr : f xr = .inr (5, [.ref xt, .ref xd, .int (0 : Int32), .int (0 : Int32), .int (0 : Int32), .int (0 : Int32), .int (-1 : Int32)])) {da : Nat → Nat} (md : xd ∈ L) (fd : f xd = .inr (3, [.int (0 : Int32), .int (0 : Int32), .int (0 : Int32), .int (0 : Int32), .int (0 : Int32), .int (0 : Int32), .int (0 : Int32), .int (0 : Int32), .int (0 : Int32), .int (0 : Int32), .ref (da 0), .ref (da 1), .ref (da 2), .ref (da 3), .ref (da 4), .ref (da 5), .ref (da 6), .ref (da 7), .ref (da 8), .ref (da 9)])) {na : Nat → Nat} (mn : xn ∈ L) (fn : f xn = .inr (3, [.int (0 : Int32), .int (0 : Int32), .int (0 : Int32), .int (0 : Int32), .int (0 : Int32), .int (0 : Int32), .int (0 : Int32), .int (0 : Int32), .int (0 : Int32), .int (0 : Int32), .ref (na 0), .ref (na 1), .ref (na 2), .ref (na 3), .ref (na 4), .ref (na 5), .ref (na 6), .ref (na 7), .ref (na 8), .ref (na 9)])) {lf ll : Nat} (ml : xl ∈ L) (fl : f xl = .inr (4, [.ref xn, .ref xs, .ref lf, .ref ll, .int (0 : Int32)])) (gn : gArrs E L f na) (gd : gArrs E L f da) (hnd : xn ≠ xd) : gMi l E yX9_land cX9_land 1 .int (gRm 5 0 0) [.ref x] L f (fun r _ _ => r = 0) := by
  refine gMi.intro (by decide) (Nat.le_of_ble_eq_true rfl) ?_
  intro p e s m below meth c A ls C hr hA hH hl
  have C : gC E cX9_land 1 RX9 p s m _ meth c := C
  have hl : lv_has ls 1 [(0, .ref x)] := hl
  have hx := C.1
  have hb := C.2.1
  refine lv_aload_n hx hb dX9_land_0 rfl (lv_at hl 0 rfl) ?_
  refine g_get C hH mx fx iX9 rfl 2 (by decide) wd61 rfl rfl dX9_land_1 ?_
  refine g_Vi C hl.1 hA hH (As := []) (rest := []) (k_readTape l E L f mr fr mt ft md fd) my_X5_readTape wd145 mr fr rfl rfl rfl (Nat.le_of_ble_eq_true rfl) ⟨Nat.le_of_ble_eq_true rfl, Nat.le_of_ble_eq_true rfl⟩ ⟨Nat.le_of_ble_eq_true rfl, Nat.le_of_ble_eq_true rfl⟩ dX9_land_4 (fun r3 L2 f1 H locs hp hH => ?_)
  obtain ⟨rfl, rfl, h4, h5, k6⟩ := hp
  refine lv_if_ne (tgt := 13) hx hb dX9_land_7 (by decide) (fun _ => ?_) (fun h => absurd h (by decide))
  refine lv_aload_n hx hb dX9_land_13 rfl (lv_at hl 0 rfl) ?_
  have h7 : f1 x = .inr (9, [.ref xt, .ref xn, .ref xr, .ref xi, .ref xw, .ref xs, .ref xl, .ref xc, .ref xh, .ref xf, .ref xm]) := (k6 x (g_neO fx fd (by decide)) (g_neO fx fr (by decide))).trans fx
  refine g_get C hH mx h7 iX9 rfl 0 (by decide) wd54 rfl rfl dX9_land_14 ?_
  refine lv_iconst (v := (0 : Int32)) hx hb dX9_land_17 (by decide) ?_
  have h8 : f1 xt = .inr (8, [.ref xb, .int (0 : Int32)]) := (k6 xt (g_neO ft fd (by decide)) (g_neO ft fr (by decide))).trans ft
  refine g_put C hH mt h8 iX8 tyX8 tyX8_ok nmX8 rfl 1 (by decide) wd55 rfl rfl rfl rfl (Nat.le_of_ble_eq_true rfl) (fs' := [.ref xb, .int (0 : Int32)]) rfl dX9_land_18 (fun H locs hH => ?_)
  obtain ⟨f9, ef9⟩ : ∃ z : gF, z = va_up f1 xt (.inr (8, [.ref xb, .int (0 : Int32)])) := ⟨_, rfl⟩
  have hH : gH E A L f9 s.heap H locs := by rw [ef9]; exact hH
  have h10 : f9 xt = .inr (8, [.ref xb, .int (0 : Int32)]) := (congrFun ef9 xt).trans (va_up_self _ _ _)
  refine lv_aload_n hx hb dX9_land_21 rfl (lv_at hl 0 rfl) ?_
  have h11 : f9 x = .inr (9, [.ref xt, .ref xn, .ref xr, .ref xi, .ref xw, .ref xs, .ref xl, .ref xc, .ref xh, .ref xf, .ref xm]) := ((congrFun ef9 x).trans (va_up_ne _ _ (g_neO h7 h8 (by decide)))).trans h7
  refine g_get C hH mx h11 iX9 rfl 1 (by decide) wd18 rfl rfl dX9_land_22 ?_
  refine lv_aload_n hx hb dX9_land_25 rfl (lv_at hl 0 rfl) ?_
  refine g_get C hH mx h11 iX9 rfl 2 (by decide) wd61 rfl rfl dX9_land_26 ?_
  have h12 : f9 xr = .inr (5, [.ref xt, .ref xd, .int (0 : Int32), .int (0 : Int32), .int (0 : Int32), .int (0 : Int32), .int (-1 : Int32)]) := ((congrFun ef9 xr).trans (va_up_ne _ _ (g_neO h5 h8 (by decide)))).trans h5
  refine g_get C hH mr h12 iX5 rfl 1 (by decide) wd146 rfl rfl dX9_land_29 ?_
  have h13 : f1 xn = .inr (3, [.int (0 : Int32), .int (0 : Int32), .int (0 : Int32), .int (0 : Int32), .int (0 : Int32), .int (0 : Int32), .int (0 : Int32), .int (0 : Int32), .int (0 : Int32), .int (0 : Int32), .ref (na 0), .ref (na 1), .ref (na 2), .ref (na 3), .ref (na 4), .ref (na 5), .ref (na 6), .ref (na 7), .ref (na 8), .ref (na 9)]) := (k6 xn hnd (g_neO fn fr (by decide))).trans fn
  have h14 : f9 xn = .inr (3, [.int (0 : Int32), .int (0 : Int32), .int (0 : Int32), .int (0 : Int32), .int (0 : Int32), .int (0 : Int32), .int (0 : Int32), .int (0 : Int32), .int (0 : Int32), .int (0 : Int32), .ref (na 0), .ref (na 1), .ref (na 2), .ref (na 3), .ref (na 4), .ref (na 5), .ref (na 6), .ref (na 7), .ref (na 8), .ref (na 9)]) := ((congrFun ef9 xn).trans (va_up_ne _ _ (g_neO h13 h8 (by decide)))).trans h13
  have h15 : f9 xd = .inr (3, [.int (0 : Int32), .int (0 : Int32), .int (0 : Int32), .int (0 : Int32), .int (0 : Int32), .int (0 : Int32), .int (0 : Int32), .int (0 : Int32), .int (0 : Int32), .int (0 : Int32), .ref (da 0), .ref (da 1), .ref (da 2), .ref (da 3), .ref (da 4), .ref (da 5), .ref (da 6), .ref (da 7), .ref (da 8), .ref (da 9)]) := ((congrFun ef9 xd).trans (va_up_ne _ _ (g_neO h4 h8 (by decide)))).trans h4
  have h16 := gArrs_keep2 k6 fd fr gn
  have h17 := gArrs_upO ef9 h8 h16
  have h18 := gArrs_keep2 k6 fd fr gd
  have h19 := gArrs_upO ef9 h8 h18
  refine g_Vv C hl.1 hA hH (As := [.ref xd]) (rest := []) (k_become l E L f9 mn h14 md h15 h17 h19 hnd) my_X3_become wd118 mn h14 rfl rfl rfl (Nat.le_of_ble_eq_true rfl) ⟨Nat.le_of_ble_eq_true rfl, Nat.le_of_ble_eq_true rfl⟩ ⟨Nat.le_of_ble_eq_true rfl, Nat.le_of_ble_eq_true rfl⟩ dX9_land_32 (fun L21 f20 H locs hp hH => ?_)
  obtain ⟨rfl, h22, h23, k24⟩ := hp
  refine lv_aload_n hx hb dX9_land_35 rfl (lv_at hl 0 rfl) ?_
  have h25 : f20 x = .inr (9, [.ref xt, .ref xn, .ref xr, .ref xi, .ref xw, .ref xs, .ref xl, .ref xc, .ref xh, .ref xf, .ref xm]) := (k24 x (g_neO h11 h14 (by decide)) (gArrs_neO h17 h11)).trans h11
  refine g_get C hH mx h25 iX9 rfl 6 (by decide) wd147 rfl rfl dX9_land_36 ?_
  have h26 : f1 xl = .inr (4, [.ref xn, .ref xs, .ref lf, .ref ll, .int (0 : Int32)]) := (k6 xl (g_neO fl fd (by decide)) (g_neO fl fr (by decide))).trans fl
  have h27 : f9 xl = .inr (4, [.ref xn, .ref xs, .ref lf, .ref ll, .int (0 : Int32)]) := ((congrFun ef9 xl).trans (va_up_ne _ _ (g_neO h26 h8 (by decide)))).trans h26
  have h28 : f20 xl = .inr (4, [.ref xn, .ref xs, .ref lf, .ref ll, .int (0 : Int32)]) := (k24 xl (g_neO h27 h14 (by decide)) (gArrs_neO h17 h27)).trans h27
  refine g_Vv C hl.1 hA hH (As := []) (rest := []) (k_forget l E L f20 ml h28) my_X4_forget wd152 ml h28 rfl rfl rfl (Nat.le_of_ble_eq_true rfl) ⟨Nat.le_of_ble_eq_true rfl, Nat.le_of_ble_eq_true rfl⟩ ⟨Nat.le_of_ble_eq_true rfl, Nat.le_of_ble_eq_true rfl⟩ dX9_land_39 (fun L30 f29 H locs hp hH => ?_)
  obtain ⟨rfl, h31, k32⟩ := hp
  refine lv_aload_n hx hb dX9_land_42 rfl (lv_at hl 0 rfl) ?_
  have h33 : f29 x = .inr (9, [.ref xt, .ref xn, .ref xr, .ref xi, .ref xw, .ref xs, .ref xl, .ref xc, .ref xh, .ref xf, .ref xm]) := (k32 x (g_neO h25 h28 (by decide))).trans h25
  refine g_get C hH mx h33 iX9 rfl 1 (by decide) wd18 rfl rfl dX9_land_43 ?_
  have h34 : f29 xn = .inr (3, [.int (0 : Int32), .int (0 : Int32), .int (0 : Int32), .int (0 : Int32), .int (0 : Int32), .int (0 : Int32), .int (0 : Int32), .int (0 : Int32), .int (0 : Int32), .int (0 : Int32), .ref (na 0), .ref (na 1), .ref (na 2), .ref (na 3), .ref (na 4), .ref (na 5), .ref (na 6), .ref (na 7), .ref (na 8), .ref (na 9)]) := (k32 xn (g_neO h22 h28 (by decide))).trans h22
  refine g_get C hH mn h34 iX3 rfl 0 (by decide) wd80 rfl rfl dX9_land_46 ?_
  refine g_iret C hr hH (Nat.le_of_ble_eq_true rfl) (Nat.le_of_ble_eq_true rfl) dX9_land_49 ?_
  exact rfl
end
