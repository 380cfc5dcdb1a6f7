section
-- ===== PART A: goes FIRST, ahead of the names: the tables' words, and 'selects' of the private methods out of them =====
/-- a private method of a class that the tables say can be made, by its rows of tables_1 -/
def lw_okq (q : MethodName × Nat) : Prop := (q.1.cls ≠ "java/lang/invoke/MethodHandle" ∧ q.1.cls ≠ "java/lang/invoke/VarHandle") ∧ Cond.instantiable q.1.cls q.2 ∈ tables_1 ∧ Cond.privateMethod q.1 ∈ tables_1 ∧ Cond.instanceMethod q.1 ∈ tables_1
theorem lw_p0 : lw_okq (⟨"ConfettiMinutes", "readLines", "(CCZ)I"⟩, 13) := ⟨⟨by decide +kernel, by decide +kernel⟩, List.mem_of_getElem? (i := 27) (by decide +kernel), List.mem_of_getElem? (i := 327) (by decide +kernel), List.mem_of_getElem? (i := 328) (by decide +kernel)⟩
theorem lw_p1 : lw_okq (⟨"ConfettiMinutes$Rule", "takesThing", "(C)Z"⟩, 10) := ⟨⟨by decide +kernel, by decide +kernel⟩, List.mem_of_getElem? (i := 230) (by decide +kernel), List.mem_of_getElem? (i := 374) (by decide +kernel), List.mem_of_getElem? (i := 375) (by decide +kernel)⟩
theorem lw_p2 : lw_okq (⟨"ConfettiMinutes$Rule", "hold", "(I)V"⟩, 10) := ⟨⟨by decide +kernel, by decide +kernel⟩, List.mem_of_getElem? (i := 230) (by decide +kernel), List.mem_of_getElem? (i := 378) (by decide +kernel), List.mem_of_getElem? (i := 379) (by decide +kernel)⟩
theorem lw_p3 : lw_okq (⟨"ConfettiMinutes$Rule", "emit", "(I)V"⟩, 10) := ⟨⟨by decide +kernel, by decide +kernel⟩, List.mem_of_getElem? (i := 230) (by decide +kernel), List.mem_of_getElem? (i := 470) (by decide +kernel), List.mem_of_getElem? (i := 471) (by decide +kernel)⟩
theorem lw_p4 : lw_okq (⟨"ConfettiMinutes$Rule", "takesBehind", "(C)Z"⟩, 10) := ⟨⟨by decide +kernel, by decide +kernel⟩, List.mem_of_getElem? (i := 230) (by decide +kernel), List.mem_of_getElem? (i := 474) (by decide +kernel), List.mem_of_getElem? (i := 475) (by decide +kernel)⟩
theorem lw_p5 : lw_okq (⟨"ConfettiMinutes$Rule", "takesDigit", "(C)Z"⟩, 10) := ⟨⟨by decide +kernel, by decide +kernel⟩, List.mem_of_getElem? (i := 230) (by decide +kernel), List.mem_of_getElem? (i := 478) (by decide +kernel), List.mem_of_getElem? (i := 479) (by decide +kernel)⟩
theorem lw_p6 : lw_okq (⟨"ConfettiMinutes$Rule", "closes", "()Z"⟩, 10) := ⟨⟨by decide +kernel, by decide +kernel⟩, List.mem_of_getElem? (i := 230) (by decide +kernel), List.mem_of_getElem? (i := 482) (by decide +kernel), List.mem_of_getElem? (i := 483) (by decide +kernel)⟩
theorem lw_p7 : lw_okq (⟨"ConfettiMinutes$Rule", "release", "(I)V"⟩, 10) := ⟨⟨by decide +kernel, by decide +kernel⟩, List.mem_of_getElem? (i := 230) (by decide +kernel), List.mem_of_getElem? (i := 486) (by decide +kernel), List.mem_of_getElem? (i := 487) (by decide +kernel)⟩
theorem lw_p8 : lw_okq (⟨"ConfettiMinutes", "noted", "(I)I"⟩, 13) := ⟨⟨by decide +kernel, by decide +kernel⟩, List.mem_of_getElem? (i := 27) (by decide +kernel), List.mem_of_getElem? (i := 541) (by decide +kernel), List.mem_of_getElem? (i := 542) (by decide +kernel)⟩
theorem lw_p9 : lw_okq (⟨"ConfettiMinutes$Past", "deedAt", "(I)LConfettiMinutes$Town;"⟩, 5) := ⟨⟨by decide +kernel, by decide +kernel⟩, List.mem_of_getElem? (i := 111) (by decide +kernel), List.mem_of_getElem? (i := 549) (by decide +kernel), List.mem_of_getElem? (i := 550) (by decide +kernel)⟩
theorem lw_p10 : lw_okq (⟨"ConfettiMinutes$Town", "layAll", "(II)V"⟩, 9) := ⟨⟨by decide +kernel, by decide +kernel⟩, List.mem_of_getElem? (i := 63) (by decide +kernel), List.mem_of_getElem? (i := 571) (by decide +kernel), List.mem_of_getElem? (i := 572) (by decide +kernel)⟩
theorem lw_p11 : lw_okq (⟨"ConfettiMinutes$Town", "isHeld", "(I)Z"⟩, 9) := ⟨⟨by decide +kernel, by decide +kernel⟩, List.mem_of_getElem? (i := 63) (by decide +kernel), List.mem_of_getElem? (i := 598) (by decide +kernel), List.mem_of_getElem? (i := 599) (by decide +kernel)⟩
theorem lw_p12 : lw_okq (⟨"ConfettiMinutes$Weather", "blow", "(LConfettiMinutes$Town;LConfettiMinutes$Rule;)V"⟩, 3) := ⟨⟨by decide +kernel, by decide +kernel⟩, List.mem_of_getElem? (i := 136) (by decide +kernel), List.mem_of_getElem? (i := 614) (by decide +kernel), List.mem_of_getElem? (i := 615) (by decide +kernel)⟩
theorem lw_p13 : lw_okq (⟨"ConfettiMinutes$Rule", "worth", "(I)I"⟩, 10) := ⟨⟨by decide +kernel, by decide +kernel⟩, List.mem_of_getElem? (i := 230) (by decide +kernel), List.mem_of_getElem? (i := 641) (by decide +kernel), List.mem_of_getElem? (i := 642) (by decide +kernel)⟩
theorem lw_p14 : lw_okq (⟨"ConfettiMinutes", "doAct", "(I)I"⟩, 13) := ⟨⟨by decide +kernel, by decide +kernel⟩, List.mem_of_getElem? (i := 27) (by decide +kernel), List.mem_of_getElem? (i := 780) (by decide +kernel), List.mem_of_getElem? (i := 781) (by decide +kernel)⟩
theorem lw_p15 : lw_okq (⟨"ConfettiMinutes", "dreamOf", "(LConfettiMinutes$Rule;I)V"⟩, 13) := ⟨⟨by decide +kernel, by decide +kernel⟩, List.mem_of_getElem? (i := 27) (by decide +kernel), List.mem_of_getElem? (i := 805) (by decide +kernel), List.mem_of_getElem? (i := 806) (by decide +kernel)⟩
def lw_privs_1 : List (MethodName × Nat) := [(⟨"ConfettiMinutes", "readLines", "(CCZ)I"⟩, 13), (⟨"ConfettiMinutes$Rule", "takesThing", "(C)Z"⟩, 10), (⟨"ConfettiMinutes$Rule", "hold", "(I)V"⟩, 10), (⟨"ConfettiMinutes$Rule", "emit", "(I)V"⟩, 10), (⟨"ConfettiMinutes$Rule", "takesBehind", "(C)Z"⟩, 10), (⟨"ConfettiMinutes$Rule", "takesDigit", "(C)Z"⟩, 10), (⟨"ConfettiMinutes$Rule", "closes", "()Z"⟩, 10), (⟨"ConfettiMinutes$Rule", "release", "(I)V"⟩, 10), (⟨"ConfettiMinutes", "noted", "(I)I"⟩, 13), (⟨"ConfettiMinutes$Past", "deedAt", "(I)LConfettiMinutes$Town;"⟩, 5), (⟨"ConfettiMinutes$Town", "layAll", "(II)V"⟩, 9), (⟨"ConfettiMinutes$Town", "isHeld", "(I)Z"⟩, 9), (⟨"ConfettiMinutes$Weather", "blow", "(LConfettiMinutes$Town;LConfettiMinutes$Rule;)V"⟩, 3), (⟨"ConfettiMinutes$Rule", "worth", "(I)I"⟩, 10), (⟨"ConfettiMinutes", "doAct", "(I)I"⟩, 13), (⟨"ConfettiMinutes", "dreamOf", "(LConfettiMinutes$Rule;I)V"⟩, 13)]
theorem lw_r1 : ∀ q ∈ lw_privs_1, lw_okq q := List.forall_mem_cons.mpr ⟨lw_p0, List.forall_mem_cons.mpr ⟨lw_p1, List.forall_mem_cons.mpr ⟨lw_p2, List.forall_mem_cons.mpr ⟨lw_p3, List.forall_mem_cons.mpr ⟨lw_p4, List.forall_mem_cons.mpr ⟨lw_p5, List.forall_mem_cons.mpr ⟨lw_p6, List.forall_mem_cons.mpr ⟨lw_p7, List.forall_mem_cons.mpr ⟨lw_p8, List.forall_mem_cons.mpr ⟨lw_p9, List.forall_mem_cons.mpr ⟨lw_p10, List.forall_mem_cons.mpr ⟨lw_p11, List.forall_mem_cons.mpr ⟨lw_p12, List.forall_mem_cons.mpr ⟨lw_p13, List.forall_mem_cons.mpr ⟨lw_p14, List.forall_mem_cons.mpr ⟨lw_p15, fun _ h => absurd h List.not_mem_nil⟩⟩⟩⟩⟩⟩⟩⟩⟩⟩⟩⟩⟩⟩⟩⟩
theorem lw_p16 : lw_okq (⟨"ConfettiMinutes$Shares", "hitsAll", "(I)Z"⟩, 4) := ⟨⟨by decide +kernel, by decide +kernel⟩, List.mem_of_getElem? (i := 152) (by decide +kernel), List.mem_of_getElem? (i := 877) (by decide +kernel), List.mem_of_getElem? (i := 878) (by decide +kernel)⟩
theorem lw_p17 : lw_okq (⟨"ConfettiMinutes$Shares", "worth", "(LConfettiMinutes$Town;III)I"⟩, 4) := ⟨⟨by decide +kernel, by decide +kernel⟩, List.mem_of_getElem? (i := 152) (by decide +kernel), List.mem_of_getElem? (i := 895) (by decide +kernel), List.mem_of_getElem? (i := 896) (by decide +kernel)⟩
theorem lw_p18 : lw_okq (⟨"ConfettiMinutes$Shares", "bestOf", "(II)I"⟩, 4) := ⟨⟨by decide +kernel, by decide +kernel⟩, List.mem_of_getElem? (i := 152) (by decide +kernel), List.mem_of_getElem? (i := 899) (by decide +kernel), List.mem_of_getElem? (i := 900) (by decide +kernel)⟩
theorem lw_p19 : lw_okq (⟨"ConfettiMinutes$Shares", "prevails", "(I)Z"⟩, 4) := ⟨⟨by decide +kernel, by decide +kernel⟩, List.mem_of_getElem? (i := 152) (by decide +kernel), List.mem_of_getElem? (i := 940) (by decide +kernel), List.mem_of_getElem? (i := 941) (by decide +kernel)⟩
theorem lw_p20 : lw_okq (⟨"ConfettiMinutes$Sights", "suits", "(LConfettiMinutes$Town;LConfettiMinutes$Rule;LConfettiMinutes$Weather;I)Z"⟩, 2) := ⟨⟨by decide +kernel, by decide +kernel⟩, List.mem_of_getElem? (i := 171) (by decide +kernel), List.mem_of_getElem? (i := 988) (by decide +kernel), List.mem_of_getElem? (i := 989) (by decide +kernel)⟩
theorem lw_p21 : lw_okq (⟨"ConfettiMinutes$Hearsay", "suits", "(LConfettiMinutes$Town;I)Z"⟩, 1) := ⟨⟨by decide +kernel, by decide +kernel⟩, List.mem_of_getElem? (i := 204) (by decide +kernel), List.mem_of_getElem? (i := 1032) (by decide +kernel), List.mem_of_getElem? (i := 1033) (by decide +kernel)⟩
theorem lw_p22 : lw_okq (⟨"ConfettiMinutes$Flights", "suits", "(I)Z"⟩, 1) := ⟨⟨by decide +kernel, by decide +kernel⟩, List.mem_of_getElem? (i := 217) (by decide +kernel), List.mem_of_getElem? (i := 1076) (by decide +kernel), List.mem_of_getElem? (i := 1077) (by decide +kernel)⟩
theorem lw_p23 : lw_okq (⟨"ConfettiMinutes$Weather", "draw", "(I)I"⟩, 3) := ⟨⟨by decide +kernel, by decide +kernel⟩, List.mem_of_getElem? (i := 136) (by decide +kernel), List.mem_of_getElem? (i := 1136) (by decide +kernel), List.mem_of_getElem? (i := 1137) (by decide +kernel)⟩
theorem lw_p24 : lw_okq (⟨"ConfettiMinutes", "countKept", "(I)I"⟩, 13) := ⟨⟨by decide +kernel, by decide +kernel⟩, List.mem_of_getElem? (i := 27) (by decide +kernel), List.mem_of_getElem? (i := 1164) (by decide +kernel), List.mem_of_getElem? (i := 1165) (by decide +kernel)⟩
theorem lw_p25 : lw_okq (⟨"java/lang/Throwable", "fillInStackTrace", "(I)Ljava/lang/Throwable;"⟩, 6) := ⟨⟨by decide +kernel, by decide +kernel⟩, List.mem_of_getElem? (i := 1225) (by decide +kernel), List.mem_of_getElem? (i := 1223) (by decide +kernel), List.mem_of_getElem? (i := 1224) (by decide +kernel)⟩
theorem lw_p26 : lw_okq (⟨"ConfettiMinutesModel", "readsLines", "(III)I"⟩, 50) := ⟨⟨by decide +kernel, by decide +kernel⟩, List.mem_of_getElem? (i := 1288) (by decide +kernel), List.mem_of_getElem? (i := 1461) (by decide +kernel), List.mem_of_getElem? (i := 1462) (by decide +kernel)⟩
theorem lw_p27 : lw_okq (⟨"ConfettiMinutesModel", "begins", "(I)I"⟩, 50) := ⟨⟨by decide +kernel, by decide +kernel⟩, List.mem_of_getElem? (i := 1288) (by decide +kernel), List.mem_of_getElem? (i := 1465) (by decide +kernel), List.mem_of_getElem? (i := 1466) (by decide +kernel)⟩
theorem lw_p28 : lw_okq (⟨"ConfettiMinutesModel", "digitIn", "(II)I"⟩, 50) := ⟨⟨by decide +kernel, by decide +kernel⟩, List.mem_of_getElem? (i := 1288) (by decide +kernel), List.mem_of_getElem? (i := 1470) (by decide +kernel), List.mem_of_getElem? (i := 1471) (by decide +kernel)⟩
theorem lw_p29 : lw_okq (⟨"ConfettiMinutesModel", "takes", "(I)Z"⟩, 50) := ⟨⟨by decide +kernel, by decide +kernel⟩, List.mem_of_getElem? (i := 1288) (by decide +kernel), List.mem_of_getElem? (i := 1474) (by decide +kernel), List.mem_of_getElem? (i := 1475) (by decide +kernel)⟩
theorem lw_p30 : lw_okq (⟨"ConfettiMinutesModel", "faultOf", "(IIZ)I"⟩, 50) := ⟨⟨by decide +kernel, by decide +kernel⟩, List.mem_of_getElem? (i := 1288) (by decide +kernel), List.mem_of_getElem? (i := 1481) (by decide +kernel), List.mem_of_getElem? (i := 1482) (by decide +kernel)⟩
theorem lw_p31 : lw_okq (⟨"ConfettiMinutesModel", "came", "()I"⟩, 50) := ⟨⟨by decide +kernel, by decide +kernel⟩, List.mem_of_getElem? (i := 1288) (by decide +kernel), List.mem_of_getElem? (i := 1485) (by decide +kernel), List.mem_of_getElem? (i := 1486) (by decide +kernel)⟩
def lw_privs_2 : List (MethodName × Nat) := [(⟨"ConfettiMinutes$Shares", "hitsAll", "(I)Z"⟩, 4), (⟨"ConfettiMinutes$Shares", "worth", "(LConfettiMinutes$Town;III)I"⟩, 4), (⟨"ConfettiMinutes$Shares", "bestOf", "(II)I"⟩, 4), (⟨"ConfettiMinutes$Shares", "prevails", "(I)Z"⟩, 4), (⟨"ConfettiMinutes$Sights", "suits", "(LConfettiMinutes$Town;LConfettiMinutes$Rule;LConfettiMinutes$Weather;I)Z"⟩, 2), (⟨"ConfettiMinutes$Hearsay", "suits", "(LConfettiMinutes$Town;I)Z"⟩, 1), (⟨"ConfettiMinutes$Flights", "suits", "(I)Z"⟩, 1), (⟨"ConfettiMinutes$Weather", "draw", "(I)I"⟩, 3), (⟨"ConfettiMinutes", "countKept", "(I)I"⟩, 13), (⟨"java/lang/Throwable", "fillInStackTrace", "(I)Ljava/lang/Throwable;"⟩, 6), (⟨"ConfettiMinutesModel", "readsLines", "(III)I"⟩, 50), (⟨"ConfettiMinutesModel", "begins", "(I)I"⟩, 50), (⟨"ConfettiMinutesModel", "digitIn", "(II)I"⟩, 50), (⟨"ConfettiMinutesModel", "takes", "(I)Z"⟩, 50), (⟨"ConfettiMinutesModel", "faultOf", "(IIZ)I"⟩, 50), (⟨"ConfettiMinutesModel", "came", "()I"⟩, 50)]
theorem lw_r2 : ∀ q ∈ lw_privs_2, lw_okq q := List.forall_mem_cons.mpr ⟨lw_p16, List.forall_mem_cons.mpr ⟨lw_p17, List.forall_mem_cons.mpr ⟨lw_p18, List.forall_mem_cons.mpr ⟨lw_p19, List.forall_mem_cons.mpr ⟨lw_p20, List.forall_mem_cons.mpr ⟨lw_p21, List.forall_mem_cons.mpr ⟨lw_p22, List.forall_mem_cons.mpr ⟨lw_p23, List.forall_mem_cons.mpr ⟨lw_p24, List.forall_mem_cons.mpr ⟨lw_p25, List.forall_mem_cons.mpr ⟨lw_p26, List.forall_mem_cons.mpr ⟨lw_p27, List.forall_mem_cons.mpr ⟨lw_p28, List.forall_mem_cons.mpr ⟨lw_p29, List.forall_mem_cons.mpr ⟨lw_p30, List.forall_mem_cons.mpr ⟨lw_p31, fun _ h => absurd h List.not_mem_nil⟩⟩⟩⟩⟩⟩⟩⟩⟩⟩⟩⟩⟩⟩⟩⟩
theorem lw_p32 : lw_okq (⟨"ConfettiMinutesModel", "readsRule", "()I"⟩, 50) := ⟨⟨by decide +kernel, by decide +kernel⟩, List.mem_of_getElem? (i := 1288) (by decide +kernel), List.mem_of_getElem? (i := 1497) (by decide +kernel), List.mem_of_getElem? (i := 1498) (by decide +kernel)⟩
theorem lw_p33 : lw_okq (⟨"ConfettiMinutesModel", "readsRank", "(I)Z"⟩, 50) := ⟨⟨by decide +kernel, by decide +kernel⟩, List.mem_of_getElem? (i := 1288) (by decide +kernel), List.mem_of_getElem? (i := 1501) (by decide +kernel), List.mem_of_getElem? (i := 1502) (by decide +kernel)⟩
theorem lw_p34 : lw_okq (⟨"ConfettiMinutesModel", "readsThing", "()Z"⟩, 50) := ⟨⟨by decide +kernel, by decide +kernel⟩, List.mem_of_getElem? (i := 1288) (by decide +kernel), List.mem_of_getElem? (i := 1505) (by decide +kernel), List.mem_of_getElem? (i := 1506) (by decide +kernel)⟩
theorem lw_p35 : lw_okq (⟨"ConfettiMinutesModel", "codes", "(I)V"⟩, 50) := ⟨⟨by decide +kernel, by decide +kernel⟩, List.mem_of_getElem? (i := 1288) (by decide +kernel), List.mem_of_getElem? (i := 1509) (by decide +kernel), List.mem_of_getElem? (i := 1510) (by decide +kernel)⟩
theorem lw_p36 : lw_okq (⟨"ConfettiMinutesModel", "isDigit", "()Z"⟩, 50) := ⟨⟨by decide +kernel, by decide +kernel⟩, List.mem_of_getElem? (i := 1288) (by decide +kernel), List.mem_of_getElem? (i := 1513) (by decide +kernel), List.mem_of_getElem? (i := 1514) (by decide +kernel)⟩
theorem lw_p37 : lw_okq (⟨"ConfettiMinutesModel", "number", "(I)I"⟩, 50) := ⟨⟨by decide +kernel, by decide +kernel⟩, List.mem_of_getElem? (i := 1288) (by decide +kernel), List.mem_of_getElem? (i := 1519) (by decide +kernel), List.mem_of_getElem? (i := 1520) (by decide +kernel)⟩
theorem lw_p38 : lw_okq (⟨"ConfettiMinutesModel", "takesOf", "(Ljava/lang/String;)I"⟩, 50) := ⟨⟨by decide +kernel, by decide +kernel⟩, List.mem_of_getElem? (i := 1288) (by decide +kernel), List.mem_of_getElem? (i := 1524) (by decide +kernel), List.mem_of_getElem? (i := 1525) (by decide +kernel)⟩
theorem lw_p39 : lw_okq (⟨"ConfettiMinutesModel", "laysCode", "([II)V"⟩, 50) := ⟨⟨by decide +kernel, by decide +kernel⟩, List.mem_of_getElem? (i := 1288) (by decide +kernel), List.mem_of_getElem? (i := 1533) (by decide +kernel), List.mem_of_getElem? (i := 1534) (by decide +kernel)⟩
theorem lw_p40 : lw_okq (⟨"ConfettiMinutesModel", "isLaw", "(I)Z"⟩, 50) := ⟨⟨by decide +kernel, by decide +kernel⟩, List.mem_of_getElem? (i := 1288) (by decide +kernel), List.mem_of_getElem? (i := 1541) (by decide +kernel), List.mem_of_getElem? (i := 1542) (by decide +kernel)⟩
theorem lw_p41 : lw_okq (⟨"ConfettiMinutesModel", "refuse", "()I"⟩, 50) := ⟨⟨by decide +kernel, by decide +kernel⟩, List.mem_of_getElem? (i := 1288) (by decide +kernel), List.mem_of_getElem? (i := 1546) (by decide +kernel), List.mem_of_getElem? (i := 1547) (by decide +kernel)⟩
theorem lw_p42 : lw_okq (⟨"ConfettiMinutesModel", "ownerOf", "(I)I"⟩, 50) := ⟨⟨by decide +kernel, by decide +kernel⟩, List.mem_of_getElem? (i := 1288) (by decide +kernel), List.mem_of_getElem? (i := 1558) (by decide +kernel), List.mem_of_getElem? (i := 1559) (by decide +kernel)⟩
theorem lw_p43 : lw_okq (⟨"ConfettiMinutesModel", "hasRight", "([III)Z"⟩, 50) := ⟨⟨by decide +kernel, by decide +kernel⟩, List.mem_of_getElem? (i := 1288) (by decide +kernel), List.mem_of_getElem? (i := 1562) (by decide +kernel), List.mem_of_getElem? (i := 1563) (by decide +kernel)⟩
theorem lw_p44 : lw_okq (⟨"ConfettiMinutesModel", "isBit", "(II)Z"⟩, 50) := ⟨⟨by decide +kernel, by decide +kernel⟩, List.mem_of_getElem? (i := 1288) (by decide +kernel), List.mem_of_getElem? (i := 1576) (by decide +kernel), List.mem_of_getElem? (i := 1577) (by decide +kernel)⟩
theorem lw_p45 : lw_okq (⟨"ConfettiMinutesModel", "isOne", "(I)Z"⟩, 50) := ⟨⟨by decide +kernel, by decide +kernel⟩, List.mem_of_getElem? (i := 1288) (by decide +kernel), List.mem_of_getElem? (i := 1584) (by decide +kernel), List.mem_of_getElem? (i := 1585) (by decide +kernel)⟩
theorem lw_p46 : lw_okq (⟨"ConfettiMinutesModel", "rightsOf", "(I)I"⟩, 50) := ⟨⟨by decide +kernel, by decide +kernel⟩, List.mem_of_getElem? (i := 1288) (by decide +kernel), List.mem_of_getElem? (i := 1589) (by decide +kernel), List.mem_of_getElem? (i := 1590) (by decide +kernel)⟩
theorem lw_p47 : lw_okq (⟨"ConfettiMinutesModel", "putsBy", "()V"⟩, 50) := ⟨⟨by decide +kernel, by decide +kernel⟩, List.mem_of_getElem? (i := 1288) (by decide +kernel), List.mem_of_getElem? (i := 1610) (by decide +kernel), List.mem_of_getElem? (i := 1611) (by decide +kernel)⟩
def lw_privs_3 : List (MethodName × Nat) := [(⟨"ConfettiMinutesModel", "readsRule", "()I"⟩, 50), (⟨"ConfettiMinutesModel", "readsRank", "(I)Z"⟩, 50), (⟨"ConfettiMinutesModel", "readsThing", "()Z"⟩, 50), (⟨"ConfettiMinutesModel", "codes", "(I)V"⟩, 50), (⟨"ConfettiMinutesModel", "isDigit", "()Z"⟩, 50), (⟨"ConfettiMinutesModel", "number", "(I)I"⟩, 50), (⟨"ConfettiMinutesModel", "takesOf", "(Ljava/lang/String;)I"⟩, 50), (⟨"ConfettiMinutesModel", "laysCode", "([II)V"⟩, 50), (⟨"ConfettiMinutesModel", "isLaw", "(I)Z"⟩, 50), (⟨"ConfettiMinutesModel", "refuse", "()I"⟩, 50), (⟨"ConfettiMinutesModel", "ownerOf", "(I)I"⟩, 50), (⟨"ConfettiMinutesModel", "hasRight", "([III)Z"⟩, 50), (⟨"ConfettiMinutesModel", "isBit", "(II)Z"⟩, 50), (⟨"ConfettiMinutesModel", "isOne", "(I)Z"⟩, 50), (⟨"ConfettiMinutesModel", "rightsOf", "(I)I"⟩, 50), (⟨"ConfettiMinutesModel", "putsBy", "()V"⟩, 50)]
theorem lw_r3 : ∀ q ∈ lw_privs_3, lw_okq q := List.forall_mem_cons.mpr ⟨lw_p32, List.forall_mem_cons.mpr ⟨lw_p33, List.forall_mem_cons.mpr ⟨lw_p34, List.forall_mem_cons.mpr ⟨lw_p35, List.forall_mem_cons.mpr ⟨lw_p36, List.forall_mem_cons.mpr ⟨lw_p37, List.forall_mem_cons.mpr ⟨lw_p38, List.forall_mem_cons.mpr ⟨lw_p39, List.forall_mem_cons.mpr ⟨lw_p40, List.forall_mem_cons.mpr ⟨lw_p41, List.forall_mem_cons.mpr ⟨lw_p42, List.forall_mem_cons.mpr ⟨lw_p43, List.forall_mem_cons.mpr ⟨lw_p44, List.forall_mem_cons.mpr ⟨lw_p45, List.forall_mem_cons.mpr ⟨lw_p46, List.forall_mem_cons.mpr ⟨lw_p47, fun _ h => absurd h List.not_mem_nil⟩⟩⟩⟩⟩⟩⟩⟩⟩⟩⟩⟩⟩⟩⟩⟩
theorem lw_p48 : lw_okq (⟨"ConfettiMinutesModel", "carriesOne", "(I)I"⟩, 50) := ⟨⟨by decide +kernel, by decide +kernel⟩, List.mem_of_getElem? (i := 1288) (by decide +kernel), List.mem_of_getElem? (i := 1614) (by decide +kernel), List.mem_of_getElem? (i := 1615) (by decide +kernel)⟩
theorem lw_p49 : lw_okq (⟨"ConfettiMinutesModel", "counted", "(I)I"⟩, 50) := ⟨⟨by decide +kernel, by decide +kernel⟩, List.mem_of_getElem? (i := 1288) (by decide +kernel), List.mem_of_getElem? (i := 1619) (by decide +kernel), List.mem_of_getElem? (i := 1620) (by decide +kernel)⟩
theorem lw_p50 : lw_okq (⟨"ConfettiMinutesModel", "adds", "(I)I"⟩, 50) := ⟨⟨by decide +kernel, by decide +kernel⟩, List.mem_of_getElem? (i := 1288) (by decide +kernel), List.mem_of_getElem? (i := 1623) (by decide +kernel), List.mem_of_getElem? (i := 1624) (by decide +kernel)⟩
theorem lw_p51 : lw_okq (⟨"ConfettiMinutesModel", "flingsOne", "(II)I"⟩, 50) := ⟨⟨by decide +kernel, by decide +kernel⟩, List.mem_of_getElem? (i := 1288) (by decide +kernel), List.mem_of_getElem? (i := 1631) (by decide +kernel), List.mem_of_getElem? (i := 1632) (by decide +kernel)⟩
theorem lw_p52 : lw_okq (⟨"ConfettiMinutesModel", "fallsIn", "([III)V"⟩, 50) := ⟨⟨by decide +kernel, by decide +kernel⟩, List.mem_of_getElem? (i := 1288) (by decide +kernel), List.mem_of_getElem? (i := 1636) (by decide +kernel), List.mem_of_getElem? (i := 1637) (by decide +kernel)⟩
theorem lw_p53 : lw_okq (⟨"ConfettiMinutesModel", "sweepsOne", "(I)I"⟩, 50) := ⟨⟨by decide +kernel, by decide +kernel⟩, List.mem_of_getElem? (i := 1288) (by decide +kernel), List.mem_of_getElem? (i := 1644) (by decide +kernel), List.mem_of_getElem? (i := 1645) (by decide +kernel)⟩
theorem lw_p54 : lw_okq (⟨"ConfettiMinutesModel", "goesOn", "([II)I"⟩, 50) := ⟨⟨by decide +kernel, by decide +kernel⟩, List.mem_of_getElem? (i := 1288) (by decide +kernel), List.mem_of_getElem? (i := 1653) (by decide +kernel), List.mem_of_getElem? (i := 1654) (by decide +kernel)⟩
theorem lw_p55 : lw_okq (⟨"ConfettiMinutesModel", "dayGoes", "([I)I"⟩, 50) := ⟨⟨by decide +kernel, by decide +kernel⟩, List.mem_of_getElem? (i := 1288) (by decide +kernel), List.mem_of_getElem? (i := 1657) (by decide +kernel), List.mem_of_getElem? (i := 1658) (by decide +kernel)⟩
theorem lw_p56 : lw_okq (⟨"ConfettiMinutesModel", "blown", "([III)I"⟩, 50) := ⟨⟨by decide +kernel, by decide +kernel⟩, List.mem_of_getElem? (i := 1288) (by decide +kernel), List.mem_of_getElem? (i := 1661) (by decide +kernel), List.mem_of_getElem? (i := 1662) (by decide +kernel)⟩
theorem lw_p57 : lw_okq (⟨"ConfettiMinutesModel", "ruled", "()I"⟩, 50) := ⟨⟨by decide +kernel, by decide +kernel⟩, List.mem_of_getElem? (i := 1288) (by decide +kernel), List.mem_of_getElem? (i := 1668) (by decide +kernel), List.mem_of_getElem? (i := 1669) (by decide +kernel)⟩
theorem lw_p58 : lw_okq (⟨"ConfettiMinutesModel", "enters", "(J)V"⟩, 50) := ⟨⟨by decide +kernel, by decide +kernel⟩, List.mem_of_getElem? (i := 1288) (by decide +kernel), List.mem_of_getElem? (i := 1678) (by decide +kernel), List.mem_of_getElem? (i := 1679) (by decide +kernel)⟩
theorem lw_p59 : lw_okq (⟨"ConfettiMinutesModel", "rights", "([I)I"⟩, 50) := ⟨⟨by decide +kernel, by decide +kernel⟩, List.mem_of_getElem? (i := 1288) (by decide +kernel), List.mem_of_getElem? (i := 1682) (by decide +kernel), List.mem_of_getElem? (i := 1683) (by decide +kernel)⟩
theorem lw_p60 : lw_okq (⟨"ConfettiMinutesModel", "walksOne", "(II)I"⟩, 50) := ⟨⟨by decide +kernel, by decide +kernel⟩, List.mem_of_getElem? (i := 1288) (by decide +kernel), List.mem_of_getElem? (i := 1690) (by decide +kernel), List.mem_of_getElem? (i := 1691) (by decide +kernel)⟩
theorem lw_p61 : lw_okq (⟨"ConfettiMinutesModel", "givesAll", "(III)I"⟩, 50) := ⟨⟨by decide +kernel, by decide +kernel⟩, List.mem_of_getElem? (i := 1288) (by decide +kernel), List.mem_of_getElem? (i := 1699) (by decide +kernel), List.mem_of_getElem? (i := 1700) (by decide +kernel)⟩
theorem lw_p62 : lw_okq (⟨"ConfettiMinutesModel", "goesFrom", "(IIII)I"⟩, 50) := ⟨⟨by decide +kernel, by decide +kernel⟩, List.mem_of_getElem? (i := 1288) (by decide +kernel), List.mem_of_getElem? (i := 1703) (by decide +kernel), List.mem_of_getElem? (i := 1704) (by decide +kernel)⟩
theorem lw_p63 : lw_okq (⟨"ConfettiMinutesModel", "fallsFrom", "(I)I"⟩, 50) := ⟨⟨by decide +kernel, by decide +kernel⟩, List.mem_of_getElem? (i := 1288) (by decide +kernel), List.mem_of_getElem? (i := 1711) (by decide +kernel), List.mem_of_getElem? (i := 1712) (by decide +kernel)⟩
def lw_privs_4 : List (MethodName × Nat) := [(⟨"ConfettiMinutesModel", "carriesOne", "(I)I"⟩, 50), (⟨"ConfettiMinutesModel", "counted", "(I)I"⟩, 50), (⟨"ConfettiMinutesModel", "adds", "(I)I"⟩, 50), (⟨"ConfettiMinutesModel", "flingsOne", "(II)I"⟩, 50), (⟨"ConfettiMinutesModel", "fallsIn", "([III)V"⟩, 50), (⟨"ConfettiMinutesModel", "sweepsOne", "(I)I"⟩, 50), (⟨"ConfettiMinutesModel", "goesOn", "([II)I"⟩, 50), (⟨"ConfettiMinutesModel", "dayGoes", "([I)I"⟩, 50), (⟨"ConfettiMinutesModel", "blown", "([III)I"⟩, 50), (⟨"ConfettiMinutesModel", "ruled", "()I"⟩, 50), (⟨"ConfettiMinutesModel", "enters", "(J)V"⟩, 50), (⟨"ConfettiMinutesModel", "rights", "([I)I"⟩, 50), (⟨"ConfettiMinutesModel", "walksOne", "(II)I"⟩, 50), (⟨"ConfettiMinutesModel", "givesAll", "(III)I"⟩, 50), (⟨"ConfettiMinutesModel", "goesFrom", "(IIII)I"⟩, 50), (⟨"ConfettiMinutesModel", "fallsFrom", "(I)I"⟩, 50)]
theorem lw_r4 : ∀ q ∈ lw_privs_4, lw_okq q := List.forall_mem_cons.mpr ⟨lw_p48, List.forall_mem_cons.mpr ⟨lw_p49, List.forall_mem_cons.mpr ⟨lw_p50, List.forall_mem_cons.mpr ⟨lw_p51, List.forall_mem_cons.mpr ⟨lw_p52, List.forall_mem_cons.mpr ⟨lw_p53, List.forall_mem_cons.mpr ⟨lw_p54, List.forall_mem_cons.mpr ⟨lw_p55, List.forall_mem_cons.mpr ⟨lw_p56, List.forall_mem_cons.mpr ⟨lw_p57, List.forall_mem_cons.mpr ⟨lw_p58, List.forall_mem_cons.mpr ⟨lw_p59, List.forall_mem_cons.mpr ⟨lw_p60, List.forall_mem_cons.mpr ⟨lw_p61, List.forall_mem_cons.mpr ⟨lw_p62, List.forall_mem_cons.mpr ⟨lw_p63, fun _ h => absurd h List.not_mem_nil⟩⟩⟩⟩⟩⟩⟩⟩⟩⟩⟩⟩⟩⟩⟩⟩
theorem lw_p64 : lw_okq (⟨"ConfettiMinutesModel", "windTo", "(I)I"⟩, 50) := ⟨⟨by decide +kernel, by decide +kernel⟩, List.mem_of_getElem? (i := 1288) (by decide +kernel), List.mem_of_getElem? (i := 1719) (by decide +kernel), List.mem_of_getElem? (i := 1720) (by decide +kernel)⟩
theorem lw_p65 : lw_okq (⟨"ConfettiMinutesModel", "readsAct", "()Z"⟩, 50) := ⟨⟨by decide +kernel, by decide +kernel⟩, List.mem_of_getElem? (i := 1288) (by decide +kernel), List.mem_of_getElem? (i := 1728) (by decide +kernel), List.mem_of_getElem? (i := 1729) (by decide +kernel)⟩
theorem lw_p66 : lw_okq (⟨"ConfettiMinutesModel", "does", "(I)Z"⟩, 50) := ⟨⟨by decide +kernel, by decide +kernel⟩, List.mem_of_getElem? (i := 1288) (by decide +kernel), List.mem_of_getElem? (i := 1734) (by decide +kernel), List.mem_of_getElem? (i := 1735) (by decide +kernel)⟩
theorem lw_p67 : lw_okq (⟨"ConfettiMinutesModel", "heldMany", "([I)I"⟩, 50) := ⟨⟨by decide +kernel, by decide +kernel⟩, List.mem_of_getElem? (i := 1288) (by decide +kernel), List.mem_of_getElem? (i := 1738) (by decide +kernel), List.mem_of_getElem? (i := 1739) (by decide +kernel)⟩
theorem lw_p68 : lw_okq (⟨"ConfettiMinutesModel", "heldWith", "(IIII)I"⟩, 50) := ⟨⟨by decide +kernel, by decide +kernel⟩, List.mem_of_getElem? (i := 1288) (by decide +kernel), List.mem_of_getElem? (i := 1770) (by decide +kernel), List.mem_of_getElem? (i := 1771) (by decide +kernel)⟩
theorem lw_p69 : lw_okq (⟨"ConfettiMinutesModel", "all", "()I"⟩, 50) := ⟨⟨by decide +kernel, by decide +kernel⟩, List.mem_of_getElem? (i := 1288) (by decide +kernel), List.mem_of_getElem? (i := 1786) (by decide +kernel), List.mem_of_getElem? (i := 1787) (by decide +kernel)⟩
theorem lw_p70 : lw_okq (⟨"ConfettiMinutesModel", "holdsOfAll", "(I)Z"⟩, 50) := ⟨⟨by decide +kernel, by decide +kernel⟩, List.mem_of_getElem? (i := 1288) (by decide +kernel), List.mem_of_getElem? (i := 1790) (by decide +kernel), List.mem_of_getElem? (i := 1791) (by decide +kernel)⟩
theorem lw_p71 : lw_okq (⟨"ConfettiMinutesModel", "holdersOf", "(I)I"⟩, 50) := ⟨⟨by decide +kernel, by decide +kernel⟩, List.mem_of_getElem? (i := 1288) (by decide +kernel), List.mem_of_getElem? (i := 1794) (by decide +kernel), List.mem_of_getElem? (i := 1795) (by decide +kernel)⟩
theorem lw_p72 : lw_okq (⟨"ConfettiMinutesModel", "awardsFrom", "(III)V"⟩, 50) := ⟨⟨by decide +kernel, by decide +kernel⟩, List.mem_of_getElem? (i := 1288) (by decide +kernel), List.mem_of_getElem? (i := 1802) (by decide +kernel), List.mem_of_getElem? (i := 1803) (by decide +kernel)⟩
theorem lw_p73 : lw_okq (⟨"ConfettiMinutesModel", "carriesIt", "(I)Z"⟩, 50) := ⟨⟨by decide +kernel, by decide +kernel⟩, List.mem_of_getElem? (i := 1288) (by decide +kernel), List.mem_of_getElem? (i := 1818) (by decide +kernel), List.mem_of_getElem? (i := 1819) (by decide +kernel)⟩
theorem lw_p74 : lw_okq (⟨"ConfettiMinutesModel", "entersFraction", "(JJ)I"⟩, 50) := ⟨⟨by decide +kernel, by decide +kernel⟩, List.mem_of_getElem? (i := 1288) (by decide +kernel), List.mem_of_getElem? (i := 1822) (by decide +kernel), List.mem_of_getElem? (i := 1823) (by decide +kernel)⟩
theorem lw_p75 : lw_okq (⟨"ConfettiMinutesModel", "winds", "()I"⟩, 50) := ⟨⟨by decide +kernel, by decide +kernel⟩, List.mem_of_getElem? (i := 1288) (by decide +kernel), List.mem_of_getElem? (i := 1845) (by decide +kernel), List.mem_of_getElem? (i := 1846) (by decide +kernel)⟩
theorem lw_p76 : lw_okq (⟨"ConfettiMinutesModel", "fitting", "()I"⟩, 50) := ⟨⟨by decide +kernel, by decide +kernel⟩, List.mem_of_getElem? (i := 1288) (by decide +kernel), List.mem_of_getElem? (i := 1869) (by decide +kernel), List.mem_of_getElem? (i := 1870) (by decide +kernel)⟩
theorem lw_p77 : lw_okq (⟨"ConfettiMinutesModel", "isSo", "(III)Z"⟩, 50) := ⟨⟨by decide +kernel, by decide +kernel⟩, List.mem_of_getElem? (i := 1288) (by decide +kernel), List.mem_of_getElem? (i := 1873) (by decide +kernel), List.mem_of_getElem? (i := 1874) (by decide +kernel)⟩
theorem lw_p78 : lw_okq (⟨"ConfettiMinutesModel", "isScatter", "(I)Z"⟩, 50) := ⟨⟨by decide +kernel, by decide +kernel⟩, List.mem_of_getElem? (i := 1288) (by decide +kernel), List.mem_of_getElem? (i := 1899) (by decide +kernel), List.mem_of_getElem? (i := 1900) (by decide +kernel)⟩
theorem lw_p79 : lw_okq (⟨"ConfettiMinutesModel", "draws", "(I)I"⟩, 50) := ⟨⟨by decide +kernel, by decide +kernel⟩, List.mem_of_getElem? (i := 1288) (by decide +kernel), List.mem_of_getElem? (i := 1933) (by decide +kernel), List.mem_of_getElem? (i := 1934) (by decide +kernel)⟩
def lw_privs_5 : List (MethodName × Nat) := [(⟨"ConfettiMinutesModel", "windTo", "(I)I"⟩, 50), (⟨"ConfettiMinutesModel", "readsAct", "()Z"⟩, 50), (⟨"ConfettiMinutesModel", "does", "(I)Z"⟩, 50), (⟨"ConfettiMinutesModel", "heldMany", "([I)I"⟩, 50), (⟨"ConfettiMinutesModel", "heldWith", "(IIII)I"⟩, 50), (⟨"ConfettiMinutesModel", "all", "()I"⟩, 50), (⟨"ConfettiMinutesModel", "holdsOfAll", "(I)Z"⟩, 50), (⟨"ConfettiMinutesModel", "holdersOf", "(I)I"⟩, 50), (⟨"ConfettiMinutesModel", "awardsFrom", "(III)V"⟩, 50), (⟨"ConfettiMinutesModel", "carriesIt", "(I)Z"⟩, 50), (⟨"ConfettiMinutesModel", "entersFraction", "(JJ)I"⟩, 50), (⟨"ConfettiMinutesModel", "winds", "()I"⟩, 50), (⟨"ConfettiMinutesModel", "fitting", "()I"⟩, 50), (⟨"ConfettiMinutesModel", "isSo", "(III)Z"⟩, 50), (⟨"ConfettiMinutesModel", "isScatter", "(I)Z"⟩, 50), (⟨"ConfettiMinutesModel", "draws", "(I)I"⟩, 50)]
theorem lw_r5 : ∀ q ∈ lw_privs_5, lw_okq q := List.forall_mem_cons.mpr ⟨lw_p64, List.forall_mem_cons.mpr ⟨lw_p65, List.forall_mem_cons.mpr ⟨lw_p66, List.forall_mem_cons.mpr ⟨lw_p67, List.forall_mem_cons.mpr ⟨lw_p68, List.forall_mem_cons.mpr ⟨lw_p69, List.forall_mem_cons.mpr ⟨lw_p70, List.forall_mem_cons.mpr ⟨lw_p71, List.forall_mem_cons.mpr ⟨lw_p72, List.forall_mem_cons.mpr ⟨lw_p73, List.forall_mem_cons.mpr ⟨lw_p74, List.forall_mem_cons.mpr ⟨lw_p75, List.forall_mem_cons.mpr ⟨lw_p76, List.forall_mem_cons.mpr ⟨lw_p77, List.forall_mem_cons.mpr ⟨lw_p78, List.forall_mem_cons.mpr ⟨lw_p79, fun _ h => absurd h List.not_mem_nil⟩⟩⟩⟩⟩⟩⟩⟩⟩⟩⟩⟩⟩⟩⟩⟩
def lw_privs : List (MethodName × Nat) := lw_privs_1 ++ (lw_privs_2 ++ (lw_privs_3 ++ (lw_privs_4 ++ (lw_privs_5))))
def lw_tbl : List Cond := k2_sels lw_privs ++ tables_1
theorem lw_privs_ok : ∀ q ∈ lw_privs, lw_okq q := by
  show ∀ q ∈ lw_privs_1 ++ (lw_privs_2 ++ (lw_privs_3 ++ (lw_privs_4 ++ (lw_privs_5)))), lw_okq q
  exact List.forall_mem_append.mpr ⟨lw_r1, List.forall_mem_append.mpr ⟨lw_r2, List.forall_mem_append.mpr ⟨lw_r3, List.forall_mem_append.mpr ⟨lw_r4, lw_r5⟩⟩⟩⟩
end
section
def RX0 : String := "ConfettiMinutes$Flights"
def TX0 : u_T := fun k => match k with
  | _ => ("ConfettiMinutes$Flights", "ledger", "LConfettiMinutes$Ledger;", true)
def tyX0 : Nat → FieldType := fun k => match k with
  | _ => .object "ConfettiMinutes$Ledger"
abbrev wsX00 : List Cond := u_ws RX0 TX0 1
theorem nmX0 : ∀ a, a < 1 → ∀ b, b < 1 → a ≠ b → (TX0 a).2.1 ≠ (TX0 b).2.1 := by decide +kernel
theorem tyX0_ok : ∀ k, k < 1 → parseFieldDescriptor (TX0 k).2.2.1 = some (tyX0 k) := by decide +kernel
abbrev cX0_init : ByteArray := prog_2_method_1_code
def yX0_init : MethodName := ⟨RX0, "<init>", "()V"⟩
abbrev cX0_timesWind : ByteArray := prog_2_method_2_code
def yX0_timesWind : MethodName := ⟨RX0, "timesWind", "(I)I"⟩
abbrev cX0_timesNumber : ByteArray := prog_2_method_3_code
def yX0_timesNumber : MethodName := ⟨RX0, "timesNumber", "(I)I"⟩
abbrev cX0_firstOf : ByteArray := prog_2_method_4_code
def yX0_firstOf : MethodName := ⟨RX0, "firstOf", "(I)I"⟩
abbrev cX0_wayBy : ByteArray := prog_2_method_5_code
def yX0_wayBy : MethodName := ⟨RX0, "wayBy", "(III)I"⟩
abbrev cX0_lawsLeft : ByteArray := prog_2_method_6_code
def yX0_lawsLeft : MethodName := ⟨RX0, "lawsLeft", "()I"⟩
abbrev cX0_suits : ByteArray := prog_2_method_7_code
def yX0_suits : MethodName := ⟨RX0, "suits", "(I)Z"⟩
abbrev cX0_mostLeft : ByteArray := prog_2_method_8_code
def yX0_mostLeft : MethodName := ⟨RX0, "mostLeft", "(III)I"⟩
def RX1 : String := "ConfettiMinutes$Hearsay"
def TX1 : u_T := fun k => match k with
  | _ => ("ConfettiMinutes$Hearsay", "ledger", "LConfettiMinutes$Ledger;", true)
def tyX1 : Nat → FieldType := fun k => match k with
  | _ => .object "ConfettiMinutes$Ledger"
abbrev wsX10 : List Cond := u_ws RX1 TX1 1
theorem nmX1 : ∀ a, a < 1 → ∀ b, b < 1 → a ≠ b → (TX1 a).2.1 ≠ (TX1 b).2.1 := by decide +kernel
theorem tyX1_ok : ∀ k, k < 1 → parseFieldDescriptor (TX1 k).2.2.1 = some (tyX1 k) := by decide +kernel
abbrev cX1_init : ByteArray := prog_3_method_1_code
def yX1_init : MethodName := ⟨RX1, "<init>", "()V"⟩
abbrev cX1_isTalk : ByteArray := prog_3_method_2_code
def yX1_isTalk : MethodName := ⟨RX1, "isTalk", "(II)Z"⟩
abbrev cX1_peopleLeft : ByteArray := prog_3_method_3_code
def yX1_peopleLeft : MethodName := ⟨RX1, "peopleLeft", "(LConfettiMinutes$Town;)I"⟩
abbrev cX1_suits : ByteArray := prog_3_method_4_code
def yX1_suits : MethodName := ⟨RX1, "suits", "(LConfettiMinutes$Town;I)Z"⟩
abbrev cX1_isSo : ByteArray := prog_3_method_5_code
def yX1_isSo : MethodName := ⟨RX1, "isSo", "(LConfettiMinutes$Town;III)Z"⟩
abbrev cX1_mostLeft : ByteArray := prog_3_method_6_code
def yX1_mostLeft : MethodName := ⟨RX1, "mostLeft", "(LConfettiMinutes$Town;III)I"⟩
def RX2 : String := "ConfettiMinutes$Ledger"
def TX2 : u_T := fun k => match k with
  | 0 => ("ConfettiMinutes$Ledger", "numbers", "[I", true)
  | 1 => ("ConfettiMinutes$Ledger", "room", "I", true)
  | _ => ("ConfettiMinutes$Ledger", "size", "I", false)
def tyX2 : Nat → FieldType := fun k => match k with
  | 0 => .array .int
  | 1 => .int
  | _ => .int
abbrev wsX20 : List Cond := u_ws RX2 TX2 3
theorem nmX2 : ∀ a, a < 3 → ∀ b, b < 3 → a ≠ b → (TX2 a).2.1 ≠ (TX2 b).2.1 := by decide +kernel
theorem tyX2_ok : ∀ k, k < 3 → parseFieldDescriptor (TX2 k).2.2.1 = some (tyX2 k) := by decide +kernel
abbrev cX2_init : ByteArray := prog_4_method_1_code
def yX2_init : MethodName := ⟨RX2, "<init>", "(I)V"⟩
abbrev cX2_size : ByteArray := prog_4_method_2_code
def yX2_size : MethodName := ⟨RX2, "size", "()I"⟩
abbrev cX2_add : ByteArray := prog_4_method_3_code
def yX2_add : MethodName := ⟨RX2, "add", "(III)I"⟩
abbrev cX2_at : ByteArray := prog_4_method_4_code
def yX2_at : MethodName := ⟨RX2, "at", "(II)I"⟩
abbrev cX2_isFull : ByteArray := prog_4_method_5_code
def yX2_isFull : MethodName := ⟨RX2, "isFull", "()Z"⟩
abbrev cX2_empty : ByteArray := prog_4_method_6_code
def yX2_empty : MethodName := ⟨RX2, "empty", "()I"⟩
def RX3 : String := "ConfettiMinutes$Past"
def TX3 : u_T := fun k => match k with
  | 0 => ("ConfettiMinutes$Past", "deeds", "[LConfettiMinutes$Town;", true)
  | 1 => ("ConfettiMinutes$Past", "stores", "[LConfettiMinutes$Town;", true)
  | 2 => ("ConfettiMinutes$Past", "first", "I", false)
  | 3 => ("ConfettiMinutes$Past", "size", "I", false)
  | _ => ("ConfettiMinutes$Past", "stored", "I", false)
def tyX3 : Nat → FieldType := fun k => match k with
  | 0 => .array (.object "ConfettiMinutes$Town")
  | 1 => .array (.object "ConfettiMinutes$Town")
  | 2 => .int
  | 3 => .int
  | _ => .int
abbrev wsX30 : List Cond := u_ws RX3 TX3 5
theorem nmX3 : ∀ a, a < 5 → ∀ b, b < 5 → a ≠ b → (TX3 a).2.1 ≠ (TX3 b).2.1 := by decide +kernel
theorem tyX3_ok : ∀ k, k < 5 → parseFieldDescriptor (TX3 k).2.2.1 = some (tyX3 k) := by decide +kernel
abbrev cX3_init : ByteArray := prog_5_method_1_code
def yX3_init : MethodName := ⟨RX3, "<init>", "()V"⟩
abbrev cX3_size : ByteArray := prog_5_method_2_code
def yX3_size : MethodName := ⟨RX3, "size", "()I"⟩
abbrev cX3_push : ByteArray := prog_5_method_3_code
def yX3_push : MethodName := ⟨RX3, "push", "(LConfettiMinutes$Town;)V"⟩
abbrev cX3_pop : ByteArray := prog_5_method_4_code
def yX3_pop : MethodName := ⟨RX3, "pop", "(LConfettiMinutes$Town;)I"⟩
abbrev cX3_deedAt : ByteArray := prog_5_method_5_code
def yX3_deedAt : MethodName := ⟨RX3, "deedAt", "(I)LConfettiMinutes$Town;"⟩
abbrev cX3_store : ByteArray := prog_5_method_6_code
def yX3_store : MethodName := ⟨RX3, "store", "(ILConfettiMinutes$Town;)Z"⟩
abbrev cX3_bringBack : ByteArray := prog_5_method_7_code
def yX3_bringBack : MethodName := ⟨RX3, "bringBack", "(ILConfettiMinutes$Town;)Z"⟩
abbrev cX3_forgetAll : ByteArray := prog_5_method_8_code
def yX3_forgetAll : MethodName := ⟨RX3, "forgetAll", "()V"⟩
def RX4 : String := "ConfettiMinutes$Row"
def TX4 : u_T := fun k => match k with
  | 0 => ("ConfettiMinutes$Row", "numbers", "[J", true)
  | _ => ("ConfettiMinutes$Row", "size", "I", false)
def tyX4 : Nat → FieldType := fun k => match k with
  | 0 => .array .long
  | _ => .int
abbrev wsX40 : List Cond := u_ws RX4 TX4 2
theorem nmX4 : ∀ a, a < 2 → ∀ b, b < 2 → a ≠ b → (TX4 a).2.1 ≠ (TX4 b).2.1 := by decide +kernel
theorem tyX4_ok : ∀ k, k < 2 → parseFieldDescriptor (TX4 k).2.2.1 = some (tyX4 k) := by decide +kernel
abbrev cX4_init : ByteArray := prog_6_method_1_code
def yX4_init : MethodName := ⟨RX4, "<init>", "()V"⟩
abbrev cX4_size : ByteArray := prog_6_method_2_code
def yX4_size : MethodName := ⟨RX4, "size", "()I"⟩
abbrev cX4_at : ByteArray := prog_6_method_3_code
def yX4_at : MethodName := ⟨RX4, "at", "(I)J"⟩
abbrev cX4_clear : ByteArray := prog_6_method_4_code
def yX4_clear : MethodName := ⟨RX4, "clear", "()V"⟩
abbrev cX4_add : ByteArray := prog_6_method_5_code
def yX4_add : MethodName := ⟨RX4, "add", "(J)V"⟩
abbrev cX4_tell : ByteArray := prog_6_method_6_code
def yX4_tell : MethodName := ⟨RX4, "tell", "(J)V"⟩
abbrev cX4_tell_ : ByteArray := prog_6_method_7_code
def yX4_tell_ : MethodName := ⟨RX4, "tell", "(JJ)V"⟩
abbrev cX4_tellFraction : ByteArray := prog_6_method_8_code
def yX4_tellFraction : MethodName := ⟨RX4, "tellFraction", "(JJ)V"⟩
def RX5 : String := "ConfettiMinutes$Rule"
def TX5 : u_T := fun k => match k with
  | 0 => ("ConfettiMinutes$Rule", "known", "[I", true)
  | 1 => ("ConfettiMinutes$Rule", "code", "[I", true)
  | 2 => ("ConfettiMinutes$Rule", "waiting", "[I", true)
  | 3 => ("ConfettiMinutes$Rule", "stack", "[I", true)
  | 4 => ("ConfettiMinutes$Rule", "size", "I", false)
  | 5 => ("ConfettiMinutes$Rule", "waits", "I", false)
  | 6 => ("ConfettiMinutes$Rule", "depth", "I", false)
  | 7 => ("ConfettiMinutes$Rule", "digits", "I", false)
  | 8 => ("ConfettiMinutes$Rule", "compared", "I", false)
  | _ => ("ConfettiMinutes$Rule", "wantsThing", "Z", false)
def tyX5 : Nat → FieldType := fun k => match k with
  | 0 => .array .int
  | 1 => .array .int
  | 2 => .array .int
  | 3 => .array .int
  | 4 => .int
  | 5 => .int
  | 6 => .int
  | 7 => .int
  | 8 => .int
  | _ => .boolean
abbrev wsX50 : List Cond := u_ws RX5 TX5 10
theorem nmX5 : ∀ a, a < 10 → ∀ b, b < 10 → a ≠ b → (TX5 a).2.1 ≠ (TX5 b).2.1 := by decide +kernel
theorem tyX5_ok : ∀ k, k < 10 → parseFieldDescriptor (TX5 k).2.2.1 = some (tyX5 k) := by decide +kernel
abbrev cX5_init : ByteArray := prog_7_method_1_code
def yX5_init : MethodName := ⟨RX5, "<init>", "()V"⟩
abbrev cX5_read : ByteArray := prog_7_method_2_code
def yX5_read : MethodName := ⟨RX5, "read", "(LConfettiMinutes$Script;I)I"⟩
abbrev cX5_drift : ByteArray := prog_7_method_3_code
def yX5_drift : MethodName := ⟨RX5, "drift", "()I"⟩
abbrev cX5_learn : ByteArray := prog_7_method_4_code
def yX5_learn : MethodName := ⟨RX5, "learn", "(LConfettiMinutes$Town;III)V"⟩
abbrev cX5_worth : ByteArray := prog_7_method_5_code
def yX5_worth : MethodName := ⟨RX5, "worth", "(I)I"⟩
abbrev cX5_takesThing : ByteArray := prog_7_method_6_code
def yX5_takesThing : MethodName := ⟨RX5, "takesThing", "(C)Z"⟩
abbrev cX5_takesBehind : ByteArray := prog_7_method_7_code
def yX5_takesBehind : MethodName := ⟨RX5, "takesBehind", "(C)Z"⟩
abbrev cX5_takesDigit : ByteArray := prog_7_method_8_code
def yX5_takesDigit : MethodName := ⟨RX5, "takesDigit", "(C)Z"⟩
abbrev cX5_closes : ByteArray := prog_7_method_9_code
def yX5_closes : MethodName := ⟨RX5, "closes", "()Z"⟩
abbrev cX5_release : ByteArray := prog_7_method_10_code
def yX5_release : MethodName := ⟨RX5, "release", "(I)V"⟩
abbrev cX5_hold : ByteArray := prog_7_method_11_code
def yX5_hold : MethodName := ⟨RX5, "hold", "(I)V"⟩
abbrev cX5_emit : ByteArray := prog_7_method_12_code
def yX5_emit : MethodName := ⟨RX5, "emit", "(I)V"⟩
abbrev cX5_isDigit : ByteArray := prog_7_method_13_code
def yX5_isDigit : MethodName := ⟨RX5, "isDigit", "(C)Z"⟩
abbrev cX5_strengthOf : ByteArray := prog_7_method_14_code
def yX5_strengthOf : MethodName := ⟨RX5, "strengthOf", "(I)I"⟩
abbrev cX5_joined : ByteArray := prog_7_method_15_code
def yX5_joined : MethodName := ⟨RX5, "joined", "(III)I"⟩
def RX6 : String := "ConfettiMinutes$Script"
def TX6 : u_T := fun k => match k with
  | 0 => ("ConfettiMinutes$Script", "signs", "[C", true)
  | _ => ("ConfettiMinutes$Script", "length", "I", false)
def tyX6 : Nat → FieldType := fun k => match k with
  | 0 => .array .char
  | _ => .int
abbrev wsX60 : List Cond := u_ws RX6 TX6 2
theorem nmX6 : ∀ a, a < 2 → ∀ b, b < 2 → a ≠ b → (TX6 a).2.1 ≠ (TX6 b).2.1 := by decide +kernel
theorem tyX6_ok : ∀ k, k < 2 → parseFieldDescriptor (TX6 k).2.2.1 = some (tyX6 k) := by decide +kernel
abbrev cX6_init : ByteArray := prog_8_method_1_code
def yX6_init : MethodName := ⟨RX6, "<init>", "()V"⟩
abbrev cX6_length : ByteArray := prog_8_method_2_code
def yX6_length : MethodName := ⟨RX6, "length", "()I"⟩
abbrev cX6_append : ByteArray := prog_8_method_3_code
def yX6_append : MethodName := ⟨RX6, "append", "(I)I"⟩
abbrev cX6_cut : ByteArray := prog_8_method_4_code
def yX6_cut : MethodName := ⟨RX6, "cut", "(I)Z"⟩
abbrev cX6_take : ByteArray := prog_8_method_5_code
def yX6_take : MethodName := ⟨RX6, "take", "()I"⟩
abbrev cX6_at : ByteArray := prog_8_method_6_code
def yX6_at : MethodName := ⟨RX6, "at", "(I)C"⟩
abbrev cX6_digitAt : ByteArray := prog_8_method_7_code
def yX6_digitAt : MethodName := ⟨RX6, "digitAt", "(I)I"⟩
abbrev cX6_faultOfLines : ByteArray := prog_8_method_8_code
def yX6_faultOfLines : MethodName := ⟨RX6, "faultOfLines", "(ICCI)I"⟩
abbrev cX6_faultOfWedding : ByteArray := prog_8_method_9_code
def yX6_faultOfWedding : MethodName := ⟨RX6, "faultOfWedding", "(I)I"⟩
abbrev cX6_actLength : ByteArray := prog_8_method_10_code
def yX6_actLength : MethodName := ⟨RX6, "actLength", "(I)I"⟩
abbrev cX6_shapeOf : ByteArray := prog_8_method_11_code
def yX6_shapeOf : MethodName := ⟨RX6, "shapeOf", "(C)Ljava/lang/String;"⟩
abbrev cX6_suits : ByteArray := prog_8_method_12_code
def yX6_suits : MethodName := ⟨RX6, "suits", "(CC)Z"⟩
def RX7 : String := "ConfettiMinutes$Shares"
def TX7 : u_T := fun k => match k with
  | 0 => ("ConfettiMinutes$Shares", "holders", "[I", true)
  | 1 => ("ConfettiMinutes$Shares", "votes", "[I", true)
  | 2 => ("ConfettiMinutes$Shares", "best", "[I", true)
  | _ => ("ConfettiMinutes$Shares", "allVotes", "I", false)
def tyX7 : Nat → FieldType := fun k => match k with
  | 0 => .array .int
  | 1 => .array .int
  | 2 => .array .int
  | _ => .int
abbrev wsX70 : List Cond := u_ws RX7 TX7 4
theorem nmX7 : ∀ a, a < 4 → ∀ b, b < 4 → a ≠ b → (TX7 a).2.1 ≠ (TX7 b).2.1 := by decide +kernel
theorem tyX7_ok : ∀ k, k < 4 → parseFieldDescriptor (TX7 k).2.2.1 = some (tyX7 k) := by decide +kernel
abbrev cX7_init : ByteArray := prog_9_method_1_code
def yX7_init : MethodName := ⟨RX7, "<init>", "()V"⟩
abbrev cX7_lawsHeld : ByteArray := prog_9_method_2_code
def yX7_lawsHeld : MethodName := ⟨RX7, "lawsHeld", "(LConfettiMinutes$Town;)I"⟩
abbrev cX7_hittingSet : ByteArray := prog_9_method_3_code
def yX7_hittingSet : MethodName := ⟨RX7, "hittingSet", "(LConfettiMinutes$Town;)I"⟩
abbrev cX7_hitsAll : ByteArray := prog_9_method_4_code
def yX7_hitsAll : MethodName := ⟨RX7, "hitsAll", "(I)Z"⟩
abbrev cX7_weighAwards : ByteArray := prog_9_method_5_code
def yX7_weighAwards : MethodName := ⟨RX7, "weighAwards", "(LConfettiMinutes$Town;)I"⟩
abbrev cX7_tellAwards : ByteArray := prog_9_method_6_code
def yX7_tellAwards : MethodName := ⟨RX7, "tellAwards", "(LConfettiMinutes$Town;LConfettiMinutes$Row;)V"⟩
abbrev cX7_worth : ByteArray := prog_9_method_7_code
def yX7_worth : MethodName := ⟨RX7, "worth", "(LConfettiMinutes$Town;III)I"⟩
abbrev cX7_bestOf : ByteArray := prog_9_method_8_code
def yX7_bestOf : MethodName := ⟨RX7, "bestOf", "(II)I"⟩
abbrev cX7_richest : ByteArray := prog_9_method_9_code
def yX7_richest : MethodName := ⟨RX7, "richest", "(LConfettiMinutes$Town;I)I"⟩
abbrev cX7_weigh : ByteArray := prog_9_method_10_code
def yX7_weigh : MethodName := ⟨RX7, "weigh", "(LConfettiMinutes$Town;)V"⟩
abbrev cX7_swings : ByteArray := prog_9_method_11_code
def yX7_swings : MethodName := ⟨RX7, "swings", "(LConfettiMinutes$Town;I)I"⟩
abbrev cX7_isLeast : ByteArray := prog_9_method_12_code
def yX7_isLeast : MethodName := ⟨RX7, "isLeast", "(I)Z"⟩
abbrev cX7_prevails : ByteArray := prog_9_method_13_code
def yX7_prevails : MethodName := ⟨RX7, "prevails", "(I)Z"⟩
def RX8 : String := "ConfettiMinutes$Sights"
def TX8 : u_T := fun k => match k with
  | 0 => ("ConfettiMinutes$Sights", "ledger", "LConfettiMinutes$Ledger;", true)
  | _ => ("ConfettiMinutes$Sights", "tally", "[I", true)
def tyX8 : Nat → FieldType := fun k => match k with
  | 0 => .object "ConfettiMinutes$Ledger"
  | _ => .array .int
abbrev wsX80 : List Cond := u_ws RX8 TX8 2
theorem nmX8 : ∀ a, a < 2 → ∀ b, b < 2 → a ≠ b → (TX8 a).2.1 ≠ (TX8 b).2.1 := by decide +kernel
theorem tyX8_ok : ∀ k, k < 2 → parseFieldDescriptor (TX8 k).2.2.1 = some (tyX8 k) := by decide +kernel
abbrev cX8_init : ByteArray := prog_10_method_1_code
def yX8_init : MethodName := ⟨RX8, "<init>", "()V"⟩
abbrev cX8_windsLeft : ByteArray := prog_10_method_2_code
def yX8_windsLeft : MethodName := ⟨RX8, "windsLeft", "(LConfettiMinutes$Town;LConfettiMinutes$Rule;LConfettiMinutes$Weather;)I"⟩
abbrev cX8_suits : ByteArray := prog_10_method_3_code
def yX8_suits : MethodName := ⟨RX8, "suits", "(LConfettiMinutes$Town;LConfettiMinutes$Rule;LConfettiMinutes$Weather;I)Z"⟩
abbrev cX8_mostLeft : ByteArray := prog_10_method_4_code
def yX8_mostLeft : MethodName := ⟨RX8, "mostLeft", "(LConfettiMinutes$Town;LConfettiMinutes$Rule;LConfettiMinutes$Weather;II)I"⟩
def RX9 : String := "ConfettiMinutes$Town"
def TX9 : u_T := fun k => match k with
  | 0 => ("ConfettiMinutes$Town", "torn", "[I", true)
  | 1 => ("ConfettiMinutes$Town", "street", "[I", true)
  | 2 => ("ConfettiMinutes$Town", "place", "[I", true)
  | 3 => ("ConfettiMinutes$Town", "lawCount", "I", false)
  | 4 => ("ConfettiMinutes$Town", "peopleCount", "I", false)
  | 5 => ("ConfettiMinutes$Town", "carried", "I", false)
  | 6 => ("ConfettiMinutes$Town", "flung", "I", false)
  | 7 => ("ConfettiMinutes$Town", "wind", "I", false)
  | _ => ("ConfettiMinutes$Town", "day", "I", false)
def tyX9 : Nat → FieldType := fun k => match k with
  | 0 => .array .int
  | 1 => .array .int
  | 2 => .array .int
  | 3 => .int
  | 4 => .int
  | 5 => .int
  | 6 => .int
  | 7 => .int
  | _ => .int
abbrev wsX90 : List Cond := u_ws RX9 TX9 9
theorem nmX9 : ∀ a, a < 9 → ∀ b, b < 9 → a ≠ b → (TX9 a).2.1 ≠ (TX9 b).2.1 := by decide +kernel
theorem tyX9_ok : ∀ k, k < 9 → parseFieldDescriptor (TX9 k).2.2.1 = some (tyX9 k) := by decide +kernel
abbrev cX9_init : ByteArray := prog_11_method_1_code
def yX9_init : MethodName := ⟨RX9, "<init>", "()V"⟩
abbrev cX9_become : ByteArray := prog_11_method_2_code
def yX9_become : MethodName := ⟨RX9, "become", "(LConfettiMinutes$Town;)V"⟩
abbrev cX9_addLaw : ByteArray := prog_11_method_3_code
def yX9_addLaw : MethodName := ⟨RX9, "addLaw", "(I)V"⟩
abbrev cX9_addOne : ByteArray := prog_11_method_4_code
def yX9_addOne : MethodName := ⟨RX9, "addOne", "(I)V"⟩
abbrev cX9_hasLaw : ByteArray := prog_11_method_5_code
def yX9_hasLaw : MethodName := ⟨RX9, "hasLaw", "(I)Z"⟩
abbrev cX9_hasOne : ByteArray := prog_11_method_6_code
def yX9_hasOne : MethodName := ⟨RX9, "hasOne", "(I)Z"⟩
abbrev cX9_hasBit : ByteArray := prog_11_method_7_code
def yX9_hasBit : MethodName := ⟨RX9, "hasBit", "(II)Z"⟩
abbrev cX9_isCarried : ByteArray := prog_11_method_8_code
def yX9_isCarried : MethodName := ⟨RX9, "isCarried", "(I)Z"⟩
abbrev cX9_isFlung : ByteArray := prog_11_method_9_code
def yX9_isFlung : MethodName := ⟨RX9, "isFlung", "(I)Z"⟩
abbrev cX9_bitsOf : ByteArray := prog_11_method_10_code
def yX9_bitsOf : MethodName := ⟨RX9, "bitsOf", "(I)I"⟩
abbrev cX9_streetOf : ByteArray := prog_11_method_11_code
def yX9_streetOf : MethodName := ⟨RX9, "streetOf", "(I)I"⟩
abbrev cX9_placeOf : ByteArray := prog_11_method_12_code
def yX9_placeOf : MethodName := ⟨RX9, "placeOf", "(I)I"⟩
abbrev cX9_settle : ByteArray := prog_11_method_13_code
def yX9_settle : MethodName := ⟨RX9, "settle", "(II)V"⟩
abbrev cX9_lay : ByteArray := prog_11_method_14_code
def yX9_lay : MethodName := ⟨RX9, "lay", "(II)V"⟩
abbrev cX9_lies : ByteArray := prog_11_method_15_code
def yX9_lies : MethodName := ⟨RX9, "lies", "(I)Z"⟩
abbrev cX9_isHeld : ByteArray := prog_11_method_16_code
def yX9_isHeld : MethodName := ⟨RX9, "isHeld", "(I)Z"⟩
abbrev cX9_lyingCount : ByteArray := prog_11_method_17_code
def yX9_lyingCount : MethodName := ⟨RX9, "lyingCount", "()I"⟩
abbrev cX9_heldCount : ByteArray := prog_11_method_18_code
def yX9_heldCount : MethodName := ⟨RX9, "heldCount", "()I"⟩
abbrev cX9_bitsAt : ByteArray := prog_11_method_19_code
def yX9_bitsAt : MethodName := ⟨RX9, "bitsAt", "(I)I"⟩
abbrev cX9_lyingOf : ByteArray := prog_11_method_20_code
def yX9_lyingOf : MethodName := ⟨RX9, "lyingOf", "(I)I"⟩
abbrev cX9_heldOf : ByteArray := prog_11_method_21_code
def yX9_heldOf : MethodName := ⟨RX9, "heldOf", "(I)I"⟩
abbrev cX9_heldBy : ByteArray := prog_11_method_22_code
def yX9_heldBy : MethodName := ⟨RX9, "heldBy", "(I)I"⟩
abbrev cX9_heldByOf : ByteArray := prog_11_method_23_code
def yX9_heldByOf : MethodName := ⟨RX9, "heldByOf", "(II)I"⟩
abbrev cX9_holdersOf : ByteArray := prog_11_method_24_code
def yX9_holdersOf : MethodName := ⟨RX9, "holdersOf", "(I)I"⟩
abbrev cX9_hasRight : ByteArray := prog_11_method_25_code
def yX9_hasRight : MethodName := ⟨RX9, "hasRight", "(II)Z"⟩
abbrev cX9_rightHolder : ByteArray := prog_11_method_26_code
def yX9_rightHolder : MethodName := ⟨RX9, "rightHolder", "(I)I"⟩
abbrev cX9_rightsOf : ByteArray := prog_11_method_27_code
def yX9_rightsOf : MethodName := ⟨RX9, "rightsOf", "(I)I"⟩
abbrev cX9_rightCount : ByteArray := prog_11_method_28_code
def yX9_rightCount : MethodName := ⟨RX9, "rightCount", "()I"⟩
abbrev cX9_carry : ByteArray := prog_11_method_29_code
def yX9_carry : MethodName := ⟨RX9, "carry", "(I)I"⟩
abbrev cX9_fling : ByteArray := prog_11_method_30_code
def yX9_fling : MethodName := ⟨RX9, "fling", "(II)I"⟩
abbrev cX9_scatter : ByteArray := prog_11_method_31_code
def yX9_scatter : MethodName := ⟨RX9, "scatter", "(II)V"⟩
abbrev cX9_layAll : ByteArray := prog_11_method_32_code
def yX9_layAll : MethodName := ⟨RX9, "layAll", "(II)V"⟩
abbrev cX9_sweep : ByteArray := prog_11_method_33_code
def yX9_sweep : MethodName := ⟨RX9, "sweep", "(I)I"⟩
abbrev cX9_walk : ByteArray := prog_11_method_34_code
def yX9_walk : MethodName := ⟨RX9, "walk", "(II)I"⟩
abbrev cX9_give : ByteArray := prog_11_method_35_code
def yX9_give : MethodName := ⟨RX9, "give", "(III)I"⟩
abbrev cX9_letFall : ByteArray := prog_11_method_36_code
def yX9_letFall : MethodName := ⟨RX9, "letFall", "(I)I"⟩
abbrev cX9_turnWind : ByteArray := prog_11_method_37_code
def yX9_turnWind : MethodName := ⟨RX9, "turnWind", "(I)I"⟩
abbrev cX9_pickUp : ByteArray := prog_11_method_38_code
def yX9_pickUp : MethodName := ⟨RX9, "pickUp", "(I)I"⟩
def RX10 : String := "ConfettiMinutes$Weather"
def TX10 : u_T := fun k => match k with
  | 0 => ("ConfettiMinutes$Weather", "crowd", "[I", true)
  | 1 => ("ConfettiMinutes$Weather", "landing", "[I", true)
  | _ => ("ConfettiMinutes$Weather", "drawn", "I", false)
def tyX10 : Nat → FieldType := fun k => match k with
  | 0 => .array .int
  | 1 => .array .int
  | _ => .int
abbrev wsX100 : List Cond := u_ws RX10 TX10 3
theorem nmX10 : ∀ a, a < 3 → ∀ b, b < 3 → a ≠ b → (TX10 a).2.1 ≠ (TX10 b).2.1 := by decide +kernel
theorem tyX10_ok : ∀ k, k < 3 → parseFieldDescriptor (TX10 k).2.2.1 = some (tyX10 k) := by decide +kernel
abbrev cX10_init : ByteArray := prog_12_method_1_code
def yX10_init : MethodName := ⟨RX10, "<init>", "()V"⟩
abbrev cX10_passDays : ByteArray := prog_12_method_2_code
def yX10_passDays : MethodName := ⟨RX10, "passDays", "(LConfettiMinutes$Town;LConfettiMinutes$Rule;I)I"⟩
abbrev cX10_passYears : ByteArray := prog_12_method_3_code
def yX10_passYears : MethodName := ⟨RX10, "passYears", "(LConfettiMinutes$Town;LConfettiMinutes$Rule;II)I"⟩
abbrev cX10_countCrowd : ByteArray := prog_12_method_4_code
def yX10_countCrowd : MethodName := ⟨RX10, "countCrowd", "(LConfettiMinutes$Town;)V"⟩
abbrev cX10_landingOf : ByteArray := prog_12_method_5_code
def yX10_landingOf : MethodName := ⟨RX10, "landingOf", "(LConfettiMinutes$Town;LConfettiMinutes$Rule;II)I"⟩
abbrev cX10_blow : ByteArray := prog_12_method_6_code
def yX10_blow : MethodName := ⟨RX10, "blow", "(LConfettiMinutes$Town;LConfettiMinutes$Rule;)V"⟩
abbrev cX10_draw : ByteArray := prog_12_method_7_code
def yX10_draw : MethodName := ⟨RX10, "draw", "(I)I"⟩
def RX11 : String := "ConfettiMinutes"
def TX11 : u_T := fun k => match k with
  | 0 => ("ConfettiMinutes", "text", "LConfettiMinutes$Script;", true)
  | 1 => ("ConfettiMinutes", "told", "LConfettiMinutes$Row;", true)
  | 2 => ("ConfettiMinutes", "now", "LConfettiMinutes$Town;", true)
  | 3 => ("ConfettiMinutes", "before", "LConfettiMinutes$Town;", true)
  | 4 => ("ConfettiMinutes", "dream", "LConfettiMinutes$Town;", true)
  | 5 => ("ConfettiMinutes", "past", "LConfettiMinutes$Past;", true)
  | 6 => ("ConfettiMinutes", "weather", "LConfettiMinutes$Weather;", true)
  | 7 => ("ConfettiMinutes", "shares", "LConfettiMinutes$Shares;", true)
  | 8 => ("ConfettiMinutes", "sights", "LConfettiMinutes$Sights;", true)
  | 9 => ("ConfettiMinutes", "hearsay", "LConfettiMinutes$Hearsay;", true)
  | 10 => ("ConfettiMinutes", "flights", "LConfettiMinutes$Flights;", true)
  | 11 => ("ConfettiMinutes", "blowing", "LConfettiMinutes$Rule;", false)
  | _ => ("ConfettiMinutes", "trial", "LConfettiMinutes$Rule;", false)
def tyX11 : Nat → FieldType := fun k => match k with
  | 0 => .object "ConfettiMinutes$Script"
  | 1 => .object "ConfettiMinutes$Row"
  | 2 => .object "ConfettiMinutes$Town"
  | 3 => .object "ConfettiMinutes$Town"
  | 4 => .object "ConfettiMinutes$Town"
  | 5 => .object "ConfettiMinutes$Past"
  | 6 => .object "ConfettiMinutes$Weather"
  | 7 => .object "ConfettiMinutes$Shares"
  | 8 => .object "ConfettiMinutes$Sights"
  | 9 => .object "ConfettiMinutes$Hearsay"
  | 10 => .object "ConfettiMinutes$Flights"
  | 11 => .object "ConfettiMinutes$Rule"
  | _ => .object "ConfettiMinutes$Rule"
abbrev wsX110 : List Cond := u_ws RX11 TX11 13
theorem nmX11 : ∀ a, a < 13 → ∀ b, b < 13 → a ≠ b → (TX11 a).2.1 ≠ (TX11 b).2.1 := by decide +kernel
theorem tyX11_ok : ∀ k, k < 13 → parseFieldDescriptor (TX11 k).2.2.1 = some (tyX11 k) := by decide +kernel
abbrev cX11_init : ByteArray := prog_1_method_1_code
def yX11_init : MethodName := ⟨RX11, "<init>", "()V"⟩
abbrev cX11_sign : ByteArray := prog_1_method_2_code
def yX11_sign : MethodName := ⟨RX11, "sign", "(I)I"⟩
abbrev cX11_end : ByteArray := prog_1_method_3_code
def yX11_end : MethodName := ⟨RX11, "end", "(I)Z"⟩
abbrev cX11_laws : ByteArray := prog_1_method_4_code
def yX11_laws : MethodName := ⟨RX11, "laws", "()I"⟩
abbrev cX11_people : ByteArray := prog_1_method_5_code
def yX11_people : MethodName := ⟨RX11, "people", "()I"⟩
abbrev cX11_rule : ByteArray := prog_1_method_6_code
def yX11_rule : MethodName := ⟨RX11, "rule", "()I"⟩
abbrev cX11_law : ByteArray := prog_1_method_7_code
def yX11_law : MethodName := ⟨RX11, "law", "(II)I"⟩
abbrev cX11_bit : ByteArray := prog_1_method_8_code
def yX11_bit : MethodName := ⟨RX11, "bit", "(II)I"⟩
abbrev cX11_one : ByteArray := prog_1_method_9_code
def yX11_one : MethodName := ⟨RX11, "one", "(II)I"⟩
abbrev cX11_sheet : ByteArray := prog_1_method_10_code
def yX11_sheet : MethodName := ⟨RX11, "sheet", "(IIII)I"⟩
abbrev cX11_carries : ByteArray := prog_1_method_11_code
def yX11_carries : MethodName := ⟨RX11, "carries", "(I)I"⟩
abbrev cX11_flings : ByteArray := prog_1_method_12_code
def yX11_flings : MethodName := ⟨RX11, "flings", "(II)I"⟩
abbrev cX11_sweeps : ByteArray := prog_1_method_13_code
def yX11_sweeps : MethodName := ⟨RX11, "sweeps", "(I)I"⟩
abbrev cX11_days : ByteArray := prog_1_method_14_code
def yX11_days : MethodName := ⟨RX11, "days", "(I)I"⟩
abbrev cX11_walks : ByteArray := prog_1_method_15_code
def yX11_walks : MethodName := ⟨RX11, "walks", "(II)I"⟩
abbrev cX11_gives : ByteArray := prog_1_method_16_code
def yX11_gives : MethodName := ⟨RX11, "gives", "(III)I"⟩
abbrev cX11_falls : ByteArray := prog_1_method_17_code
def yX11_falls : MethodName := ⟨RX11, "falls", "(I)I"⟩
abbrev cX11_wind : ByteArray := prog_1_method_18_code
def yX11_wind : MethodName := ⟨RX11, "wind", "(I)I"⟩
abbrev cX11_wedding : ByteArray := prog_1_method_19_code
def yX11_wedding : MethodName := ⟨RX11, "wedding", "()I"⟩
abbrev cX11_undo : ByteArray := prog_1_method_20_code
def yX11_undo : MethodName := ⟨RX11, "undo", "()I"⟩
abbrev cX11_later : ByteArray := prog_1_method_21_code
def yX11_later : MethodName := ⟨RX11, "later", "(III)I"⟩
abbrev cX11_when : ByteArray := prog_1_method_22_code
def yX11_when : MethodName := ⟨RX11, "when", "(II)I"⟩
abbrev cX11_clean : ByteArray := prog_1_method_23_code
def yX11_clean : MethodName := ⟨RX11, "clean", "()I"⟩
abbrev cX11_drifts : ByteArray := prog_1_method_24_code
def yX11_drifts : MethodName := ⟨RX11, "drifts", "(I)I"⟩
abbrev cX11_aims : ByteArray := prog_1_method_25_code
def yX11_aims : MethodName := ⟨RX11, "aims", "(III)I"⟩
abbrev cX11_prays : ByteArray := prog_1_method_26_code
def yX11_prays : MethodName := ⟨RX11, "prays", "(II)I"⟩
abbrev cX11_seeks : ByteArray := prog_1_method_27_code
def yX11_seeks : MethodName := ⟨RX11, "seeks", "(II)I"⟩
abbrev cX11_whole : ByteArray := prog_1_method_28_code
def yX11_whole : MethodName := ⟨RX11, "whole", "(I)I"⟩
abbrev cX11_quorum : ByteArray := prog_1_method_29_code
def yX11_quorum : MethodName := ⟨RX11, "quorum", "()I"⟩
abbrev cX11_awards : ByteArray := prog_1_method_30_code
def yX11_awards : MethodName := ⟨RX11, "awards", "()I"⟩
abbrev cX11_needs : ByteArray := prog_1_method_31_code
def yX11_needs : MethodName := ⟨RX11, "needs", "(II)I"⟩
abbrev cX11_line : ByteArray := prog_1_method_32_code
def yX11_line : MethodName := ⟨RX11, "line", "()I"⟩
abbrev cX11_power : ByteArray := prog_1_method_33_code
def yX11_power : MethodName := ⟨RX11, "power", "(I)I"⟩
abbrev cX11_least : ByteArray := prog_1_method_34_code
def yX11_least : MethodName := ⟨RX11, "least", "()I"⟩
abbrev cX11_seen : ByteArray := prog_1_method_35_code
def yX11_seen : MethodName := ⟨RX11, "seen", "(III)I"⟩
abbrev cX11_forget : ByteArray := prog_1_method_36_code
def yX11_forget : MethodName := ⟨RX11, "forget", "()I"⟩
abbrev cX11_guess : ByteArray := prog_1_method_37_code
def yX11_guess : MethodName := ⟨RX11, "guess", "()I"⟩
abbrev cX11_looks : ByteArray := prog_1_method_38_code
def yX11_looks : MethodName := ⟨RX11, "looks", "()I"⟩
abbrev cX11_heard : ByteArray := prog_1_method_39_code
def yX11_heard : MethodName := ⟨RX11, "heard", "(II)I"⟩
abbrev cX11_denies : ByteArray := prog_1_method_40_code
def yX11_denies : MethodName := ⟨RX11, "denies", "()I"⟩
abbrev cX11_fits : ByteArray := prog_1_method_41_code
def yX11_fits : MethodName := ⟨RX11, "fits", "()I"⟩
abbrev cX11_asks : ByteArray := prog_1_method_42_code
def yX11_asks : MethodName := ⟨RX11, "asks", "()I"⟩
abbrev cX11_odds : ByteArray := prog_1_method_43_code
def yX11_odds : MethodName := ⟨RX11, "odds", "(III)I"⟩
abbrev cX11_went : ByteArray := prog_1_method_44_code
def yX11_went : MethodName := ⟨RX11, "went", "(III)I"⟩
abbrev cX11_clears : ByteArray := prog_1_method_45_code
def yX11_clears : MethodName := ⟨RX11, "clears", "()I"⟩
abbrev cX11_scatters : ByteArray := prog_1_method_46_code
def yX11_scatters : MethodName := ⟨RX11, "scatters", "()I"⟩
abbrev cX11_tries : ByteArray := prog_1_method_47_code
def yX11_tries : MethodName := ⟨RX11, "tries", "()I"⟩
abbrev cX11_handfuls : ByteArray := prog_1_method_48_code
def yX11_handfuls : MethodName := ⟨RX11, "handfuls", "(I)I"⟩
abbrev cX11_other : ByteArray := prog_1_method_49_code
def yX11_other : MethodName := ⟨RX11, "other", "()I"⟩
abbrev cX11_grasps : ByteArray := prog_1_method_50_code
def yX11_grasps : MethodName := ⟨RX11, "grasps", "(I)I"⟩
abbrev cX11_years : ByteArray := prog_1_method_51_code
def yX11_years : MethodName := ⟨RX11, "years", "(II)I"⟩
abbrev cX11_keep : ByteArray := prog_1_method_52_code
def yX11_keep : MethodName := ⟨RX11, "keep", "(I)Z"⟩
abbrev cX11_again : ByteArray := prog_1_method_53_code
def yX11_again : MethodName := ⟨RX11, "again", "(I)Z"⟩
abbrev cX11_count : ByteArray := prog_1_method_54_code
def yX11_count : MethodName := ⟨RX11, "count", "(I)I"⟩
abbrev cX11_row : ByteArray := prog_1_method_55_code
def yX11_row : MethodName := ⟨RX11, "row", "(I)J"⟩
abbrev cX11_countKept : ByteArray := prog_1_method_56_code
def yX11_countKept : MethodName := ⟨RX11, "countKept", "(I)I"⟩
abbrev cX11_readLines : ByteArray := prog_1_method_57_code
def yX11_readLines : MethodName := ⟨RX11, "readLines", "(CCZ)I"⟩
abbrev cX11_noted : ByteArray := prog_1_method_58_code
def yX11_noted : MethodName := ⟨RX11, "noted", "(I)I"⟩
abbrev cX11_doAct : ByteArray := prog_1_method_59_code
def yX11_doAct : MethodName := ⟨RX11, "doAct", "(I)I"⟩
abbrev cX11_dreamOf : ByteArray := prog_1_method_60_code
def yX11_dreamOf : MethodName := ⟨RX11, "dreamOf", "(LConfettiMinutes$Rule;I)V"⟩
abbrev cX11_streetTold : ByteArray := prog_1_method_61_code
def yX11_streetTold : MethodName := ⟨RX11, "streetTold", "(II)I"⟩
abbrev cX11_waysOfLoss : ByteArray := prog_1_method_62_code
def yX11_waysOfLoss : MethodName := ⟨RX11, "waysOfLoss", "(III)I"⟩
abbrev cX11_winningHandful : ByteArray := prog_1_method_63_code
def yX11_winningHandful : MethodName := ⟨RX11, "winningHandful", "(I)I"⟩
abbrev cX11_handfulOutOf : ByteArray := prog_1_method_64_code
def yX11_handfulOutOf : MethodName := ⟨RX11, "handfulOutOf", "(IJ)I"⟩
abbrev cX11_isContent : ByteArray := prog_1_method_65_code
def yX11_isContent : MethodName := ⟨RX11, "isContent", "(III)Z"⟩
abbrev cX11_grasped : ByteArray := prog_1_method_66_code
def yX11_grasped : MethodName := ⟨RX11, "grasped", "(III)I"⟩
abbrev cX11_isWithin : ByteArray := prog_1_method_67_code
def yX11_isWithin : MethodName := ⟨RX11, "isWithin", "(III)Z"⟩
abbrev cX11_clamp : ByteArray := prog_1_method_68_code
def yX11_clamp : MethodName := ⟨RX11, "clamp", "(III)I"⟩
abbrev cX11_slotOf : ByteArray := prog_1_method_69_code
def yX11_slotOf : MethodName := ⟨RX11, "slotOf", "(II)I"⟩
def RX12 : String := "ConfettiMinutesModel"
def TX12 : u_T := fun k => match k with
  | 0 => ("ConfettiMinutesModel", "thrown", "I", false)
  | 1 => ("ConfettiMinutesModel", "told", "I", false)
  | 2 => ("ConfettiMinutesModel", "row", "[J", true)
  | 3 => ("ConfettiMinutesModel", "laws", "I", false)
  | 4 => ("ConfettiMinutesModel", "people", "I", false)
  | 5 => ("ConfettiMinutesModel", "changes", "I", false)
  | 6 => ("ConfettiMinutesModel", "size", "[I", true)
  | 7 => ("ConfettiMinutesModel", "now", "[I", true)
  | 8 => ("ConfettiMinutesModel", "then", "[I", true)
  | 9 => ("ConfettiMinutesModel", "tape", "[I", true)
  | 10 => ("ConfettiMinutesModel", "taped", "I", false)
  | 11 => ("ConfettiMinutesModel", "at", "I", false)
  | 12 => ("ConfettiMinutesModel", "to", "I", false)
  | 13 => ("ConfettiMinutesModel", "nest", "I", false)
  | 14 => ("ConfettiMinutesModel", "read", "[I", true)
  | 15 => ("ConfettiMinutesModel", "readMany", "I", false)
  | 16 => ("ConfettiMinutesModel", "code", "[I", true)
  | 17 => ("ConfettiMinutesModel", "readCode", "[I", true)
  | 18 => ("ConfettiMinutesModel", "codeLong", "I", false)
  | 19 => ("ConfettiMinutesModel", "codesRead", "I", false)
  | 20 => ("ConfettiMinutesModel", "stack", "[I", true)
  | 21 => ("ConfettiMinutesModel", "asked", "[I", true)
  | 22 => ("ConfettiMinutesModel", "undos", "I", false)
  | 23 => ("ConfettiMinutesModel", "undone", "[I", true)
  | 24 => ("ConfettiMinutesModel", "blownTo", "[I", true)
  | 25 => ("ConfettiMinutesModel", "actSign", "[I", true)
  | 26 => ("ConfettiMinutesModel", "actOne", "[I", true)
  | 27 => ("ConfettiMinutesModel", "actTwo", "[I", true)
  | 28 => ("ConfettiMinutesModel", "actThree", "[I", true)
  | 29 => ("ConfettiMinutesModel", "acts", "I", false)
  | 30 => ("ConfettiMinutesModel", "award", "[I", true)
  | 31 => ("ConfettiMinutesModel", "bestAward", "[I", true)
  | 32 => ("ConfettiMinutesModel", "bestSum", "I", false)
  | 33 => ("ConfettiMinutesModel", "seenMany", "I", false)
  | 34 => ("ConfettiMinutesModel", "seenBit", "[I", true)
  | 35 => ("ConfettiMinutesModel", "seenStreet", "[I", true)
  | 36 => ("ConfettiMinutesModel", "heardMany", "I", false)
  | 37 => ("ConfettiMinutesModel", "heardWhat", "[I", true)
  | 38 => ("ConfettiMinutesModel", "heardOf", "[I", true)
  | 39 => ("ConfettiMinutesModel", "wentMany", "I", false)
  | 40 => ("ConfettiMinutesModel", "wentWind", "[I", true)
  | 41 => ("ConfettiMinutesModel", "wentBit", "[I", true)
  | 42 => ("ConfettiMinutesModel", "wentFar", "[I", true)
  | 43 => ("ConfettiMinutesModel", "often", "[I", true)
  | 44 => ("ConfettiMinutesModel", "winning", "[I", true)
  | 45 => ("ConfettiMinutesModel", "wasCode", "[I", true)
  | 46 => ("ConfettiMinutesModel", "random", "I", false)
  | 47 => ("ConfettiMinutesModel", "isKept", "[Z", true)
  | 48 => ("ConfettiMinutesModel", "keptChanges", "[I", true)
  | _ => ("ConfettiMinutesModel", "kept", "[I", true)
def tyX12 : Nat → FieldType := fun k => match k with
  | 0 => .int
  | 1 => .int
  | 2 => .array .long
  | 3 => .int
  | 4 => .int
  | 5 => .int
  | 6 => .array .int
  | 7 => .array .int
  | 8 => .array .int
  | 9 => .array .int
  | 10 => .int
  | 11 => .int
  | 12 => .int
  | 13 => .int
  | 14 => .array .int
  | 15 => .int
  | 16 => .array .int
  | 17 => .array .int
  | 18 => .int
  | 19 => .int
  | 20 => .array .int
  | 21 => .array .int
  | 22 => .int
  | 23 => .array .int
  | 24 => .array .int
  | 25 => .array .int
  | 26 => .array .int
  | 27 => .array .int
  | 28 => .array .int
  | 29 => .int
  | 30 => .array .int
  | 31 => .array .int
  | 32 => .int
  | 33 => .int
  | 34 => .array .int
  | 35 => .array .int
  | 36 => .int
  | 37 => .array .int
  | 38 => .array .int
  | 39 => .int
  | 40 => .array .int
  | 41 => .array .int
  | 42 => .array .int
  | 43 => .array .int
  | 44 => .array .int
  | 45 => .array .int
  | 46 => .int
  | 47 => .array .boolean
  | 48 => .array .int
  | _ => .array .int
abbrev wsX120 : List Cond := u_ws RX12 TX12 50
theorem nmX12 : ∀ a, a < 50 → ∀ b, b < 50 → a ≠ b → (TX12 a).2.1 ≠ (TX12 b).2.1 := by decide +kernel
theorem tyX12_ok : ∀ k, k < 50 → parseFieldDescriptor (TX12 k).2.2.1 = some (tyX12 k) := by decide +kernel
abbrev cX12_thrown : ByteArray := prog_14_method_1_code
def yX12_thrown : MethodName := ⟨RX12, "thrown", "()I"⟩
abbrev cX12_refuse : ByteArray := prog_14_method_2_code
def yX12_refuse : MethodName := ⟨RX12, "refuse", "()I"⟩
abbrev cX12_in : ByteArray := prog_14_method_3_code
def yX12_in : MethodName := ⟨RX12, "in", "(JJJ)Z"⟩
abbrev cX12_has : ByteArray := prog_14_method_4_code
def yX12_has : MethodName := ⟨RX12, "has", "(II)Z"⟩
abbrev cX12_flag : ByteArray := prog_14_method_5_code
def yX12_flag : MethodName := ⟨RX12, "flag", "(Z)I"⟩
abbrev cX12_common : ByteArray := prog_14_method_6_code
def yX12_common : MethodName := ⟨RX12, "common", "(JJ)J"⟩
abbrev cX12_enters : ByteArray := prog_14_method_7_code
def yX12_enters : MethodName := ⟨RX12, "enters", "(J)V"⟩
abbrev cX12_entersFraction : ByteArray := prog_14_method_8_code
def yX12_entersFraction : MethodName := ⟨RX12, "entersFraction", "(JJ)I"⟩
abbrev cX12_init : ByteArray := prog_14_method_9_code
def yX12_init : MethodName := ⟨RX12, "<init>", "()V"⟩
abbrev cX12_isLaw : ByteArray := prog_14_method_10_code
def yX12_isLaw : MethodName := ⟨RX12, "isLaw", "(I)Z"⟩
abbrev cX12_isBit : ByteArray := prog_14_method_11_code
def yX12_isBit : MethodName := ⟨RX12, "isBit", "(II)Z"⟩
abbrev cX12_isOne : ByteArray := prog_14_method_12_code
def yX12_isOne : MethodName := ⟨RX12, "isOne", "(I)Z"⟩
abbrev cX12_all : ByteArray := prog_14_method_13_code
def yX12_all : MethodName := ⟨RX12, "all", "()I"⟩
abbrev cX12_lies : ByteArray := prog_14_method_14_code
def yX12_lies : MethodName := ⟨RX12, "lies", "([II)Z"⟩
abbrev cX12_isHeldBy : ByteArray := prog_14_method_15_code
def yX12_isHeldBy : MethodName := ⟨RX12, "isHeldBy", "([III)Z"⟩
abbrev cX12_heldOf : ByteArray := prog_14_method_16_code
def yX12_heldOf : MethodName := ⟨RX12, "heldOf", "([III)I"⟩
abbrev cX12_heldBy : ByteArray := prog_14_method_17_code
def yX12_heldBy : MethodName := ⟨RX12, "heldBy", "([II)I"⟩
abbrev cX12_heldMany : ByteArray := prog_14_method_18_code
def yX12_heldMany : MethodName := ⟨RX12, "heldMany", "([I)I"⟩
abbrev cX12_lieMany : ByteArray := prog_14_method_19_code
def yX12_lieMany : MethodName := ⟨RX12, "lieMany", "([I)I"⟩
abbrev cX12_hasRight : ByteArray := prog_14_method_20_code
def yX12_hasRight : MethodName := ⟨RX12, "hasRight", "([III)Z"⟩
abbrev cX12_rights : ByteArray := prog_14_method_21_code
def yX12_rights : MethodName := ⟨RX12, "rights", "([I)I"⟩
abbrev cX12_copies : ByteArray := prog_14_method_22_code
def yX12_copies : MethodName := ⟨RX12, "copies", "([I[I)V"⟩
abbrev cX12_sign : ByteArray := prog_14_method_23_code
def yX12_sign : MethodName := ⟨RX12, "sign", "(I)I"⟩
abbrev cX12_end : ByteArray := prog_14_method_24_code
def yX12_end : MethodName := ⟨RX12, "end", "(I)Z"⟩
abbrev cX12_begins : ByteArray := prog_14_method_25_code
def yX12_begins : MethodName := ⟨RX12, "begins", "(I)I"⟩
abbrev cX12_takes : ByteArray := prog_14_method_26_code
def yX12_takes : MethodName := ⟨RX12, "takes", "(I)Z"⟩
abbrev cX12_isDigit : ByteArray := prog_14_method_27_code
def yX12_isDigit : MethodName := ⟨RX12, "isDigit", "()Z"⟩
abbrev cX12_takesOf : ByteArray := prog_14_method_28_code
def yX12_takesOf : MethodName := ⟨RX12, "takesOf", "(Ljava/lang/String;)I"⟩
abbrev cX12_number : ByteArray := prog_14_method_29_code
def yX12_number : MethodName := ⟨RX12, "number", "(I)I"⟩
abbrev cX12_digitIn : ByteArray := prog_14_method_30_code
def yX12_digitIn : MethodName := ⟨RX12, "digitIn", "(II)I"⟩
abbrev cX12_faultOf : ByteArray := prog_14_method_31_code
def yX12_faultOf : MethodName := ⟨RX12, "faultOf", "(IIZ)I"⟩
abbrev cX12_readsLines : ByteArray := prog_14_method_32_code
def yX12_readsLines : MethodName := ⟨RX12, "readsLines", "(III)I"⟩
abbrev cX12_came : ByteArray := prog_14_method_33_code
def yX12_came : MethodName := ⟨RX12, "came", "()I"⟩
abbrev cX12_laws : ByteArray := prog_14_method_34_code
def yX12_laws : MethodName := ⟨RX12, "laws", "()I"⟩
abbrev cX12_people : ByteArray := prog_14_method_35_code
def yX12_people : MethodName := ⟨RX12, "people", "()I"⟩
abbrev cX12_codes : ByteArray := prog_14_method_36_code
def yX12_codes : MethodName := ⟨RX12, "codes", "(I)V"⟩
abbrev cX12_readsThing : ByteArray := prog_14_method_37_code
def yX12_readsThing : MethodName := ⟨RX12, "readsThing", "()Z"⟩
abbrev cX12_readsRank : ByteArray := prog_14_method_38_code
def yX12_readsRank : MethodName := ⟨RX12, "readsRank", "(I)Z"⟩
abbrev cX12_readsRule : ByteArray := prog_14_method_39_code
def yX12_readsRule : MethodName := ⟨RX12, "readsRule", "()I"⟩
abbrev cX12_laysCode : ByteArray := prog_14_method_40_code
def yX12_laysCode : MethodName := ⟨RX12, "laysCode", "([II)V"⟩
abbrev cX12_rule : ByteArray := prog_14_method_41_code
def yX12_rule : MethodName := ⟨RX12, "rule", "()I"⟩
abbrev cX12_worked : ByteArray := prog_14_method_42_code
def yX12_worked : MethodName := ⟨RX12, "worked", "(III)I"⟩
abbrev cX12_ruled : ByteArray := prog_14_method_43_code
def yX12_ruled : MethodName := ⟨RX12, "ruled", "()I"⟩
abbrev cX12_lyingIn : ByteArray := prog_14_method_44_code
def yX12_lyingIn : MethodName := ⟨RX12, "lyingIn", "([II)I"⟩
abbrev cX12_blown : ByteArray := prog_14_method_45_code
def yX12_blown : MethodName := ⟨RX12, "blown", "([III)I"⟩
abbrev cX12_ownerOf : ByteArray := prog_14_method_46_code
def yX12_ownerOf : MethodName := ⟨RX12, "ownerOf", "(I)I"⟩
abbrev cX12_law : ByteArray := prog_14_method_47_code
def yX12_law : MethodName := ⟨RX12, "law", "(II)I"⟩
abbrev cX12_bit : ByteArray := prog_14_method_48_code
def yX12_bit : MethodName := ⟨RX12, "bit", "(II)I"⟩
abbrev cX12_rightsOf : ByteArray := prog_14_method_49_code
def yX12_rightsOf : MethodName := ⟨RX12, "rightsOf", "(I)I"⟩
abbrev cX12_one : ByteArray := prog_14_method_50_code
def yX12_one : MethodName := ⟨RX12, "one", "(II)I"⟩
abbrev cX12_sheet : ByteArray := prog_14_method_51_code
def yX12_sheet : MethodName := ⟨RX12, "sheet", "(IIII)I"⟩
abbrev cX12_putsBy : ByteArray := prog_14_method_52_code
def yX12_putsBy : MethodName := ⟨RX12, "putsBy", "()V"⟩
abbrev cX12_adds : ByteArray := prog_14_method_53_code
def yX12_adds : MethodName := ⟨RX12, "adds", "(I)I"⟩
abbrev cX12_counted : ByteArray := prog_14_method_54_code
def yX12_counted : MethodName := ⟨RX12, "counted", "(I)I"⟩
abbrev cX12_undo : ByteArray := prog_14_method_55_code
def yX12_undo : MethodName := ⟨RX12, "undo", "()I"⟩
abbrev cX12_dayGoes : ByteArray := prog_14_method_56_code
def yX12_dayGoes : MethodName := ⟨RX12, "dayGoes", "([I)I"⟩
abbrev cX12_goesOn : ByteArray := prog_14_method_57_code
def yX12_goesOn : MethodName := ⟨RX12, "goesOn", "([II)I"⟩
abbrev cX12_carriesOne : ByteArray := prog_14_method_58_code
def yX12_carriesOne : MethodName := ⟨RX12, "carriesOne", "(I)I"⟩
abbrev cX12_fallsIn : ByteArray := prog_14_method_59_code
def yX12_fallsIn : MethodName := ⟨RX12, "fallsIn", "([III)V"⟩
abbrev cX12_flingsOne : ByteArray := prog_14_method_60_code
def yX12_flingsOne : MethodName := ⟨RX12, "flingsOne", "(II)I"⟩
abbrev cX12_sweepsOne : ByteArray := prog_14_method_61_code
def yX12_sweepsOne : MethodName := ⟨RX12, "sweepsOne", "(I)I"⟩
abbrev cX12_walksOne : ByteArray := prog_14_method_62_code
def yX12_walksOne : MethodName := ⟨RX12, "walksOne", "(II)I"⟩
abbrev cX12_goesFrom : ByteArray := prog_14_method_63_code
def yX12_goesFrom : MethodName := ⟨RX12, "goesFrom", "(IIII)I"⟩
abbrev cX12_givesAll : ByteArray := prog_14_method_64_code
def yX12_givesAll : MethodName := ⟨RX12, "givesAll", "(III)I"⟩
abbrev cX12_fallsFrom : ByteArray := prog_14_method_65_code
def yX12_fallsFrom : MethodName := ⟨RX12, "fallsFrom", "(I)I"⟩
abbrev cX12_windTo : ByteArray := prog_14_method_66_code
def yX12_windTo : MethodName := ⟨RX12, "windTo", "(I)I"⟩
abbrev cX12_carries : ByteArray := prog_14_method_67_code
def yX12_carries : MethodName := ⟨RX12, "carries", "(I)I"⟩
abbrev cX12_flings : ByteArray := prog_14_method_68_code
def yX12_flings : MethodName := ⟨RX12, "flings", "(II)I"⟩
abbrev cX12_sweeps : ByteArray := prog_14_method_69_code
def yX12_sweeps : MethodName := ⟨RX12, "sweeps", "(I)I"⟩
abbrev cX12_days : ByteArray := prog_14_method_70_code
def yX12_days : MethodName := ⟨RX12, "days", "(I)I"⟩
abbrev cX12_walks : ByteArray := prog_14_method_71_code
def yX12_walks : MethodName := ⟨RX12, "walks", "(II)I"⟩
abbrev cX12_gives : ByteArray := prog_14_method_72_code
def yX12_gives : MethodName := ⟨RX12, "gives", "(III)I"⟩
abbrev cX12_falls : ByteArray := prog_14_method_73_code
def yX12_falls : MethodName := ⟨RX12, "falls", "(I)I"⟩
abbrev cX12_wind : ByteArray := prog_14_method_74_code
def yX12_wind : MethodName := ⟨RX12, "wind", "(I)I"⟩
abbrev cX12_readsAct : ByteArray := prog_14_method_75_code
def yX12_readsAct : MethodName := ⟨RX12, "readsAct", "()Z"⟩
abbrev cX12_does : ByteArray := prog_14_method_76_code
def yX12_does : MethodName := ⟨RX12, "does", "(I)Z"⟩
abbrev cX12_wedding : ByteArray := prog_14_method_77_code
def yX12_wedding : MethodName := ⟨RX12, "wedding", "()I"⟩
abbrev cX12_later : ByteArray := prog_14_method_78_code
def yX12_later : MethodName := ⟨RX12, "later", "(III)I"⟩
abbrev cX12_when : ByteArray := prog_14_method_79_code
def yX12_when : MethodName := ⟨RX12, "when", "(II)I"⟩
abbrev cX12_clean : ByteArray := prog_14_method_80_code
def yX12_clean : MethodName := ⟨RX12, "clean", "()I"⟩
abbrev cX12_drifts : ByteArray := prog_14_method_81_code
def yX12_drifts : MethodName := ⟨RX12, "drifts", "(I)I"⟩
abbrev cX12_aims : ByteArray := prog_14_method_82_code
def yX12_aims : MethodName := ⟨RX12, "aims", "(III)I"⟩
abbrev cX12_heldWith : ByteArray := prog_14_method_83_code
def yX12_heldWith : MethodName := ⟨RX12, "heldWith", "(IIII)I"⟩
abbrev cX12_prays : ByteArray := prog_14_method_84_code
def yX12_prays : MethodName := ⟨RX12, "prays", "(II)I"⟩
abbrev cX12_seeks : ByteArray := prog_14_method_85_code
def yX12_seeks : MethodName := ⟨RX12, "seeks", "(II)I"⟩
abbrev cX12_whole : ByteArray := prog_14_method_86_code
def yX12_whole : MethodName := ⟨RX12, "whole", "(I)I"⟩
abbrev cX12_holdersOf : ByteArray := prog_14_method_87_code
def yX12_holdersOf : MethodName := ⟨RX12, "holdersOf", "(I)I"⟩
abbrev cX12_holdsOfAll : ByteArray := prog_14_method_88_code
def yX12_holdsOfAll : MethodName := ⟨RX12, "holdsOfAll", "(I)Z"⟩
abbrev cX12_quorum : ByteArray := prog_14_method_89_code
def yX12_quorum : MethodName := ⟨RX12, "quorum", "()I"⟩
abbrev cX12_awardsFrom : ByteArray := prog_14_method_90_code
def yX12_awardsFrom : MethodName := ⟨RX12, "awardsFrom", "(III)V"⟩
abbrev cX12_awards : ByteArray := prog_14_method_91_code
def yX12_awards : MethodName := ⟨RX12, "awards", "()I"⟩
abbrev cX12_needs : ByteArray := prog_14_method_92_code
def yX12_needs : MethodName := ⟨RX12, "needs", "(II)I"⟩
abbrev cX12_line : ByteArray := prog_14_method_93_code
def yX12_line : MethodName := ⟨RX12, "line", "()I"⟩
abbrev cX12_carriesIt : ByteArray := prog_14_method_94_code
def yX12_carriesIt : MethodName := ⟨RX12, "carriesIt", "(I)Z"⟩
abbrev cX12_power : ByteArray := prog_14_method_95_code
def yX12_power : MethodName := ⟨RX12, "power", "(I)I"⟩
abbrev cX12_least : ByteArray := prog_14_method_96_code
def yX12_least : MethodName := ⟨RX12, "least", "()I"⟩
abbrev cX12_seen : ByteArray := prog_14_method_97_code
def yX12_seen : MethodName := ⟨RX12, "seen", "(III)I"⟩
abbrev cX12_forget : ByteArray := prog_14_method_98_code
def yX12_forget : MethodName := ⟨RX12, "forget", "()I"⟩
abbrev cX12_winds : ByteArray := prog_14_method_99_code
def yX12_winds : MethodName := ⟨RX12, "winds", "()I"⟩
abbrev cX12_guess : ByteArray := prog_14_method_100_code
def yX12_guess : MethodName := ⟨RX12, "guess", "()I"⟩
abbrev cX12_looks : ByteArray := prog_14_method_101_code
def yX12_looks : MethodName := ⟨RX12, "looks", "()I"⟩
abbrev cX12_highest : ByteArray := prog_14_method_102_code
def yX12_highest : MethodName := ⟨RX12, "highest", "(I)I"⟩
abbrev cX12_heard : ByteArray := prog_14_method_103_code
def yX12_heard : MethodName := ⟨RX12, "heard", "(II)I"⟩
abbrev cX12_denies : ByteArray := prog_14_method_104_code
def yX12_denies : MethodName := ⟨RX12, "denies", "()I"⟩
abbrev cX12_isSo : ByteArray := prog_14_method_105_code
def yX12_isSo : MethodName := ⟨RX12, "isSo", "(III)Z"⟩
abbrev cX12_fitting : ByteArray := prog_14_method_106_code
def yX12_fitting : MethodName := ⟨RX12, "fitting", "()I"⟩
abbrev cX12_fits : ByteArray := prog_14_method_107_code
def yX12_fits : MethodName := ⟨RX12, "fits", "()I"⟩
abbrev cX12_asks : ByteArray := prog_14_method_108_code
def yX12_asks : MethodName := ⟨RX12, "asks", "()I"⟩
abbrev cX12_odds : ByteArray := prog_14_method_109_code
def yX12_odds : MethodName := ⟨RX12, "odds", "(III)I"⟩
abbrev cX12_went : ByteArray := prog_14_method_110_code
def yX12_went : MethodName := ⟨RX12, "went", "(III)I"⟩
abbrev cX12_clears : ByteArray := prog_14_method_111_code
def yX12_clears : MethodName := ⟨RX12, "clears", "()I"⟩
abbrev cX12_goesBy : ByteArray := prog_14_method_112_code
def yX12_goesBy : MethodName := ⟨RX12, "goesBy", "(III)I"⟩
abbrev cX12_isScatter : ByteArray := prog_14_method_113_code
def yX12_isScatter : MethodName := ⟨RX12, "isScatter", "(I)Z"⟩
abbrev cX12_scatters : ByteArray := prog_14_method_114_code
def yX12_scatters : MethodName := ⟨RX12, "scatters", "()I"⟩
abbrev cX12_tries : ByteArray := prog_14_method_115_code
def yX12_tries : MethodName := ⟨RX12, "tries", "()I"⟩
abbrev cX12_handfuls : ByteArray := prog_14_method_116_code
def yX12_handfuls : MethodName := ⟨RX12, "handfuls", "(I)I"⟩
abbrev cX12_other : ByteArray := prog_14_method_117_code
def yX12_other : MethodName := ⟨RX12, "other", "()I"⟩
abbrev cX12_gets : ByteArray := prog_14_method_118_code
def yX12_gets : MethodName := ⟨RX12, "gets", "(III)I"⟩
abbrev cX12_isRest : ByteArray := prog_14_method_119_code
def yX12_isRest : MethodName := ⟨RX12, "isRest", "(III)Z"⟩
abbrev cX12_grasps : ByteArray := prog_14_method_120_code
def yX12_grasps : MethodName := ⟨RX12, "grasps", "(I)I"⟩
abbrev cX12_draws : ByteArray := prog_14_method_121_code
def yX12_draws : MethodName := ⟨RX12, "draws", "(I)I"⟩
abbrev cX12_years : ByteArray := prog_14_method_122_code
def yX12_years : MethodName := ⟨RX12, "years", "(II)I"⟩
abbrev cX12_keep : ByteArray := prog_14_method_123_code
def yX12_keep : MethodName := ⟨RX12, "keep", "(I)Z"⟩
abbrev cX12_again : ByteArray := prog_14_method_124_code
def yX12_again : MethodName := ⟨RX12, "again", "(I)Z"⟩
abbrev cX12_count : ByteArray := prog_14_method_125_code
def yX12_count : MethodName := ⟨RX12, "count", "(I)I"⟩
abbrev cX12_row : ByteArray := prog_14_method_126_code
def yX12_row : MethodName := ⟨RX12, "row", "(I)J"⟩
def RJx145de : String := "java/io/Serializable"
def TJx145de : u_T := fun k => match k with
  | _ => ("", "", "", false)
def tyJx145de : Nat → FieldType := fun k => match k with
  | _ => .int
abbrev wsJx145de0 : List Cond := u_ws RJx145de TJx145de 0
theorem nmJx145de : ∀ a, a < 0 → ∀ b, b < 0 → a ≠ b → (TJx145de a).2.1 ≠ (TJx145de b).2.1 := by decide +kernel
theorem tyJx145de_ok : ∀ k, k < 0 → parseFieldDescriptor (TJx145de k).2.2.1 = some (tyJx145de k) := by decide +kernel
def RJx9f9b0 : String := "java/lang/CharSequence"
def TJx9f9b0 : u_T := fun k => match k with
  | _ => ("", "", "", false)
def tyJx9f9b0 : Nat → FieldType := fun k => match k with
  | _ => .int
abbrev wsJx9f9b00 : List Cond := u_ws RJx9f9b0 TJx9f9b0 0
theorem nmJx9f9b0 : ∀ a, a < 0 → ∀ b, b < 0 → a ≠ b → (TJx9f9b0 a).2.1 ≠ (TJx9f9b0 b).2.1 := by decide +kernel
theorem tyJx9f9b0_ok : ∀ k, k < 0 → parseFieldDescriptor (TJx9f9b0 k).2.2.1 = some (tyJx9f9b0 k) := by decide +kernel
def RJ11 : String := "java/lang/Character"
def TJ11 : u_T := fun k => match k with
  | _ => ("", "", "", false)
def tyJ11 : Nat → FieldType := fun k => match k with
  | _ => .int
abbrev wsJ110 : List Cond := u_ws RJ11 TJ11 0
theorem nmJ11 : ∀ a, a < 0 → ∀ b, b < 0 → a ≠ b → (TJ11 a).2.1 ≠ (TJ11 b).2.1 := by decide +kernel
theorem tyJ11_ok : ∀ k, k < 0 → parseFieldDescriptor (TJ11 k).2.2.1 = some (tyJ11 k) := by decide +kernel
abbrev cJ11_isValidCodePoint_9a6ad : ByteArray := prog_17_method_11_code
def yJ11_isValidCodePoint_9a6ad : MethodName := ⟨RJ11, "isValidCodePoint", "(I)Z"⟩
abbrev cJ11_highSurrogate_5068e : ByteArray := prog_17_method_28_code
def yJ11_highSurrogate_5068e : MethodName := ⟨RJ11, "highSurrogate", "(I)C"⟩
abbrev cJ11_lowSurrogate_5068e : ByteArray := prog_17_method_29_code
def yJ11_lowSurrogate_5068e : MethodName := ⟨RJ11, "lowSurrogate", "(I)C"⟩
def RJxb160c : String := "java/lang/Comparable"
def TJxb160c : u_T := fun k => match k with
  | _ => ("", "", "", false)
def tyJxb160c : Nat → FieldType := fun k => match k with
  | _ => .int
abbrev wsJxb160c0 : List Cond := u_ws RJxb160c TJxb160c 0
theorem nmJxb160c : ∀ a, a < 0 → ∀ b, b < 0 → a ≠ b → (TJxb160c a).2.1 ≠ (TJxb160c b).2.1 := by decide +kernel
theorem tyJxb160c_ok : ∀ k, k < 0 → parseFieldDescriptor (TJxb160c k).2.2.1 = some (tyJxb160c k) := by decide +kernel
def RJ6 : String := "java/lang/Integer"
def TJ6 : u_T := fun k => match k with
  | _ => ("", "", "", false)
def tyJ6 : Nat → FieldType := fun k => match k with
  | _ => .int
abbrev wsJ60 : List Cond := u_ws RJ6 TJ6 0
theorem nmJ6 : ∀ a, a < 0 → ∀ b, b < 0 → a ≠ b → (TJ6 a).2.1 ≠ (TJ6 b).2.1 := by decide +kernel
theorem tyJ6_ok : ∀ k, k < 0 → parseFieldDescriptor (TJ6 k).2.2.1 = some (tyJ6 k) := by decide +kernel
abbrev cJ6_bitCount_0f7a4 : ByteArray := prog_20_method_49_code
def yJ6_bitCount_0f7a4 : MethodName := ⟨RJ6, "bitCount", "(I)I"⟩
def RJ9 : String := "java/lang/Math"
def TJ9 : u_T := fun k => match k with
  | _ => ("", "", "", false)
def tyJ9 : Nat → FieldType := fun k => match k with
  | _ => .int
abbrev wsJ90 : List Cond := u_ws RJ9 TJ9 0
theorem nmJ9 : ∀ a, a < 0 → ∀ b, b < 0 → a ≠ b → (TJ9 a).2.1 ≠ (TJ9 b).2.1 := by decide +kernel
theorem tyJ9_ok : ∀ k, k < 0 → parseFieldDescriptor (TJ9 k).2.2.1 = some (tyJ9 k) := by decide +kernel
abbrev cJ9_abs_0f7a4 : ByteArray := prog_21_method_59_code
def yJ9_abs_0f7a4 : MethodName := ⟨RJ9, "abs", "(I)I"⟩
abbrev cJ9_max_7cf53 : ByteArray := prog_21_method_65_code
def yJ9_max_7cf53 : MethodName := ⟨RJ9, "max", "(II)I"⟩
abbrev cJ9_min_7cf53 : ByteArray := prog_21_method_69_code
def yJ9_min_7cf53 : MethodName := ⟨RJ9, "min", "(II)I"⟩
def RJ0 : String := "java/lang/String"
def TJ0 : u_T := fun k => match k with
  | _ => ("", "", "", false)
def tyJ0 : Nat → FieldType := fun k => match k with
  | _ => .int
abbrev wsJ00 : List Cond := u_ws RJ0 TJ0 0
theorem nmJ0 : ∀ a, a < 0 → ∀ b, b < 0 → a ≠ b → (TJ0 a).2.1 ≠ (TJ0 b).2.1 := by decide +kernel
theorem tyJ0_ok : ∀ k, k < 0 → parseFieldDescriptor (TJ0 k).2.2.1 = some (tyJ0 k) := by decide +kernel
abbrev cJ0_length_8abf5 : ByteArray := prog_23_method_54_code
def yJ0_length_8abf5 : MethodName := ⟨RJ0, "length", "()I"⟩
abbrev cJ0_isEmpty_aae02 : ByteArray := prog_23_method_55_code
def yJ0_isEmpty_aae02 : MethodName := ⟨RJ0, "isEmpty", "()Z"⟩
abbrev cJ0_charAt_5068e : ByteArray := prog_23_method_56_code
def yJ0_charAt_5068e : MethodName := ⟨RJ0, "charAt", "(I)C"⟩
abbrev cJ0_indexOf_0f7a4 : ByteArray := prog_23_method_79_code
def yJ0_indexOf_0f7a4 : MethodName := ⟨RJ0, "indexOf", "(I)I"⟩
abbrev cJ0_indexOf_7cf53 : ByteArray := prog_23_method_80_code
def yJ0_indexOf_7cf53 : MethodName := ⟨RJ0, "indexOf", "(II)I"⟩
abbrev cJ0_coder_7d493 : ByteArray := prog_23_method_152_code
def yJ0_coder_7d493 : MethodName := ⟨RJ0, "coder", "()B"⟩
abbrev cJ0_isLatin1_aae02 : ByteArray := prog_23_method_154_code
def yJ0_isLatin1_aae02 : MethodName := ⟨RJ0, "isLatin1", "()Z"⟩
abbrev cJ0_checkIndex_df160 : ByteArray := prog_23_method_155_code
def yJ0_checkIndex_df160 : MethodName := ⟨RJ0, "checkIndex", "(II)V"⟩
abbrev cJ0_checkBoundsBeginEnd_23922 : ByteArray := prog_23_method_158_code
def yJ0_checkBoundsBeginEnd_23922 : MethodName := ⟨RJ0, "checkBoundsBeginEnd", "(III)V"⟩
def RJ1 : String := "java/lang/StringLatin1"
def TJ1 : u_T := fun k => match k with
  | _ => ("", "", "", false)
def tyJ1 : Nat → FieldType := fun k => match k with
  | _ => .int
abbrev wsJ10 : List Cond := u_ws RJ1 TJ1 0
theorem nmJ1 : ∀ a, a < 0 → ∀ b, b < 0 → a ≠ b → (TJ1 a).2.1 ≠ (TJ1 b).2.1 := by decide +kernel
theorem tyJ1_ok : ∀ k, k < 0 → parseFieldDescriptor (TJ1 k).2.2.1 = some (tyJ1 k) := by decide +kernel
abbrev cJ1_charAt_3b067 : ByteArray := prog_24_method_2_code
def yJ1_charAt_3b067 : MethodName := ⟨RJ1, "charAt", "([BI)C"⟩
abbrev cJ1_canEncode_9a6ad : ByteArray := prog_24_method_4_code
def yJ1_canEncode_9a6ad : MethodName := ⟨RJ1, "canEncode", "(I)Z"⟩
abbrev cJ1_indexOf_4cfef : ByteArray := prog_24_method_22_code
def yJ1_indexOf_4cfef : MethodName := ⟨RJ1, "indexOf", "([BIII)I"⟩
abbrev cJ1_indexOfChar_4cfef : ByteArray := prog_24_method_23_code
def yJ1_indexOfChar_4cfef : MethodName := ⟨RJ1, "indexOfChar", "([BIII)I"⟩
def RJ2 : String := "java/lang/StringUTF16"
def TJ2 : u_T := fun k => match k with
  | _ => ("", "", "", false)
def tyJ2 : Nat → FieldType := fun k => match k with
  | _ => .int
abbrev wsJ20 : List Cond := u_ws RJ2 TJ2 0
theorem nmJ2 : ∀ a, a < 0 → ∀ b, b < 0 → a ≠ b → (TJ2 a).2.1 ≠ (TJ2 b).2.1 := by decide +kernel
theorem tyJ2_ok : ∀ k, k < 0 → parseFieldDescriptor (TJ2 k).2.2.1 = some (tyJ2 k) := by decide +kernel
abbrev cJ2_getChar_3b067 : ByteArray := prog_25_method_5_code
def yJ2_getChar_3b067 : MethodName := ⟨RJ2, "getChar", "([BI)C"⟩
abbrev cJ2_length_9d52b : ByteArray := prog_25_method_6_code
def yJ2_length_9d52b : MethodName := ⟨RJ2, "length", "([B)I"⟩
abbrev cJ2_indexOf_4cfef : ByteArray := prog_25_method_40_code
def yJ2_indexOf_4cfef : MethodName := ⟨RJ2, "indexOf", "([BIII)I"⟩
abbrev cJ2_indexOfChar_4cfef : ByteArray := prog_25_method_47_code
def yJ2_indexOfChar_4cfef : MethodName := ⟨RJ2, "indexOfChar", "([BIII)I"⟩
abbrev cJ2_indexOfCharUnsafe_4cfef : ByteArray := prog_25_method_48_code
def yJ2_indexOfCharUnsafe_4cfef : MethodName := ⟨RJ2, "indexOfCharUnsafe", "([BIII)I"⟩
abbrev cJ2_indexOfSupplementary_4cfef : ByteArray := prog_25_method_49_code
def yJ2_indexOfSupplementary_4cfef : MethodName := ⟨RJ2, "indexOfSupplementary", "([BIII)I"⟩
abbrev cJ2_charAt_3b067 : ByteArray := prog_25_method_83_code
def yJ2_charAt_3b067 : MethodName := ⟨RJ2, "charAt", "([BI)C"⟩
abbrev cJ2_checkIndex_2214a : ByteArray := prog_25_method_91_code
def yJ2_checkIndex_2214a : MethodName := ⟨RJ2, "checkIndex", "(I[B)V"⟩
abbrev cJ2_checkBoundsBeginEnd_d044e : ByteArray := prog_25_method_93_code
def yJ2_checkBoundsBeginEnd_d044e : MethodName := ⟨RJ2, "checkBoundsBeginEnd", "(II[B)V"⟩
def RJ10 : String := "java/lang/System"
def TJ10 : u_T := fun k => match k with
  | _ => ("", "", "", false)
def tyJ10 : Nat → FieldType := fun k => match k with
  | _ => .int
abbrev wsJ100 : List Cond := u_ws RJ10 TJ10 0
theorem nmJ10 : ∀ a, a < 0 → ∀ b, b < 0 → a ≠ b → (TJ10 a).2.1 ≠ (TJ10 b).2.1 := by decide +kernel
theorem tyJ10_ok : ∀ k, k < 0 → parseFieldDescriptor (TJ10 k).2.2.1 = some (tyJ10 k) := by decide +kernel
def RJxfd54e : String := "java/lang/constant/Constable"
def TJxfd54e : u_T := fun k => match k with
  | _ => ("", "", "", false)
def tyJxfd54e : Nat → FieldType := fun k => match k with
  | _ => .int
abbrev wsJxfd54e0 : List Cond := u_ws RJxfd54e TJxfd54e 0
theorem nmJxfd54e : ∀ a, a < 0 → ∀ b, b < 0 → a ≠ b → (TJxfd54e a).2.1 ≠ (TJxfd54e b).2.1 := by decide +kernel
theorem tyJxfd54e_ok : ∀ k, k < 0 → parseFieldDescriptor (TJxfd54e k).2.2.1 = some (tyJxfd54e k) := by decide +kernel
def RJx3cf43 : String := "java/lang/constant/ConstantDesc"
def TJx3cf43 : u_T := fun k => match k with
  | _ => ("", "", "", false)
def tyJx3cf43 : Nat → FieldType := fun k => match k with
  | _ => .int
abbrev wsJx3cf430 : List Cond := u_ws RJx3cf43 TJx3cf43 0
theorem nmJx3cf43 : ∀ a, a < 0 → ∀ b, b < 0 → a ≠ b → (TJx3cf43 a).2.1 ≠ (TJx3cf43 b).2.1 := by decide +kernel
theorem tyJx3cf43_ok : ∀ k, k < 0 → parseFieldDescriptor (TJx3cf43 k).2.2.1 = some (tyJx3cf43 k) := by decide +kernel
def RJ3 : String := "jdk/internal/util/Preconditions"
def TJ3 : u_T := fun k => match k with
  | _ => ("", "", "", false)
def tyJ3 : Nat → FieldType := fun k => match k with
  | _ => .int
abbrev wsJ30 : List Cond := u_ws RJ3 TJ3 0
theorem nmJ3 : ∀ a, a < 0 → ∀ b, b < 0 → a ≠ b → (TJ3 a).2.1 ≠ (TJ3 b).2.1 := by decide +kernel
theorem tyJ3_ok : ∀ k, k < 0 → parseFieldDescriptor (TJ3 k).2.2.1 = some (tyJ3 k) := by decide +kernel
abbrev cJ3_checkIndex_8e157 : ByteArray := prog_31_method_11_code
def yJ3_checkIndex_8e157 : MethodName := ⟨RJ3, "checkIndex", "(IILjava/util/function/BiFunction;)I"⟩
abbrev cJ3_checkFromToIndex_8c36e : ByteArray := prog_31_method_12_code
def yJ3_checkFromToIndex_8c36e : MethodName := ⟨RJ3, "checkFromToIndex", "(IIILjava/util/function/BiFunction;)I"⟩
def RL : String := "ConfettiMinutesLaw"
abbrev cL_law : ByteArray := method_3_code
def yL_law : MethodName := ⟨RL, "law", "(LConfettiMinutes;II[J)I"⟩
abbrev cL_bit : ByteArray := method_4_code
def yL_bit : MethodName := ⟨RL, "bit", "(LConfettiMinutes;II[J)I"⟩
abbrev cL_one : ByteArray := method_5_code
def yL_one : MethodName := ⟨RL, "one", "(LConfettiMinutes;II[J)I"⟩
abbrev cL_row : ByteArray := method_6_code
def yL_row : MethodName := ⟨RL, "row", "(LConfettiMinutes;I[J)I"⟩
abbrev cL_law_ : ByteArray := code
def yL_law_ : MethodName := ⟨RL, "law", "([I)Z"⟩
abbrev vwCl : List vw_C := [(RX0, TX0, 1), (RX1, TX1, 1), (RX2, TX2, 3), (RX3, TX3, 5), (RX4, TX4, 2), (RX5, TX5, 10), (RX6, TX6, 2), (RX7, TX7, 4), (RX8, TX8, 2), (RX9, TX9, 9), (RX10, TX10, 3), (RX11, TX11, 13), (RX12, TX12, 50)]
end
section
/-- the links of nest mates, by their rows of the tables -/
def ze_nF : List (String × Nat × String × String × String × String) := [("ConfettiMinutes$Shares", 21, "ConfettiMinutes$Town", "lawCount", "I", "ConfettiMinutes"), ("ConfettiMinutes", 379, "ConfettiMinutes$Town", "lawCount", "I", "ConfettiMinutes"), ("ConfettiMinutes$Weather", 22, "ConfettiMinutes$Town", "peopleCount", "I", "ConfettiMinutes"), ("ConfettiMinutes$Hearsay", 24, "ConfettiMinutes$Town", "peopleCount", "I", "ConfettiMinutes"), ("ConfettiMinutes$Shares", 34, "ConfettiMinutes$Town", "peopleCount", "I", "ConfettiMinutes"), ("ConfettiMinutes", 160, "ConfettiMinutes$Town", "peopleCount", "I", "ConfettiMinutes"), ("ConfettiMinutes", 121, "ConfettiMinutes$Town", "carried", "I", "ConfettiMinutes"), ("ConfettiMinutes", 125, "ConfettiMinutes$Town", "flung", "I", "ConfettiMinutes"), ("ConfettiMinutes$Weather", 45, "ConfettiMinutes$Town", "wind", "I", "ConfettiMinutes"), ("ConfettiMinutes", 257, "ConfettiMinutes$Town", "wind", "I", "ConfettiMinutes"), ("ConfettiMinutes$Weather", 32, "ConfettiMinutes$Town", "day", "I", "ConfettiMinutes"), ("ConfettiMinutes$Rule", 86, "ConfettiMinutes$Town", "day", "I", "ConfettiMinutes"), ("ConfettiMinutes", 382, "ConfettiMinutes$Town", "day", "I", "ConfettiMinutes"), ("ConfettiMinutes", 308, "ConfettiMinutes$Sights", "ledger", "LConfettiMinutes$Ledger;", "ConfettiMinutes"), ("ConfettiMinutes", 337, "ConfettiMinutes$Hearsay", "ledger", "LConfettiMinutes$Ledger;", "ConfettiMinutes"), ("ConfettiMinutes", 347, "ConfettiMinutes$Flights", "ledger", "LConfettiMinutes$Ledger;", "ConfettiMinutes")]
def ze_nM : List (String × Nat × MethodName × String) := [("ConfettiMinutes", 9, ⟨"ConfettiMinutes$Script", "<init>", "()V"⟩, "ConfettiMinutes"), ("ConfettiMinutes", 18, ⟨"ConfettiMinutes$Row", "<init>", "()V"⟩, "ConfettiMinutes"), ("ConfettiMinutes", 45, ⟨"ConfettiMinutes$Weather", "<init>", "()V"⟩, "ConfettiMinutes"), ("ConfettiMinutes", 52, ⟨"ConfettiMinutes$Shares", "<init>", "()V"⟩, "ConfettiMinutes"), ("ConfettiMinutes", 59, ⟨"ConfettiMinutes$Sights", "<init>", "()V"⟩, "ConfettiMinutes"), ("ConfettiMinutes", 66, ⟨"ConfettiMinutes$Hearsay", "<init>", "()V"⟩, "ConfettiMinutes"), ("ConfettiMinutes", 73, ⟨"ConfettiMinutes$Flights", "<init>", "()V"⟩, "ConfettiMinutes"), ("ConfettiMinutes", 80, ⟨"ConfettiMinutes$Rule", "<init>", "()V"⟩, "ConfettiMinutes"), ("ConfettiMinutes$Town", 88, ⟨"ConfettiMinutes", "isWithin", "(III)Z"⟩, "ConfettiMinutes"), ("ConfettiMinutes$Town", 63, ⟨"ConfettiMinutes", "slotOf", "(II)I"⟩, "ConfettiMinutes"), ("ConfettiMinutes$Rule", 75, ⟨"ConfettiMinutes", "clamp", "(III)I"⟩, "ConfettiMinutes"), ("ConfettiMinutes$Weather", 65, ⟨"ConfettiMinutes", "clamp", "(III)I"⟩, "ConfettiMinutes"), ("ConfettiMinutes$Shares", 71, ⟨"ConfettiMinutes", "isWithin", "(III)Z"⟩, "ConfettiMinutes"), ("ConfettiMinutes$Sights", 42, ⟨"ConfettiMinutes", "slotOf", "(II)I"⟩, "ConfettiMinutes"), ("ConfettiMinutes$Hearsay", 20, ⟨"ConfettiMinutes", "isWithin", "(III)Z"⟩, "ConfettiMinutes"), ("ConfettiMinutes$Past", 36, ⟨"ConfettiMinutes", "isWithin", "(III)Z"⟩, "ConfettiMinutes")]
def ze_nest : List Cond := ze_nF.map (fun q => .fieldLinkNest q.1 q.2.1 q.2.2.1 q.2.2.2.1 q.2.2.2.2.1 q.2.2.2.2.2) ++ ze_nM.map (fun q => .methodLinkNest q.1 q.2.1 q.2.2.1 q.2.2.2)
def ze_arr : List (Nat × FieldType) := [(100, .int), (101, .char), (104, .boolean), (150, .long), (209, .object "ConfettiMinutes$Town")]
def ze_ka : List Nat := [100, 101, 104, 150, 209]
def ze_rk : List Nat := [9]
def ze_ao : List String := ["ConfettiMinutes$Town"]
/-- the words that every method may use -/
def zb_T : List Cond := lw_tbl.filter goodWord
theorem zb_good : ∀ w ∈ zb_T, w ∈ lw_tbl ∧ goodWord w = true := fun _ h => List.mem_filter.mp h
theorem zb_in {w : Cond} (h : w ∈ lw_tbl) (g : goodWord w = true) : w ∈ zb_T := List.mem_filter.mpr ⟨h, g⟩
end
section
/-! links: by the class whose rows name them -/
def zn_ : List String := ["ConfettiMinutes$Flights", "ConfettiMinutes$Hearsay", "ConfettiMinutes$Ledger", "ConfettiMinutes$Past", "ConfettiMinutes$Row", "ConfettiMinutes$Rule", "ConfettiMinutes$Script", "ConfettiMinutes$Shares", "ConfettiMinutes$Sights", "ConfettiMinutes$Town", "ConfettiMinutes$Weather", "ConfettiMinutes", "ConfettiMinutesModel", "java/lang/Integer", "java/lang/Math", "ConfettiMinutesLaw"]
def zn (o : Nat) : String := zn_.getD o ""
set_option maxRecDepth 100000 in
def zl_f : List (List (Nat × Nat × Nat)) := [[(12, 0, 0)],
  [(24, 9, 4)],
  [(25, 2, 2), (21, 2, 1), (11, 2, 0)],
  [(13, 3, 0), (17, 3, 1), (21, 3, 3), (25, 3, 2), (40, 3, 4)],
  [(13, 4, 1), (9, 4, 0)],
  [(40, 5, 9), (31, 5, 6)],
  [(15, 6, 1), (11, 6, 0)],
  [(21, 9, 3), (9, 7, 0), (34, 9, 4), (18, 7, 2), (15, 7, 1), (82, 7, 3)],
  [(14, 8, 0)],
  [(18, 9, 2), (9, 9, 0), (15, 9, 1), (31, 9, 3), (34, 9, 4), (37, 9, 5), (40, 9, 6), (21, 9, 7), (43, 9, 8)],
  [(22, 9, 4), (32, 9, 8), (9, 10, 0), (15, 10, 1), (45, 9, 7), (35, 10, 2)],
  [(10, 11, 0), (85, 11, 12), (81, 11, 11), (26, 11, 2), (121, 9, 5), (125, 9, 6), (160, 9, 4), (30, 11, 3), (46, 11, 6), (19, 11, 1), (39, 11, 5), (33, 11, 4), (257, 9, 7), (53, 11, 7), (60, 11, 8), (308, 8, 0), (67, 11, 9), (337, 1, 0), (74, 11, 10), (347, 0, 0), (379, 9, 3), (382, 9, 8)],
  [(11, 12, 2), (15, 12, 1), (32, 12, 7), (120, 12, 3), (28, 12, 6), (131, 12, 4), (157, 12, 10), (38, 12, 9), (160, 12, 11), (172, 12, 12), (197, 12, 15), (41, 12, 14), (210, 12, 22), (213, 12, 5), (44, 12, 16), (47, 12, 17), (223, 12, 19), (56, 12, 23), (59, 12, 24), (370, 12, 29), (35, 12, 8), (404, 12, 32), (77, 12, 31), (74, 12, 30), (418, 12, 33), (80, 12, 34), (83, 12, 35), (428, 12, 36), (86, 12, 37), (89, 12, 38), (442, 12, 39), (92, 12, 40), (95, 12, 41), (98, 12, 42), (101, 12, 43), (104, 12, 44), (251, 12, 18), (107, 12, 45), (459, 12, 46), (110, 12, 47), (114, 12, 48), (117, 12, 49)],
  [],
  [],
  []]
set_option maxRecDepth 100000 in
def zl_p : List (List (Nat × Nat × Nat × Nat × Nat)) := [[(12, 0, 0, 2, 1)],
  [(14, 1, 0, 2, 1)],
  [(11, 2, 0, 2, 1), (21, 2, 1, 0, 1), (25, 2, 2, 0, 0)],
  [(13, 3, 0, 2, 1), (17, 3, 1, 2, 1), (25, 3, 2, 0, 0), (21, 3, 3, 0, 0), (40, 3, 4, 0, 0)],
  [(9, 4, 0, 2, 1), (13, 4, 1, 0, 0)],
  [(11, 5, 0, 2, 1), (15, 5, 1, 2, 1), (18, 5, 2, 2, 1), (21, 5, 3, 2, 1), (24, 5, 4, 0, 0), (28, 5, 5, 0, 0), (31, 5, 6, 0, 0), (34, 5, 7, 0, 0), (37, 5, 8, 0, 0), (40, 5, 9, 1, 0)],
  [(11, 6, 0, 2, 1), (15, 6, 1, 0, 0)],
  [(9, 7, 0, 2, 1), (15, 7, 1, 2, 1), (18, 7, 2, 2, 1), (82, 7, 3, 0, 0)],
  [(14, 8, 0, 2, 1), (20, 8, 1, 2, 1)],
  [(9, 9, 0, 2, 1), (15, 9, 1, 2, 1), (18, 9, 2, 2, 1), (21, 9, 7, 0, 0), (31, 9, 3, 0, 0), (34, 9, 4, 0, 0), (37, 9, 5, 0, 0), (40, 9, 6, 0, 0), (43, 9, 8, 0, 0)],
  [(9, 10, 0, 2, 1), (15, 10, 1, 2, 1), (32, 9, 8, 0, 0), (35, 10, 2, 0, 0), (45, 9, 7, 0, 0)],
  [(10, 11, 0, 2, 1), (19, 11, 1, 2, 1), (26, 11, 2, 2, 1), (30, 11, 3, 2, 1), (33, 11, 4, 2, 1), (39, 11, 5, 2, 1), (46, 11, 6, 2, 1), (53, 11, 7, 2, 1), (60, 11, 8, 2, 1), (67, 11, 9, 2, 1), (74, 11, 10, 2, 1), (81, 11, 11, 2, 0), (85, 11, 12, 2, 0), (257, 9, 7, 0, 0)],
  [(15, 12, 1, 0, 0), (11, 12, 2, 2, 1), (28, 12, 6, 2, 1), (32, 12, 7, 2, 1), (35, 12, 8, 2, 1), (38, 12, 9, 2, 1), (41, 12, 14, 2, 1), (44, 12, 16, 2, 1), (47, 12, 17, 2, 1), (50, 12, 20, 2, 1), (53, 12, 21, 2, 1), (56, 12, 23, 2, 1), (59, 12, 24, 2, 1), (62, 12, 25, 2, 1), (65, 12, 26, 2, 1), (68, 12, 27, 2, 1), (71, 12, 28, 2, 1), (74, 12, 30, 2, 1), (77, 12, 31, 2, 1), (80, 12, 34, 2, 1), (83, 12, 35, 2, 1), (86, 12, 37, 2, 1), (89, 12, 38, 2, 1), (92, 12, 40, 2, 1), (95, 12, 41, 2, 1), (98, 12, 42, 2, 1), (101, 12, 43, 2, 1), (104, 12, 44, 2, 1), (107, 12, 45, 2, 1), (110, 12, 47, 2, 1), (114, 12, 48, 2, 1), (117, 12, 49, 2, 1), (3, 12, 0, 0, 0), (157, 12, 10, 0, 0), (160, 12, 11, 0, 0), (163, 12, 13, 0, 0), (172, 12, 12, 0, 0), (197, 12, 15, 0, 0), (210, 12, 22, 0, 0), (213, 12, 5, 0, 0), (120, 12, 3, 0, 0), (131, 12, 4, 0, 0), (223, 12, 19, 0, 0), (251, 12, 18, 0, 0), (370, 12, 29, 0, 0), (404, 12, 32, 0, 0), (418, 12, 33, 0, 0), (428, 12, 36, 0, 0), (442, 12, 39, 0, 0), (459, 12, 46, 0, 0)],
  [],
  [],
  []]
set_option maxRecDepth 100000 in
def zl_n : List (List (Nat × Nat × List Nat)) := [[(7, 2, [2, 0, 0])],
  [(9, 2, [2, 0, 0])],
  [],
  [(11, 9, [2, 2, 2, 0, 0, 0, 0, 0, 0])],
  [],
  [],
  [],
  [],
  [(9, 2, [2, 0, 0])],
  [],
  [],
  [(7, 6, [2, 0]), (16, 4, [2, 0]), (23, 9, [2, 2, 2, 0, 0, 0, 0, 0, 0]), (36, 3, [2, 2, 0, 0, 0]), (43, 10, [2, 2, 0]), (50, 7, [2, 2, 2, 0]), (57, 8, [2, 2]), (64, 1, [2]), (71, 0, [2]), (78, 5, [2, 2, 2, 2, 0, 0, 0, 0, 0, 1])],
  [],
  [],
  [],
  [(8, 11, [2, 2, 2, 2, 2, 2, 2, 2, 2, 2, 2, 2, 2]), (26, 12, [0, 0, 2, 0, 0, 0, 2, 2, 2, 2, 0, 0, 0, 0, 2, 0, 2, 2, 0, 0, 2, 2, 0, 2, 2, 2, 2, 2, 2, 0, 2, 2, 0, 0, 2, 2, 0, 2, 2, 0, 2, 2, 2, 2, 2, 2, 0, 2, 2, 2])]]
set_option maxRecDepth 100000 in
def zl_a : List (List (Nat × Nat)) := [[],
  [],
  [],
  [(11, 209)],
  [],
  [],
  [],
  [],
  [],
  [],
  [],
  [],
  [],
  [],
  [],
  []]
set_option maxRecDepth 100000 in
def zl_k : List (List (Nat × Nat)) := [[],
  [],
  [],
  [],
  [],
  [],
  [],
  [],
  [],
  [],
  [(84, 1103515245)],
  [],
  [(424, 1000000), (462, 1103515245)],
  [(265, 1431655765), (266, 858993459), (267, 252645135)],
  [],
  []]
set_option maxRecDepth 100000 in
def zl_kl : List (List (Nat × Nat)) := [[],
  [],
  [],
  [],
  [],
  [],
  [],
  [],
  [],
  [],
  [],
  [],
  [(300, 3), (317, 7), (278, 10), (280, 19), (330, 18446744073709551613), (347, 60), (390, 30), (438, 18446744073709551596), (440, 20), (454, 18), (295, 2)],
  [],
  [],
  []]
set_option maxRecDepth 100000 in
def zl_v : List (List (Nat × Nat × Nat × Nat × List Nat)) := [[(25, 6, 2, 1, [0, 0]), (29, 15, 1, 3, [0, 0]), (33, 17, 3, 3, [0, 0])],
  [(30, 11, 3, 2, [0, 0])],
  [],
  [(28, 24, 2, 4, [0, 0]), (32, 81, 2, 10, [0, 0])],
  [(17, 31, 1, 5, [0, 0]), (20, 32, 2, 5, [0, 0])],
  [(50, 56, 2, 7, [0, 0]), (56, 41, 2, 6, [0, 0]), (60, 42, 2, 6, [0, 0]), (63, 45, 2, 6, [0, 0])],
  [(19, 56, 2, 7, [0, 0])],
  [(27, 100, 2, 10, [0, 0]), (31, 103, 2, 10, [0, 0]), (37, 66, 2, 8, [0, 0]), (46, 69, 5, 8, [0, 0]), (56, 31, 1, 5, [0, 0]), (61, 70, 3, 8, [0, 0]), (64, 32, 2, 5, [0, 0]), (75, 101, 2, 10, [0, 0]), (78, 97, 1, 10, [0, 0]), (89, 75, 2, 8, [0, 0])],
  [(24, 121, 2, 11, [0, 0]), (30, 78, 5, 9, [0, 0]), (34, 15, 1, 3, [0, 0]), (38, 17, 3, 3, [0, 0]), (45, 94, 2, 10, [0, 0]), (51, 122, 5, 11, [0, 0])],
  [(46, 84, 2, 10, [0, 0]), (50, 89, 2, 10, [0, 0]), (54, 91, 2, 10, [0, 0]), (57, 94, 2, 10, [0, 0]), (60, 95, 2, 10, [0, 0]), (67, 98, 2, 10, [0, 0]), (70, 102, 3, 10, [0, 0]), (77, 105, 2, 10, [0, 0]), (80, 87, 2, 10, [0, 0]), (92, 88, 2, 10, [0, 0]), (95, 110, 3, 10, [0, 0]), (105, 100, 2, 10, [0, 0]), (99, 111, 3, 10, [0, 0]), (108, 85, 2, 10, [0, 0]), (111, 90, 2, 10, [0, 0]), (119, 92, 3, 10, [0, 0]), (102, 93, 3, 10, [0, 0])],
  [(18, 123, 3, 11, [0, 0]), (28, 117, 2, 10, [0, 0]), (38, 124, 2, 11, [0, 0]), (41, 119, 4, 11, [0, 0]), (48, 92, 3, 10, [0, 0]), (52, 91, 2, 10, [0, 0]), (69, 121, 2, 11, [0, 0]), (73, 94, 2, 10, [0, 0]), (77, 122, 5, 11, [0, 0]), (81, 93, 3, 10, [0, 0])],
  [(88, 53, 2, 7, [0, 0]), (92, 54, 2, 7, [0, 0]), (96, 181, 4, 12, [0, 0]), (100, 55, 1, 7, [0, 0]), (104, 37, 3, 6, [0, 0]), (108, 84, 2, 10, [0, 0]), (118, 89, 2, 10, [0, 0]), (128, 99, 2, 10, [0, 0]), (131, 100, 2, 10, [0, 0]), (134, 105, 2, 10, [0, 0]), (137, 86, 3, 10, [0, 0]), (145, 91, 2, 10, [0, 0]), (148, 85, 2, 10, [0, 0]), (151, 90, 2, 10, [0, 0]), (154, 106, 2, 10, [0, 0]), (157, 101, 2, 10, [0, 0]), (166, 92, 3, 10, [0, 0]), (170, 81, 2, 10, [0, 0]), (174, 108, 2, 10, [0, 0]), (177, 182, 2, 12, [0, 0]), (180, 109, 3, 10, [0, 0]), (183, 112, 2, 10, [0, 0]), (186, 119, 4, 11, [0, 0]), (190, 96, 1, 10, [0, 0]), (193, 107, 1, 10, [0, 0]), (196, 34, 3, 5, [0, 0]), (200, 113, 3, 10, [0, 0]), (203, 114, 4, 10, [0, 0]), (207, 115, 2, 10, [0, 0]), (210, 116, 2, 10, [0, 0]), (213, 59, 2, 7, [0, 0]), (216, 60, 2, 7, [0, 0]), (219, 183, 2, 12, [0, 0]), (222, 22, 2, 4, [0, 0]), (225, 97, 1, 10, [0, 0]), (228, 23, 2, 4, [0, 0]), (232, 184, 3, 12, [0, 0]), (236, 104, 3, 10, [0, 0]), (239, 102, 3, 10, [0, 0]), (242, 33, 2, 5, [0, 0]), (245, 98, 2, 10, [0, 0]), (248, 32, 2, 5, [0, 0]), (251, 88, 2, 10, [0, 0]), (254, 110, 3, 10, [0, 0]), (265, 103, 2, 10, [0, 0]), (273, 65, 2, 8, [0, 0]), (276, 64, 2, 8, [0, 0]), (279, 67, 2, 8, [0, 0]), (282, 68, 3, 8, [0, 0]), (289, 31, 1, 5, [0, 0]), (292, 71, 3, 8, [0, 0]), (296, 73, 3, 8, [0, 0]), (299, 35, 3, 5, [0, 0]), (302, 72, 2, 8, [0, 0]), (305, 74, 2, 8, [0, 0]), (312, 18, 1, 3, [0, 0]), (318, 94, 2, 10, [0, 0]), (321, 16, 4, 3, [0, 0]), (323, 19, 1, 3, [0, 0]), (326, 77, 4, 9, [0, 0]), (330, 79, 6, 9, [0, 0]), (338, 10, 2, 2, [0, 0]), (348, 5, 1, 1, [0, 0]), (368, 120, 5, 11, [0, 0]), (372, 25, 3, 4, [0, 0]), (376, 26, 3, 4, [0, 0]), (385, 180, 2, 12, [0, 0]), (388, 29, 1, 5, [0, 0]), (391, 30, 2, 5, [0, 0]), (395, 15, 1, 3, [0, 0]), (396, 21, 1, 4, [0, 0]), (397, 52, 1, 7, [0, 0]), (400, 58, 5, 7, [0, 0]), (404, 57, 2, 7, [0, 0]), (407, 82, 2, 10, [0, 0]), (411, 83, 2, 10, [0, 0]), (414, 27, 1, 4, [0, 0])],
  [(127, 203, 2, 13, [0, 0]), (154, 213, 4, 13, [0, 0]), (193, 218, 2, 13, [0, 0]), (200, 223, 3, 13, [0, 0]), (203, 219, 2, 13, [0, 0]), (206, 224, 4, 13, [0, 0]), (216, 225, 4, 13, [0, 0]), (220, 226, 1, 13, [0, 0]), (242, 231, 2, 13, [0, 0]), (254, 232, 1, 13, [0, 0]), (257, 233, 3, 13, [0, 0]), (302, 246, 2, 13, [0, 0]), (305, 238, 4, 13, [0, 0]), (308, 249, 2, 13, [0, 0]), (319, 252, 4, 13, [0, 0]), (292, 205, 2, 13, [0, 0]), (326, 256, 5, 13, [0, 0]), (332, 245, 1, 13, [0, 0]), (335, 251, 2, 13, [0, 0]), (338, 247, 2, 13, [0, 0]), (341, 253, 3, 13, [0, 0]), (344, 254, 2, 13, [0, 0]), (349, 250, 3, 13, [0, 0]), (18, 200, 2, 13, [0, 0]), (355, 214, 2, 13, [0, 0]), (358, 255, 3, 13, [0, 0]), (361, 257, 4, 13, [0, 0]), (364, 258, 2, 13, [0, 0]), (367, 259, 2, 13, [0, 0]), (377, 268, 1, 13, [0, 0]), (380, 269, 2, 13, [0, 0]), (383, 211, 2, 13, [0, 0]), (289, 204, 3, 13, [0, 0]), (392, 276, 5, 13, [0, 0]), (395, 280, 2, 13, [0, 0]), (398, 206, 1, 13, [0, 0]), (401, 281, 2, 13, [0, 0]), (407, 283, 4, 13, [0, 0]), (411, 287, 2, 13, [0, 0]), (414, 201, 3, 13, [0, 0]), (421, 292, 1, 13, [0, 0]), (431, 298, 4, 13, [0, 0]), (435, 299, 1, 13, [0, 0]), (448, 306, 2, 13, [0, 0]), (463, 314, 2, 13, [0, 0])],
  [],
  [],
  [(7, 131, 3, 12, [0, 0]), (15, 132, 3, 12, [0, 0]), (18, 133, 3, 12, [0, 0]), (21, 179, 2, 12, [0, 0]), (29, 126, 2, 12, [0, 0]), (33, 216, 2, 13, [0, 0]), (34, 127, 2, 12, [0, 0]), (38, 217, 2, 13, [0, 0]), (39, 128, 1, 12, [0, 0]), (43, 227, 1, 13, [0, 0]), (44, 129, 1, 12, [0, 0]), (47, 228, 1, 13, [0, 0]), (48, 130, 1, 12, [0, 0]), (51, 234, 1, 13, [0, 0]), (57, 240, 3, 13, [0, 0]), (58, 194, 1, 13, [0, 0]), (63, 241, 3, 13, [0, 0]), (66, 243, 3, 13, [0, 0]), (67, 134, 5, 12, [0, 0]), (71, 244, 5, 13, [0, 0]), (72, 135, 2, 12, [0, 0]), (75, 260, 2, 13, [0, 0]), (76, 136, 3, 12, [0, 0]), (79, 261, 3, 13, [0, 0]), (80, 137, 2, 12, [0, 0]), (83, 262, 2, 13, [0, 0]), (84, 138, 2, 12, [0, 0]), (87, 263, 2, 13, [0, 0]), (88, 139, 3, 12, [0, 0]), (91, 264, 3, 13, [0, 0]), (92, 140, 4, 12, [0, 0]), (96, 265, 4, 13, [0, 0]), (97, 141, 2, 12, [0, 0]), (100, 266, 2, 13, [0, 0]), (101, 142, 2, 12, [0, 0]), (104, 267, 2, 13, [0, 0]), (105, 143, 1, 12, [0, 0]), (108, 270, 1, 13, [0, 0]), (109, 144, 1, 12, [0, 0]), (112, 248, 1, 13, [0, 0]), (113, 145, 4, 12, [0, 0]), (116, 271, 4, 13, [0, 0]), (117, 146, 3, 12, [0, 0]), (120, 272, 3, 13, [0, 0]), (121, 147, 1, 12, [0, 0]), (124, 273, 1, 13, [0, 0]), (125, 148, 2, 12, [0, 0]), (128, 274, 2, 13, [0, 0]), (129, 149, 4, 12, [0, 0]), (132, 275, 4, 13, [0, 0]), (133, 150, 3, 12, [0, 0]), (136, 277, 3, 13, [0, 0]), (137, 151, 3, 12, [0, 0]), (140, 278, 3, 13, [0, 0]), (141, 152, 2, 12, [0, 0]), (144, 279, 2, 13, [0, 0]), (145, 153, 1, 12, [0, 0]), (148, 282, 1, 13, [0, 0]), (149, 154, 1, 12, [0, 0]), (152, 284, 1, 13, [0, 0]), (153, 155, 3, 12, [0, 0]), (156, 285, 3, 13, [0, 0]), (157, 156, 1, 12, [0, 0]), (160, 286, 1, 13, [0, 0]), (161, 157, 2, 12, [0, 0]), (164, 288, 2, 13, [0, 0]), (165, 158, 1, 12, [0, 0]), (168, 289, 1, 13, [0, 0]), (169, 159, 4, 12, [0, 0]), (172, 290, 4, 13, [0, 0]), (173, 160, 1, 12, [0, 0]), (176, 291, 1, 13, [0, 0]), (177, 161, 1, 12, [0, 0]), (180, 293, 1, 13, [0, 0]), (181, 162, 1, 12, [0, 0]), (184, 294, 1, 13, [0, 0]), (185, 163, 3, 12, [0, 0]), (188, 296, 3, 13, [0, 0]), (189, 164, 1, 12, [0, 0]), (192, 297, 1, 13, [0, 0]), (193, 165, 1, 12, [0, 0]), (196, 300, 1, 13, [0, 0]), (197, 166, 1, 12, [0, 0]), (200, 301, 1, 13, [0, 0]), (201, 167, 4, 12, [0, 0]), (204, 302, 4, 13, [0, 0]), (205, 168, 4, 12, [0, 0]), (208, 303, 4, 13, [0, 0]), (209, 169, 1, 12, [0, 0]), (212, 304, 1, 13, [0, 0]), (213, 170, 1, 12, [0, 0]), (216, 307, 1, 13, [0, 0]), (217, 171, 1, 12, [0, 0]), (220, 308, 1, 13, [0, 0]), (221, 172, 2, 12, [0, 0]), (224, 309, 2, 13, [0, 0]), (225, 173, 1, 12, [0, 0]), (228, 310, 1, 13, [0, 0]), (229, 174, 2, 12, [0, 0]), (232, 313, 2, 13, [0, 0]), (233, 175, 3, 12, [0, 0]), (236, 315, 3, 13, [0, 0]), (237, 176, 2, 12, [0, 0]), (240, 316, 2, 13, [0, 0]), (241, 177, 2, 12, [0, 0]), (244, 317, 2, 13, [0, 0]), (245, 178, 2, 12, [0, 0]), (248, 318, 2, 13, [0, 0]), (252, 319, 2, 13, [0, 0])]]
set_option maxRecDepth 100000 in
def zl_s : List (List (Nat × Nat × Nat × Nat × List Nat)) := [[(18, 1, 1, 0, [0, 0]), (22, 2, 1, 0, [0, 0]), (37, 4, 3, 0, [0, 0]), (41, 325, 2, 0, [0, 0])],
  [(20, 191, 3, 0, [0, 0])],
  [(15, 326, 2, 0, [0, 0])],
  [(36, 191, 3, 0, [0, 0])],
  [],
  [(44, 326, 2, 0, [0, 0])],
  [(23, 326, 2, 0, [0, 0]), (39, 62, 2, 0, [0, 0]), (43, 61, 1, 0, [0, 0])],
  [(41, 323, 1, 0, [0, 0]), (50, 325, 2, 0, [0, 0])],
  [(42, 193, 2, 0, [0, 0])],
  [(83, 323, 1, 0, [0, 0]), (88, 191, 3, 0, [0, 0]), (114, 324, 1, 0, [0, 0]), (63, 193, 2, 0, [0, 0])],
  [],
  [(111, 191, 3, 0, [0, 0]), (141, 193, 2, 0, [0, 0]), (163, 185, 2, 0, [0, 0]), (260, 324, 1, 0, [0, 0]), (268, 323, 1, 0, [0, 0]), (286, 325, 2, 0, [0, 0]), (334, 9, 2, 0, [0, 0]), (341, 13, 4, 0, [0, 0]), (344, 186, 3, 0, [0, 0]), (351, 3, 1, 0, [0, 0]), (354, 1, 1, 0, [0, 0]), (357, 2, 1, 0, [0, 0]), (360, 7, 3, 0, [0, 0]), (362, 187, 1, 0, [0, 0]), (365, 189, 3, 0, [0, 0]), (423, 188, 2, 0, [0, 0]), (427, 190, 3, 0, [0, 0])],
  [(123, 196, 3, 0, [0, 0]), (146, 210, 2, 0, [0, 0]), (150, 207, 2, 0, [0, 0]), (138, 198, 1, 0, [0, 0]), (166, 326, 2, 0, [0, 0]), (270, 325, 2, 0, [0, 0]), (282, 197, 2, 0, [0, 0]), (312, 323, 1, 0, [0, 0]), (323, 324, 1, 0, [0, 0]), (352, 212, 1, 0, [0, 0]), (386, 215, 2, 0, [0, 0]), (142, 209, 3, 0, [0, 0]), (264, 237, 2, 0, [0, 0]), (425, 295, 1, 0, [0, 0]), (445, 305, 3, 0, [0, 0]), (451, 311, 3, 0, [0, 0]), (456, 312, 3, 0, [0, 0])],
  [],
  [],
  [(52, 351, 4, 0, [0, 0]), (61, 352, 4, 0, [0, 0]), (64, 353, 4, 0, [0, 0]), (249, 354, 3, 0, [0, 0])]]
set_option maxRecDepth 100000 in
def zl_i : List (List (Nat × Nat × Nat × Nat × List Nat)) := [[(9, 14, 2, 0, [1, 36])],
  [(11, 14, 2, 0, [1, 36])],
  [],
  [(20, 80, 1, 0, [3, 30])],
  [],
  [],
  [],
  [],
  [(11, 14, 2, 0, [1, 36])],
  [],
  [],
  [(9, 51, 1, 0, [1, 80]), (18, 28, 1, 0, [1, 12]), (25, 80, 1, 0, [3, 30]), (38, 20, 1, 0, [74, 720]), (45, 118, 1, 0, [2, 28]), (52, 63, 1, 0, [3, 202]), (59, 76, 1, 0, [3, 47]), (66, 8, 1, 0, [2, 39]), (73, 0, 1, 0, [2, 39]), (80, 36, 1, 0, [4, 127])],
  [],
  [],
  [],
  [(25, 125, 1, 0, [118, 1578]), (28, 202, 1, 0, [31, 1502])]]
set_option maxRecDepth 100000 in
def zl_o : List (List (Nat)) := [[1],
  [3],
  [3],
  [3],
  [1],
  [3],
  [3],
  [3],
  [3],
  [3],
  [3],
  [1],
  [22],
  [],
  [],
  []]
set_option maxRecDepth 100000 in
def zl_y : List (List (Nat)) := [[],
  [],
  [],
  [],
  [],
  [],
  [],
  [],
  [],
  [25],
  [],
  [],
  [],
  [],
  [],
  []]
/-- methods: name, code, locals, answer, own class, cells, slots -/
abbrev ZMt : Type := MethodName × ByteArray × Nat × Option FieldType × Nat × Nat × Nat
def zm_0 : List (Option ZMt) := [some (yX0_init, cX0_init, 1, none, 0, 2, 39), some (yX0_timesWind, cX0_timesWind, 1, (some .int), 0, 0, 0), some (yX0_timesNumber, cX0_timesNumber, 1, (some .int), 0, 0, 0), some (yX0_firstOf, cX0_firstOf, 2, (some .int), 0, 0, 0), some (yX0_wayBy, cX0_wayBy, 3, (some .int), 0, 0, 0), some (yX0_lawsLeft, cX0_lawsLeft, 3, (some .int), 0, 0, 0), some (yX0_suits, cX0_suits, 3, (some .boolean), 0, 0, 0), some (yX0_mostLeft, cX0_mostLeft, 8, (some .int), 0, 0, 0), some (yX1_init, cX1_init, 1, none, 1, 2, 39), some (yX1_isTalk, cX1_isTalk, 2, (some .boolean), 1, 0, 0), some (yX1_peopleLeft, cX1_peopleLeft, 4, (some .int), 1, 0, 0), none, none, none, some (yX2_init, cX2_init, 2, none, 2, 1, 36), some (yX2_size, cX2_size, 1, (some .int), 2, 0, 0)]
def zm_1 : List (Option ZMt) := [some (yX2_add, cX2_add, 5, (some .int), 2, 0, 0), none, none, some (yX2_empty, cX2_empty, 2, (some .int), 2, 0, 0), some (yX3_init, cX3_init, 2, none, 3, 74, 720), some (yX3_size, cX3_size, 1, (some .int), 3, 0, 0), some (yX3_push, cX3_push, 3, none, 3, 0, 0), some (yX3_pop, cX3_pop, 3, (some .int), 3, 0, 0), some (yX3_deedAt, cX3_deedAt, 3, (some (.object "ConfettiMinutes$Town")), 3, 0, 0), some (yX3_store, cX3_store, 3, (some .boolean), 3, 0, 0), some (yX3_bringBack, cX3_bringBack, 3, (some .boolean), 3, 0, 0), none, some (yX4_init, cX4_init, 1, none, 4, 1, 12), some (yX4_size, cX4_size, 1, (some .int), 4, 0, 0), none, some (yX4_clear, cX4_clear, 1, none, 4, 0, 0)]
def zm_2 : List (Option ZMt) := [some (yX4_add, cX4_add, 3, none, 4, 0, 0), some (yX4_tell, cX4_tell, 3, none, 4, 0, 0), some (yX4_tell_, cX4_tell_, 5, none, 4, 0, 0), none, some (yX5_init, cX5_init, 1, none, 5, 4, 127), some (yX5_read, cX5_read, 6, (some .int), 5, 0, 0), none, none, none, none, none, none, none, none, none, none]
def zm_3 : List (Option ZMt) := [none, none, none, some (yX6_init, cX6_init, 1, none, 6, 1, 80), some (yX6_length, cX6_length, 1, (some .int), 6, 0, 0), some (yX6_append, cX6_append, 3, (some .int), 6, 0, 0), some (yX6_cut, cX6_cut, 2, (some .boolean), 6, 0, 0), some (yX6_take, cX6_take, 2, (some .int), 6, 0, 0), none, none, none, some (yX6_faultOfWedding, cX6_faultOfWedding, 6, (some .int), 6, 0, 0), none, none, none, some (yX7_init, cX7_init, 1, none, 7, 3, 202)]
def zm_4 : List (Option ZMt) := [some (yX7_lawsHeld, cX7_lawsHeld, 4, (some .int), 7, 0, 0), some (yX7_hittingSet, cX7_hittingSet, 5, (some .int), 7, 0, 0), some (yX7_hitsAll, cX7_hitsAll, 3, (some .boolean), 7, 0, 0), some (yX7_weighAwards, cX7_weighAwards, 6, (some .int), 7, 0, 0), some (yX7_tellAwards, cX7_tellAwards, 6, none, 7, 0, 0), none, none, none, some (yX7_weigh, cX7_weigh, 3, none, 7, 0, 0), none, some (yX7_isLeast, cX7_isLeast, 3, (some .boolean), 7, 0, 0), some (yX7_prevails, cX7_prevails, 4, (some .boolean), 7, 0, 0), some (yX8_init, cX8_init, 1, none, 8, 3, 47), some (yX8_windsLeft, cX8_windsLeft, 6, (some .int), 8, 0, 0), some (yX8_suits, cX8_suits, 7, (some .boolean), 8, 0, 0), none]
def zm_5 : List (Option ZMt) := [some (yX9_init, cX9_init, 2, none, 9, 3, 30), some (yX9_become, cX9_become, 2, none, 9, 0, 0), none, none, some (yX9_hasLaw, cX9_hasLaw, 2, (some .boolean), 9, 0, 0), some (yX9_hasOne, cX9_hasOne, 2, (some .boolean), 9, 0, 0), some (yX9_hasBit, cX9_hasBit, 3, (some .boolean), 9, 0, 0), none, none, none, none, some (yX9_placeOf, cX9_placeOf, 2, (some .int), 9, 0, 0), none, some (yX9_lay, cX9_lay, 3, none, 9, 0, 0), some (yX9_lies, cX9_lies, 2, (some .boolean), 9, 0, 0), some (yX9_isHeld, cX9_isHeld, 3, (some .boolean), 9, 0, 0)]
def zm_6 : List (Option ZMt) := [some (yX9_lyingCount, cX9_lyingCount, 3, (some .int), 9, 0, 0), some (yX9_heldCount, cX9_heldCount, 3, (some .int), 9, 0, 0), some (yX9_bitsAt, cX9_bitsAt, 4, (some .int), 9, 0, 0), none, none, some (yX9_heldBy, cX9_heldBy, 2, (some .int), 9, 0, 0), none, some (yX9_holdersOf, cX9_holdersOf, 4, (some .int), 9, 0, 0), none, none, none, some (yX9_rightCount, cX9_rightCount, 3, (some .int), 9, 0, 0), some (yX9_carry, cX9_carry, 2, (some .int), 9, 0, 0), some (yX9_fling, cX9_fling, 3, (some .int), 9, 0, 0), none, none]
def zm_7 : List (Option ZMt) := [some (yX9_sweep, cX9_sweep, 3, (some .int), 9, 0, 0), some (yX9_walk, cX9_walk, 4, (some .int), 9, 0, 0), some (yX9_give, cX9_give, 7, (some .int), 9, 0, 0), some (yX9_letFall, cX9_letFall, 4, (some .int), 9, 0, 0), some (yX9_turnWind, cX9_turnWind, 3, (some .int), 9, 0, 0), none, some (yX10_init, cX10_init, 1, none, 10, 2, 28), some (yX10_passDays, cX10_passDays, 7, (some .int), 10, 0, 0), some (yX10_passYears, cX10_passYears, 9, (some .int), 10, 0, 0), some (yX10_countCrowd, cX10_countCrowd, 4, none, 10, 0, 0), none, some (yX10_blow, cX10_blow, 4, none, 10, 0, 0), some (yX10_draw, cX10_draw, 2, (some .int), 10, 0, 0), some (yX11_init, cX11_init, 1, none, 11, 118, 1578), some (yX11_sign, cX11_sign, 2, (some .int), 11, 0, 0), some (yX11_end, cX11_end, 2, (some .boolean), 11, 0, 0)]
def zm_8 : List (Option ZMt) := [some (yX11_laws, cX11_laws, 1, (some .int), 11, 0, 0), some (yX11_people, cX11_people, 1, (some .int), 11, 0, 0), some (yX11_rule, cX11_rule, 3, (some .int), 11, 0, 0), some (yX11_law, cX11_law, 3, (some .int), 11, 0, 0), some (yX11_bit, cX11_bit, 3, (some .int), 11, 0, 0), some (yX11_one, cX11_one, 3, (some .int), 11, 0, 0), some (yX11_sheet, cX11_sheet, 9, (some .int), 11, 0, 0), some (yX11_carries, cX11_carries, 2, (some .int), 11, 0, 0), some (yX11_flings, cX11_flings, 3, (some .int), 11, 0, 0), some (yX11_sweeps, cX11_sweeps, 2, (some .int), 11, 0, 0), some (yX11_days, cX11_days, 3, (some .int), 11, 0, 0), some (yX11_walks, cX11_walks, 3, (some .int), 11, 0, 0), some (yX11_gives, cX11_gives, 4, (some .int), 11, 0, 0), some (yX11_falls, cX11_falls, 2, (some .int), 11, 0, 0), some (yX11_wind, cX11_wind, 2, (some .int), 11, 0, 0), some (yX11_wedding, cX11_wedding, 7, (some .int), 11, 0, 0)]
def zm_9 : List (Option ZMt) := [some (yX11_undo, cX11_undo, 1, (some .int), 11, 0, 0), some (yX11_later, cX11_later, 4, (some .int), 11, 0, 0), some (yX11_when, cX11_when, 4, (some .int), 11, 0, 0), some (yX11_clean, cX11_clean, 2, (some .int), 11, 0, 0), some (yX11_drifts, cX11_drifts, 4, (some .int), 11, 0, 0), some (yX11_aims, cX11_aims, 7, (some .int), 11, 0, 0), some (yX11_prays, cX11_prays, 8, (some .int), 11, 0, 0), some (yX11_seeks, cX11_seeks, 9, (some .int), 11, 0, 0), some (yX11_whole, cX11_whole, 3, (some .int), 11, 0, 0), some (yX11_quorum, cX11_quorum, 2, (some .int), 11, 0, 0), some (yX11_awards, cX11_awards, 2, (some .int), 11, 0, 0), some (yX11_needs, cX11_needs, 5, (some .int), 11, 0, 0), some (yX11_line, cX11_line, 4, (some .int), 11, 0, 0), some (yX11_power, cX11_power, 3, (some .int), 11, 0, 0), some (yX11_least, cX11_least, 3, (some .int), 11, 0, 0), some (yX11_seen, cX11_seen, 4, (some .int), 11, 0, 0)]
def zm_10 : List (Option ZMt) := [some (yX11_forget, cX11_forget, 1, (some .int), 11, 0, 0), some (yX11_guess, cX11_guess, 2, (some .int), 11, 0, 0), some (yX11_looks, cX11_looks, 6, (some .int), 11, 0, 0), some (yX11_heard, cX11_heard, 3, (some .int), 11, 0, 0), some (yX11_denies, cX11_denies, 1, (some .int), 11, 0, 0), some (yX11_fits, cX11_fits, 2, (some .int), 11, 0, 0), some (yX11_asks, cX11_asks, 8, (some .int), 11, 0, 0), some (yX11_odds, cX11_odds, 8, (some .int), 11, 0, 0), some (yX11_went, cX11_went, 5, (some .int), 11, 0, 0), some (yX11_clears, cX11_clears, 1, (some .int), 11, 0, 0), some (yX11_scatters, cX11_scatters, 3, (some .int), 11, 0, 0), some (yX11_tries, cX11_tries, 7, (some .int), 11, 0, 0), some (yX11_handfuls, cX11_handfuls, 2, (some .int), 11, 0, 0), some (yX11_other, cX11_other, 5, (some .int), 11, 0, 0), some (yX11_grasps, cX11_grasps, 5, (some .int), 11, 0, 0), some (yX11_years, cX11_years, 4, (some .int), 11, 0, 0)]
def zm_11 : List (Option ZMt) := [some (yX11_keep, cX11_keep, 2, (some .boolean), 11, 0, 0), some (yX11_again, cX11_again, 2, (some .boolean), 11, 0, 0), some (yX11_count, cX11_count, 2, (some .int), 11, 0, 0), some (yX11_row, cX11_row, 2, (some .long), 11, 0, 0), some (yX11_countKept, cX11_countKept, 2, (some .int), 11, 0, 0), some (yX11_readLines, cX11_readLines, 7, (some .int), 11, 0, 0), some (yX11_noted, cX11_noted, 2, (some .int), 11, 0, 0), none, some (yX11_dreamOf, cX11_dreamOf, 3, none, 11, 0, 0), none, none, some (yX11_winningHandful, cX11_winningHandful, 5, (some .int), 11, 0, 0), some (yX11_handfulOutOf, cX11_handfulOutOf, 4, (some .int), 11, 0, 0), some (yX11_isContent, cX11_isContent, 4, (some .boolean), 11, 0, 0), some (yX11_grasped, cX11_grasped, 3, (some .int), 11, 0, 0), some (yX11_isWithin, cX11_isWithin, 3, (some .boolean), 11, 0, 0)]
def zm_12 : List (Option ZMt) := [none, none, none, none, some (yX12_in, cX12_in, 6, (some .boolean), 12, 0, 0), some (yX12_has, cX12_has, 2, (some .boolean), 12, 0, 0), some (yX12_flag, cX12_flag, 1, (some .int), 12, 0, 0), none, some (yX12_enters, cX12_enters, 3, none, 12, 0, 0), none, some (yX12_init, cX12_init, 2, none, 12, 31, 1502), some (yX12_isLaw, cX12_isLaw, 2, (some .boolean), 12, 0, 0), some (yX12_isBit, cX12_isBit, 3, (some .boolean), 12, 0, 0), some (yX12_isOne, cX12_isOne, 2, (some .boolean), 12, 0, 0), some (yX12_all, cX12_all, 1, (some .int), 12, 0, 0), some (yX12_lies, cX12_lies, 2, (some .boolean), 12, 0, 0)]
def zm_13 : List (Option ZMt) := [none, none, none, some (yX12_heldMany, cX12_heldMany, 4, (some .int), 12, 0, 0), some (yX12_lieMany, cX12_lieMany, 3, (some .int), 12, 0, 0), none, some (yX12_rights, cX12_rights, 5, (some .int), 12, 0, 0), some (yX12_copies, cX12_copies, 3, none, 12, 0, 0), some (yX12_sign, cX12_sign, 3, (some .int), 12, 0, 0), some (yX12_end, cX12_end, 2, (some .boolean), 12, 0, 0), some (yX12_begins, cX12_begins, 3, (some .int), 12, 0, 0), none, none, none, none, none]
def zm_14 : List (Option ZMt) := [some (yX12_faultOf, cX12_faultOf, 5, (some .int), 12, 0, 0), some (yX12_readsLines, cX12_readsLines, 8, (some .int), 12, 0, 0), some (yX12_came, cX12_came, 1, (some .int), 12, 0, 0), some (yX12_laws, cX12_laws, 3, (some .int), 12, 0, 0), some (yX12_people, cX12_people, 3, (some .int), 12, 0, 0), none, none, none, some (yX12_readsRule, cX12_readsRule, 3, (some .int), 12, 0, 0), some (yX12_laysCode, cX12_laysCode, 4, none, 12, 0, 0), some (yX12_rule, cX12_rule, 2, (some .int), 12, 0, 0), none, none, some (yX12_lyingIn, cX12_lyingIn, 4, (some .int), 12, 0, 0), none, none]
def zm_15 : List (Option ZMt) := [none, none, none, none, some (yX12_sheet, cX12_sheet, 9, (some .int), 12, 0, 0), some (yX12_putsBy, cX12_putsBy, 2, none, 12, 0, 0), some (yX12_adds, cX12_adds, 3, (some .int), 12, 0, 0), some (yX12_counted, cX12_counted, 2, (some .int), 12, 0, 0), some (yX12_undo, cX12_undo, 2, (some .int), 12, 0, 0), some (yX12_dayGoes, cX12_dayGoes, 5, (some .int), 12, 0, 0), some (yX12_goesOn, cX12_goesOn, 5, (some .int), 12, 0, 0), some (yX12_carriesOne, cX12_carriesOne, 2, (some .int), 12, 0, 0), none, some (yX12_flingsOne, cX12_flingsOne, 3, (some .int), 12, 0, 0), some (yX12_sweepsOne, cX12_sweepsOne, 4, (some .int), 12, 0, 0), some (yX12_walksOne, cX12_walksOne, 4, (some .int), 12, 0, 0)]
def zm_16 : List (Option ZMt) := [none, some (yX12_givesAll, cX12_givesAll, 5, (some .int), 12, 0, 0), some (yX12_fallsFrom, cX12_fallsFrom, 2, (some .int), 12, 0, 0), some (yX12_windTo, cX12_windTo, 3, (some .int), 12, 0, 0), some (yX12_carries, cX12_carries, 2, (some .int), 12, 0, 0), some (yX12_flings, cX12_flings, 3, (some .int), 12, 0, 0), some (yX12_sweeps, cX12_sweeps, 2, (some .int), 12, 0, 0), some (yX12_days, cX12_days, 3, (some .int), 12, 0, 0), some (yX12_walks, cX12_walks, 3, (some .int), 12, 0, 0), some (yX12_gives, cX12_gives, 4, (some .int), 12, 0, 0), some (yX12_falls, cX12_falls, 2, (some .int), 12, 0, 0), some (yX12_wind, cX12_wind, 2, (some .int), 12, 0, 0), none, none, some (yX12_wedding, cX12_wedding, 5, (some .int), 12, 0, 0), some (yX12_later, cX12_later, 4, (some .int), 12, 0, 0)]
def zm_17 : List (Option ZMt) := [some (yX12_when, cX12_when, 4, (some .int), 12, 0, 0), some (yX12_clean, cX12_clean, 2, (some .int), 12, 0, 0), some (yX12_drifts, cX12_drifts, 4, (some .int), 12, 0, 0), some (yX12_aims, cX12_aims, 8, (some .int), 12, 0, 0), none, some (yX12_prays, cX12_prays, 5, (some .int), 12, 0, 0), some (yX12_seeks, cX12_seeks, 8, (some .int), 12, 0, 0), some (yX12_whole, cX12_whole, 4, (some .int), 12, 0, 0), none, some (yX12_holdsOfAll, cX12_holdsOfAll, 4, (some .boolean), 12, 0, 0), some (yX12_quorum, cX12_quorum, 4, (some .int), 12, 0, 0), some (yX12_awardsFrom, cX12_awardsFrom, 5, none, 12, 0, 0), some (yX12_awards, cX12_awards, 2, (some .int), 12, 0, 0), some (yX12_needs, cX12_needs, 6, (some .int), 12, 0, 0), some (yX12_line, cX12_line, 3, (some .int), 12, 0, 0), some (yX12_carriesIt, cX12_carriesIt, 4, (some .boolean), 12, 0, 0)]
def zm_18 : List (Option ZMt) := [some (yX12_power, cX12_power, 4, (some .int), 12, 0, 0), some (yX12_least, cX12_least, 5, (some .int), 12, 0, 0), some (yX12_seen, cX12_seen, 4, (some .int), 12, 0, 0), some (yX12_forget, cX12_forget, 2, (some .int), 12, 0, 0), some (yX12_winds, cX12_winds, 5, (some .int), 12, 0, 0), some (yX12_guess, cX12_guess, 2, (some .int), 12, 0, 0), some (yX12_looks, cX12_looks, 9, (some .int), 12, 0, 0), some (yX12_highest, cX12_highest, 1, (some .int), 12, 0, 0), some (yX12_heard, cX12_heard, 3, (some .int), 12, 0, 0), some (yX12_denies, cX12_denies, 2, (some .int), 12, 0, 0), none, some (yX12_fitting, cX12_fitting, 5, (some .int), 12, 0, 0), some (yX12_fits, cX12_fits, 2, (some .int), 12, 0, 0), some (yX12_asks, cX12_asks, 8, (some .int), 12, 0, 0), some (yX12_odds, cX12_odds, 13, (some .int), 12, 0, 0), some (yX12_went, cX12_went, 4, (some .int), 12, 0, 0)]
def zm_19 : List (Option ZMt) := [some (yX12_clears, cX12_clears, 2, (some .int), 12, 0, 0), some (yX12_goesBy, cX12_goesBy, 3, (some .int), 12, 0, 0), some (yX12_isScatter, cX12_isScatter, 4, (some .boolean), 12, 0, 0), some (yX12_scatters, cX12_scatters, 4, (some .int), 12, 0, 0), some (yX12_tries, cX12_tries, 8, (some .int), 12, 0, 0), some (yX12_handfuls, cX12_handfuls, 5, (some .int), 12, 0, 0), some (yX12_other, cX12_other, 6, (some .int), 12, 0, 0), some (yX12_gets, cX12_gets, 3, (some .int), 12, 0, 0), some (yX12_isRest, cX12_isRest, 5, (some .boolean), 12, 0, 0), some (yX12_grasps, cX12_grasps, 5, (some .int), 12, 0, 0), some (yX12_draws, cX12_draws, 2, (some .int), 12, 0, 0), some (yX12_years, cX12_years, 7, (some .int), 12, 0, 0), some (yX12_keep, cX12_keep, 3, (some .boolean), 12, 0, 0), some (yX12_again, cX12_again, 3, (some .boolean), 12, 0, 0), some (yX12_count, cX12_count, 2, (some .int), 12, 0, 0), none]
def zm_20 : List (Option ZMt) := [none, none, none, some (yJ6_bitCount_0f7a4, cJ6_bitCount_0f7a4, 1, (some .int), 13, 0, 0), none, some (yJ9_max_7cf53, cJ9_max_7cf53, 2, (some .int), 14, 0, 0), some (yJ9_min_7cf53, cJ9_min_7cf53, 2, (some .int), 14, 0, 0), none, none, none, none, none, none, none, none, none]
def zm_21 : List (Option ZMt) := [none, none, none, none, none, none, none, none, none, none, none, none, none, none, none, none]
def zm_22 : List (Option ZMt) := [none, none, none, none]
def zm_ : List (List (Option ZMt)) := [zm_0, zm_1, zm_2, zm_3, zm_4, zm_5, zm_6, zm_7, zm_8, zm_9, zm_10, zm_11, zm_12, zm_13, zm_14, zm_15, zm_16, zm_17, zm_18, zm_19, zm_20, zm_21, zm_22]
def zm (y : Nat) : Option ZMt := (zm_[y / 16]?).bind (fun c => (c[y % 16]?).bind (fun q => q))
end
section
/-! THE ENGINE, part 1: its data. A run of the code by numbers that the kernel works out: ints are Nats (mod 2^32), unknown ints are places in a list of intervals, cells are places in a world. -/
abbrev EV : Type := (Nat ⊕ Nat) ⊕ ((Nat ⊕ (Nat ⊕ Nat)) ⊕ Nat)
abbrev eC (n : Nat) : EV := .inl (.inl n)
abbrev eU (i : Nat) : EV := .inl (.inr i)
abbrev eR (k : Nat) : EV := .inr (.inl (.inl k))
abbrev eL (n : Nat) : EV := .inr (.inl (.inr (.inl n)))
/-- an unknown int, as a long -/
abbrev eLU (i : Nat) : EV := .inr (.inl (.inr (.inr i)))
abbrev eX (k : Nat) : EV := .inr (.inr k)
abbrev EC : Type := Nat × List EV
abbrev EW : Type := Nat × List (List EC)
abbrev EG : Type := List (Nat × Nat)
/-- force a number, then go on -/
noncomputable def ze_f (n : Nat) (k : Nat → Bool) : Bool := Nat.rec (motive := fun _ => Bool) (k 0) (fun m _ => k (Nat.succ m)) n
theorem ze_f_eq (n : Nat) (k : Nat → Bool) : ze_f n k = k n := by cases n <;> rfl
/-- the i-th of a list, then go on -/
noncomputable def ze_n {α : Type} (l : List α) : Nat → (α → Bool) → Bool := List.rec (motive := fun _ => Nat → (α → Bool) → Bool) (fun _ _ => false) (fun a _ ih i f => Nat.rec (motive := fun _ => Bool) (f a) (fun j _ => ih j f) i) l
theorem ze_n_spec {α : Type} : ∀ (l : List α) (i : Nat) (f : α → Bool), ze_n l i f = true → ∃ a, l[i]? = some a ∧ f a = true := by
  intro l
  induction l with
  | nil => intro i f h; exact absurd h (by simp [ze_n])
  | cons a t ih =>
    intro i f h
    cases i with
    | zero => exact ⟨a, rfl, h⟩
    | succ j => exact ih j f h
noncomputable def ze_s {α : Type} (v : α) (l : List α) : Nat → List α := List.rec (motive := fun _ => Nat → List α) (fun _ => []) (fun a t ih i => Nat.rec (motive := fun _ => List α) (v :: t) (fun j _ => a :: ih j) i) l
theorem ze_s_eq {α : Type} (v : α) : ∀ (l : List α) (i : Nat), ze_s v l i = l.set i v := by
  intro l
  induction l with
  | nil => intro i; rfl
  | cons a t ih =>
    intro i
    cases i with
    | zero => rfl
    | succ j => exact congrArg (List.cons a) (ih j)
noncomputable def ze_m {α : Type} (f : α → α) (l : List α) : Nat → List α := List.rec (motive := fun _ => Nat → List α) (fun _ => []) (fun a t ih i => Nat.rec (motive := fun _ => List α) (f a :: t) (fun j _ => a :: ih j) i) l
theorem ze_m_get {α : Type} (f : α → α) : ∀ (l : List α) (i j : Nat), (ze_m f l i)[j]? = if j = i then (l[i]?).map f else l[j]? := by
  intro l
  induction l with
  | nil => intro i j; show (([] : List α))[j]? = _; simp
  | cons a t ih =>
    intro i j
    cases i with
    | zero =>
      show (f a :: t)[j]? = _
      cases j with
      | zero => simp
      | succ j => simp
    | succ i =>
      show (a :: ze_m f t i)[j]? = _
      cases j with
      | zero => simp
      | succ j => simp [ih i j]
/-- a cell of a world -/
def ze_gw (w : EW) (k : Nat) : Option EC := (w.2[k / 16]?).bind (fun ch => ch[k % 16]?)
noncomputable def ze_g (w : EW) (k : Nat) (f : EC → Bool) : Bool := ze_n w.2 (Nat.div k 16) (fun ch => ze_n ch (Nat.mod k 16) f)
theorem ze_g_spec {w : EW} {k : Nat} {f : EC → Bool} (h : ze_g w k f = true) : ∃ c, ze_gw w k = some c ∧ f c = true := by
  obtain ⟨ch, h1, h2⟩ := ze_n_spec _ _ _ h
  obtain ⟨c, h3, h4⟩ := ze_n_spec _ _ _ h2
  refine ⟨c, ?_, h4⟩
  have h1' : w.2[k / 16]? = some ch := h1
  have h3' : ch[k % 16]? = some c := h3
  unfold ze_gw
  rw [h1']
  exact h3'
noncomputable def ze_ws (w : EW) (k : Nat) (c : EC) : EW := (w.1, ze_m (fun ch => ze_s c ch (Nat.mod k 16)) w.2 (Nat.div k 16))
theorem ze_ws_get (w : EW) (k : Nat) (c : EC) (j : Nat) : ze_gw (ze_ws w k c) j = if j = k then (ze_gw w k).map (fun _ => c) else ze_gw w j := by
  show ((ze_m (fun ch => ze_s c ch (k % 16)) w.2 (k / 16))[j / 16]?).bind _ = _
  rw [ze_m_get]
  by_cases h : j / 16 = k / 16
  · rw [if_pos h]
    unfold ze_gw
    by_cases h2 : j = k
    · subst h2
      rw [if_pos rfl]
      cases hc : w.2[j / 16]? with
      | none => simp
      | some ch =>
        simp [ze_s_eq, List.getElem?_set]
        by_cases h3 : j % 16 < ch.length
        · simp [h3]
        · simp [h3]
    · rw [if_neg h2, h]
      have h4 : k % 16 ≠ j % 16 := by omega
      cases hc : w.2[k / 16]? with
      | none => simp
      | some ch => simp [ze_s_eq, List.getElem?_set, h4]
  · rw [if_neg h]
    have h2 : j ≠ k := by intro q; subst q; exact h rfl
    rw [if_neg h2]
    rfl
/-- one more cell -/
noncomputable def ze_wp (w : EW) (c : EC) (f : EW → Bool) : Bool :=
  cond (Nat.beq (Nat.mod w.1 16) 0) (cond (Nat.beq w.2.length (Nat.div w.1 16)) (f (Nat.succ w.1, w.2 ++ [[c]])) false)
    (ze_n w.2 (Nat.div w.1 16) (fun ch => cond (Nat.beq ch.length (Nat.mod w.1 16)) (f (Nat.succ w.1, ze_m (fun ch => ch ++ [c]) w.2 (Nat.div w.1 16))) false))
theorem ze_cond {b : Bool} {x y : Bool} (h : cond b x y = true) : (b = true ∧ x = true) ∨ (b = false ∧ y = true) := by
  cases b
  · exact Or.inr ⟨rfl, h⟩
  · exact Or.inl ⟨rfl, h⟩
theorem ze_condf {b x : Bool} (h : cond b x false = true) : b = true ∧ x = true := by
  cases b
  · exact Bool.noConfusion (show false = true from h)
  · exact ⟨rfl, h⟩
theorem ze_condt {b x : Bool} (h : cond b x true = true) (hb : b = true) : x = true := by
  cases b
  · exact Bool.noConfusion (show false = true from hb)
  · exact h
theorem ze_and {x y : Bool} (h : cond x y false = true) : x = true ∧ y = true := ze_condf h
theorem ze_beq {a b : Nat} (h : Nat.beq a b = true) : a = b := Nat.eq_of_beq_eq_true h
theorem ze_wp_spec {w : EW} {c : EC} {f : EW → Bool} (h : ze_wp w c f = true) : ∃ w' : EW, f w' = true ∧ w'.1 = w.1 + 1 ∧ ∀ (k : Nat) (c' : EC), ze_gw w' k = some c' → (k = w.1 ∧ c' = c) ∨ (k ≠ w.1 ∧ ze_gw w k = some c') := by
  rcases ze_cond h with ⟨h1, h2⟩ | ⟨h1, h2⟩
  · obtain ⟨h3, h4⟩ := ze_condf h2
    have e1 : w.1 % 16 = 0 := ze_beq h1
    have e2 : w.2.length = w.1 / 16 := ze_beq h3
    refine ⟨_, h4, rfl, fun k c' hk => ?_⟩
    have hk : ((w.2 ++ [[c]])[k / 16]?).bind (fun ch => ch[k % 16]?) = some c' := hk
    by_cases hl : k / 16 < w.2.length
    · rw [List.getElem?_append_left hl] at hk
      refine Or.inr ⟨?_, hk⟩
      intro q
      subst q
      omega
    · rw [List.getElem?_append_right (by omega)] at hk
      by_cases hz : k / 16 - w.2.length = 0
      · rw [hz] at hk
        simp at hk
        by_cases h16 : k % 16 = 0
        · rw [h16] at hk
          simp at hk
          exact Or.inl ⟨by omega, hk.symm⟩
        · obtain ⟨q, hq⟩ : ∃ q, k % 16 = q + 1 := ⟨k % 16 - 1, by omega⟩
          rw [hq] at hk
          simp at hk
      · obtain ⟨q, hq⟩ : ∃ q, k / 16 - w.2.length = q + 1 := ⟨k / 16 - w.2.length - 1, by omega⟩
        rw [hq] at hk
        simp at hk
  · obtain ⟨ch, h3, h4⟩ := ze_n_spec _ _ _ h2
    obtain ⟨h5, h6⟩ := ze_condf h4
    have e1 : ch.length = w.1 % 16 := ze_beq h5
    have h3 : w.2[w.1 / 16]? = some ch := h3
    refine ⟨_, h6, rfl, fun k c' hk => ?_⟩
    have hk : ((ze_m (fun ch => ch ++ [c]) w.2 (w.1 / 16))[k / 16]?).bind (fun ch => ch[k % 16]?) = some c' := hk
    rw [ze_m_get] at hk
    by_cases hq : k / 16 = w.1 / 16
    · rw [if_pos hq, h3] at hk
      simp at hk
      by_cases hl : k % 16 < ch.length
      · rw [List.getElem?_append_left hl] at hk
        refine Or.inr ⟨fun q => by subst q; omega, ?_⟩
        unfold ze_gw
        rw [hq, h3]
        exact hk
      · rw [List.getElem?_append_right (by omega)] at hk
        by_cases hz : k % 16 - ch.length = 0
        · rw [hz] at hk
          simp at hk
          exact Or.inl ⟨by omega, hk.symm⟩
        · obtain ⟨q, hq2⟩ : ∃ q, k % 16 - ch.length = q + 1 := ⟨k % 16 - ch.length - 1, by omega⟩
          rw [hq2] at hk
          simp at hk
    · rw [if_neg hq] at hk
      exact Or.inr ⟨fun q => hq (by rw [q]), hk⟩
/-- by what a list, a value is: by their recursors, which the kernel works out at once -/
noncomputable def zl_ (st : List EV) (f : EV → List EV → Bool) : Bool := List.rec (motive := fun _ => Bool) false (fun v r _ => f v r) st
noncomputable def zl_0 (st : List EV) (d : Bool) : Bool := List.rec (motive := fun _ => Bool) d (fun _ _ _ => false) st
noncomputable def zv_ (v : EV) (fi : (Nat ⊕ Nat) → Bool) (fr : Nat → Bool) (fl : (Nat ⊕ Nat) → Bool) (fx : Nat → Bool) : Bool := Sum.rec (motive := fun _ => Bool) fi (fun u => Sum.rec (motive := fun _ => Bool) (fun z => Sum.rec (motive := fun _ => Bool) fr fl z) fx u) v
noncomputable def zv_r (v : EV) (f : Nat → Bool) : Bool := Sum.rec (motive := fun _ => Bool) (fun _ => false) (fun u => Sum.rec (motive := fun _ => Bool) (fun z => Sum.rec (motive := fun _ => Bool) f (fun _ => false) z) (fun _ => false) u) v
noncomputable def zv_i (v : EV) (f : (Nat ⊕ Nat) → Bool) : Bool := Sum.rec (motive := fun _ => Bool) f (fun _ => false) v
noncomputable def zv_c (v : EV) (f : Nat → Bool) : Bool := Sum.rec (motive := fun _ => Bool) (fun u => Sum.rec (motive := fun _ => Bool) f (fun _ => false) u) (fun _ => false) v
noncomputable def zv_l (v : EV) (f : (Nat ⊕ Nat) → Bool) : Bool := Sum.rec (motive := fun _ => Bool) (fun _ => false) (fun u => Sum.rec (motive := fun _ => Bool) (fun z => Sum.rec (motive := fun _ => Bool) (fun _ => false) f z) (fun _ => false) u) v
noncomputable def zv_s (v : Nat ⊕ Nat) (f g : Nat → Bool) : Bool := Sum.rec (motive := fun _ => Bool) f g v
end
section
/-! THE ENGINE, part 2: numbers, relations between its data and the machine's -/
def ze_b (x : Int32) : Nat := (x.toBitVec.toNat + 2147483648) % 4294967296
theorem ze_b_int (x : Int32) : (ze_b x : Int) = x.toInt + 2147483648 := by
  have h := x.toBitVec.isLt
  have e : x.toInt = x.toBitVec.toInt := rfl
  rw [e, BitVec.toInt_eq_toNat_cond]
  unfold ze_b
  split <;> omega
theorem ze_b_lt {x y : Int32} : x < y ↔ ze_b x < ze_b y := by
  have h1 := ze_b_int x
  have h2 := ze_b_int y
  rw [Int32.lt_iff_toInt_lt]
  omega
theorem ze_b_le {x y : Int32} : x ≤ y ↔ ze_b x ≤ ze_b y := by
  have h1 := ze_b_int x
  have h2 := ze_b_int y
  rw [Int32.le_iff_toInt_le]
  omega
theorem ze_b_eq {x y : Int32} : x = y ↔ ze_b x = ze_b y := by
  have h1 := ze_b_int x
  have h2 := ze_b_int y
  rw [← Int32.toInt_inj]
  omega
theorem ze_b_top (x : Int32) : ze_b x ≤ 4294967295 := by
  unfold ze_b
  omega
theorem ze_bv (n : Nat) : (nI n).toBitVec = BitVec.ofNat 32 n := rfl
theorem ze_tn (n : Nat) : (nI n).toBitVec.toNat = n % 4294967296 := by
  rw [ze_bv, BitVec.toNat_ofNat]
theorem ze_b_nI (n : Nat) : ze_b (nI n) = (n + 2147483648) % 4294967296 := by
  unfold ze_b
  rw [ze_tn]
  omega
def ze_e (x : Int32) : Nat := x.toBitVec.toNat
theorem ze_e_eq (x : Int32) : nI (ze_e x) = x := by
  apply Int32.toBitVec_inj.mp
  rw [ze_bv]
  apply BitVec.eq_of_toNat_eq
  rw [BitVec.toNat_ofNat]
  have h := x.toBitVec.isLt
  unfold ze_e
  omega
theorem ze_nI_mod {a b : Nat} (h : a % 4294967296 = b % 4294967296) : nI a = nI b := by
  apply Int32.toBitVec_inj.mp
  rw [ze_bv, ze_bv]
  apply BitVec.eq_of_toNat_eq
  rw [BitVec.toNat_ofNat, BitVec.toNat_ofNat]
  exact h
theorem ze_unb {x : Int32} {b : Nat} (h : ze_b x = b) : nI ((b + 2147483648) % 4294967296) = x := by
  have h2 := x.toBitVec.isLt
  rw [← ze_e_eq x]
  apply ze_nI_mod
  rw [← h]
  unfold ze_b ze_e
  omega
def ze_el (x : Int64) : Nat := x.toBitVec.toNat
theorem ze_el_eq (x : Int64) : lN (ze_el x) = x := by
  apply Int64.toBitVec_inj.mp
  have e : (lN (ze_el x)).toBitVec = BitVec.ofNat 64 (ze_el x) := rfl
  rw [e]
  apply BitVec.eq_of_toNat_eq
  rw [BitVec.toNat_ofNat]
  have h := x.toBitVec.isLt
  unfold ze_el
  omega
theorem ze_add (a b : Nat) : nI a + nI b = nI ((a + b) % 4294967296) := by
  rw [nI_add]
  exact ze_nI_mod (by omega)
theorem ze_sub (a b : Nat) : nI a - nI b = nI ((a + (4294967296 - b % 4294967296)) % 4294967296) := by
  have h : nI a = nI ((a + (4294967296 - b % 4294967296)) % 4294967296) + nI b := by
    rw [nI_add]
    apply ze_nI_mod
    have := Nat.mod_lt b (show 0 < 4294967296 by decide)
    omega
  rw [h]
  exact Int32.add_sub_cancel _ _
theorem ze_mul (a b : Nat) : nI a * nI b = nI ((a * b) % 4294967296) := by
  rw [pk_mul]
  exact ze_nI_mod (by omega)
/-- what a value of the engine stands for -/
def ze_V (sp : Nat → Nat) (ρ : List Int32) (ad : List Nat) (v : EV) (x : Value) : Prop := match v with
  | .inl (.inl n) => x = .int (nI n)
  | .inl (.inr i) => ∃ z, ρ[i]? = some z ∧ x = .int z
  | .inr (.inl (.inl k)) => ∃ a, ad[k]? = some a ∧ x = .ref a
  | .inr (.inl (.inr (.inl n))) => x = .long (lN n)
  | .inr (.inl (.inr (.inr i))) => ∃ z, ρ[i]? = some z ∧ x = .long z.toInt64
  | .inr (.inr 0) => x = .null
  | .inr (.inr 1) => False
  | .inr (.inr (k + 2)) => x = .ref (sp k)
theorem ze_pre {α : Type} {l l' : List α} (h : l <+: l') {i : Nat} {a : α} (hi : l[i]? = some a) : l'[i]? = some a := by
  obtain ⟨t, rfl⟩ := h
  rw [List.getElem?_append_left (List.getElem?_eq_some_iff.mp hi).1]
  exact hi
theorem ze_V.mono {sp : Nat → Nat} {ρ ρ' : List Int32} {ad ad' : List Nat} (h1 : ρ <+: ρ') (h2 : ad <+: ad') {v : EV} {x : Value} (h : ze_V sp ρ ad v x) : ze_V sp ρ' ad' v x := by
  match v, h with
  | .inl (.inl n), h => exact h
  | .inl (.inr i), ⟨z, a, b⟩ => exact ⟨z, ze_pre h1 a, b⟩
  | .inr (.inl (.inl k)), ⟨z, a, b⟩ => exact ⟨z, ze_pre h2 a, b⟩
  | .inr (.inl (.inr (.inl n))), h => exact h
  | .inr (.inl (.inr (.inr i))), ⟨z, a, b⟩ => exact ⟨z, ze_pre h1 a, b⟩
  | .inr (.inr 0), h => exact h
  | .inr (.inr (k + 2)), h => exact h
def ze_L (sp : Nat → Nat) (ρ : List Int32) (ad : List Nat) : List EV → List Value → Prop
  | [], [] => True
  | v :: l, x :: xs => ze_V sp ρ ad v x ∧ ze_L sp ρ ad l xs
  | [], _ :: _ => False
  | _ :: _, [] => False
theorem ze_L.mono {sp : Nat → Nat} {ρ ρ' : List Int32} {ad ad' : List Nat} (h1 : ρ <+: ρ') (h2 : ad <+: ad') : ∀ {l : List EV} {xs : List Value}, ze_L sp ρ ad l xs → ze_L sp ρ' ad' l xs := by
  intro l
  induction l with
  | nil =>
    intro xs h
    cases xs with
    | nil => trivial
    | cons x xs => exact h
  | cons v l ih =>
    intro xs h
    cases xs with
    | nil => exact h
    | cons x xs => exact ⟨h.1.mono h1 h2, ih h.2⟩
theorem ze_L.cons {sp : Nat → Nat} {ρ : List Int32} {ad : List Nat} {v : EV} {l : List EV} {xs : List Value} (h : ze_L sp ρ ad (v :: l) xs) : ∃ y ys, xs = y :: ys ∧ ze_V sp ρ ad v y ∧ ze_L sp ρ ad l ys := by
  cases xs with
  | nil => exact absurd h (fun q => q)
  | cons y ys => exact ⟨y, ys, rfl, h.1, h.2⟩
theorem ze_L.nil {sp : Nat → Nat} {ρ : List Int32} {ad : List Nat} {xs : List Value} (h : ze_L sp ρ ad [] xs) : xs = [] := by
  cases xs with
  | nil => rfl
  | cons y ys => exact absurd h (fun q => q)
theorem ze_L.get {sp : Nat → Nat} {ρ : List Int32} {ad : List Nat} : ∀ {l : List EV} {xs : List Value}, ze_L sp ρ ad l xs → ∀ {i : Nat} {v : EV}, l[i]? = some v → ∃ x, xs[i]? = some x ∧ ze_V sp ρ ad v x := by
  intro l
  induction l with
  | nil => intro xs _ i v h; simp at h
  | cons u l ih =>
    intro xs h i v hi
    obtain ⟨y, ys, rfl, h1, h2⟩ := h.cons
    cases i with
    | zero => simp at hi; subst hi; exact ⟨y, rfl, h1⟩
    | succ j => exact ih h2 (by simpa using hi)
theorem ze_L.set {sp : Nat → Nat} {ρ : List Int32} {ad : List Nat} {v : EV} {x : Value} (hv : ze_V sp ρ ad v x) : ∀ {l : List EV} {xs : List Value}, ze_L sp ρ ad l xs → ∀ (i : Nat), ze_L sp ρ ad (l.set i v) (xs.set i x) := by
  intro l
  induction l with
  | nil =>
    intro xs h i
    rw [h.nil]
    trivial
  | cons u l ih =>
    intro xs h i
    obtain ⟨y, ys, rfl, h1, h2⟩ := h.cons
    cases i with
    | zero => exact ⟨hv, h2⟩
    | succ j => exact ⟨h1, ih h2 j⟩
theorem ze_L.len {sp : Nat → Nat} {ρ : List Int32} {ad : List Nat} : ∀ {l : List EV} {xs : List Value}, ze_L sp ρ ad l xs → l.length = xs.length := by
  intro l
  induction l with
  | nil => intro xs h; rw [h.nil]; rfl
  | cons u l ih =>
    intro xs h
    obtain ⟨y, ys, rfl, h1, h2⟩ := h.cons
    simp [ih h2]
/-- the intervals hold of the unknowns -/
def ze_G (g : EG) (ρ : List Int32) : Prop := g.length = ρ.length ∧ ∀ (i : Nat) (p : Nat × Nat) (x : Int32), g[i]? = some p → ρ[i]? = some x → p.1 ≤ ze_b x ∧ ze_b x ≤ p.2
theorem ze_G.push {g : EG} {ρ : List Int32} (h : ze_G g ρ) {p : Nat × Nat} {x : Int32} (h1 : p.1 ≤ ze_b x) (h2 : ze_b x ≤ p.2) : ze_G (g ++ [p]) (ρ ++ [x]) := by
  refine ⟨by simp [h.1], fun i q y hq hy => ?_⟩
  by_cases hi : i < g.length
  · rw [List.getElem?_append_left hi] at hq
    rw [List.getElem?_append_left (by rw [← h.1]; exact hi)] at hy
    exact h.2 i q y hq hy
  · rw [List.getElem?_append_right (by omega)] at hq
    rw [List.getElem?_append_right (by rw [← h.1]; omega)] at hy
    by_cases hz : i - g.length = 0
    · rw [hz] at hq
      rw [show i - ρ.length = 0 by rw [← h.1]; exact hz] at hy
      simp at hq hy
      subst hq; subst hy
      exact ⟨h1, h2⟩
    · obtain ⟨j, hj⟩ : ∃ j, i - g.length = j + 1 := ⟨i - g.length - 1, by omega⟩
      rw [hj] at hq
      simp at hq
theorem ze_G.new {g : EG} {ρ : List Int32} (h : ze_G g ρ) (x : Int32) : (ρ ++ [x])[g.length]? = some x := by
  rw [h.1]
  simp
theorem ze_G.set {g : EG} {ρ : List Int32} (h : ze_G g ρ) {i : Nat} {p : Nat × Nat} {x : Int32} (hx : ρ[i]? = some x) (h1 : p.1 ≤ ze_b x) (h2 : ze_b x ≤ p.2) : ze_G (ze_s p g i) ρ := by
  rw [ze_s_eq]
  refine ⟨by simp [h.1], fun j q y hq hy => ?_⟩
  by_cases hj : i = j
  · subst hj
    rw [hx] at hy
    cases hy
    by_cases hl : i < g.length
    · rw [List.getElem?_set_self hl] at hq
      cases hq
      exact ⟨h1, h2⟩
    · rw [List.getElem?_eq_none (by rw [List.length_set]; omega)] at hq
      cases hq
  · rw [List.getElem?_set_ne hj] at hq
    exact h.2 j q y hq hy
/-- an int of the engine: a number, or an unknown that isn't settled -/
noncomputable def ze_rs (g : EG) (v : EV) (fc fu : Nat → Bool) : Bool := zv_i v (fun u => zv_s u fc (fun i => ze_n g i (fun p => cond (Nat.beq p.1 p.2) (ze_f (Nat.mod (Nat.add p.1 2147483648) 4294967296) fc) (fu i))))
theorem ze_rs_spec {sp : Nat → Nat} {g : EG} {ρ : List Int32} {ad : List Nat} {v : EV} {fc fu : Nat → Bool} {X : Value} (h : ze_rs g v fc fu = true) (hG : ze_G g ρ) (hv : ze_V sp ρ ad v X) :
    ∃ x, X = .int x ∧ ((∃ n, x = nI n ∧ fc n = true) ∨ ∃ i, v = eU i ∧ ρ[i]? = some x ∧ fu i = true) := by
  match v, h, hv with
  | .inl (.inl n), h, hv => exact ⟨nI n, hv, Or.inl ⟨n, rfl, h⟩⟩
  | .inl (.inr i), h, ⟨z, hz, e⟩ =>
    refine ⟨z, e, ?_⟩
    obtain ⟨p, hp, h2⟩ := ze_n_spec _ _ _ h
    rcases ze_cond h2 with ⟨h3, h4⟩ | ⟨_, h4⟩
    · rw [ze_f_eq] at h4
      have hb := hG.2 i p z hp hz
      have e2 := ze_beq h3
      exact Or.inl ⟨_, (ze_unb (x := z) (b := p.1) (by omega)).symm, h4⟩
    · exact Or.inr ⟨i, rfl, hz, h4⟩
def ze_z (n : Nat) : Nat := Nat.mod (Nat.add n 2147483648) 4294967296
theorem ze_z_eq (n : Nat) : ze_z n = ze_b (nI n) := by rw [ze_b_nI]; rfl
def ze_mx (a b : Nat) : Nat := cond (Nat.ble a b) b a
def ze_mn (a b : Nat) : Nat := cond (Nat.ble a b) a b
theorem ze_mx_le {a b c : Nat} (h1 : a ≤ c) (h2 : b ≤ c) : ze_mx a b ≤ c := by
  unfold ze_mx
  cases Nat.ble a b <;> assumption
theorem ze_mn_le {a b c : Nat} (h1 : c ≤ a) (h2 : c ≤ b) : c ≤ ze_mn a b := by
  unfold ze_mn
  cases Nat.ble a b <;> assumption
noncomputable def ze_lt (g : EG) (v1 v2 : EV) (kt kf : EG → Bool) : Bool :=
  ze_rs g v1 (fun x => ze_rs g v2 (fun y => cond (Nat.ble (Nat.succ (ze_z x)) (ze_z y)) (kt g) (kf g))
      (fun j => ze_n g j (fun p => cond (cond (Nat.ble (Nat.succ (ze_z x)) p.2) (kt (ze_s (ze_mx p.1 (Nat.succ (ze_z x)), p.2) g j)) true) (cond (Nat.ble p.1 (ze_z x)) (kf (ze_s (p.1, ze_mn p.2 (ze_z x)) g j)) true) false)))
    (fun i => ze_rs g v2 (fun y => ze_n g i (fun p => cond (cond (Nat.ble (Nat.succ p.1) (ze_z y)) (kt (ze_s (p.1, ze_mn p.2 (Nat.pred (ze_z y))) g i)) true) (cond (Nat.ble (ze_z y) p.2) (kf (ze_s (ze_mx p.1 (ze_z y), p.2) g i)) true) false))
      (fun _ => cond (kt g) (kf g) false))
theorem ze_ble {a b : Nat} (h : a ≤ b) : Nat.ble a b = true := Nat.ble_eq_true_of_le h
theorem ze_ble' {a b : Nat} (h : Nat.ble a b = true) : a ≤ b := Nat.le_of_ble_eq_true h
theorem ze_nble {a b : Nat} (h : Nat.ble a b = false) : b < a := by
  rcases Nat.lt_or_ge b a with q | q
  · exact q
  · rw [ze_ble q] at h; cases h
theorem ze_lt_spec {sp : Nat → Nat} {g : EG} {ρ : List Int32} {ad : List Nat} {v1 v2 : EV} {kt kf : EG → Bool} {X Y : Value} (h : ze_lt g v1 v2 kt kf = true) (hG : ze_G g ρ) (h1 : ze_V sp ρ ad v1 X) (h2 : ze_V sp ρ ad v2 Y) :
    ∃ x y, X = .int x ∧ Y = .int y ∧ (x < y → ∃ g', ze_G g' ρ ∧ kt g' = true) ∧ (¬ x < y → ∃ g', ze_G g' ρ ∧ kf g' = true) := by
  obtain ⟨x, ex, hx⟩ := ze_rs_spec h hG h1
  rcases hx with ⟨a, ea, hx⟩ | ⟨i, ei, hi, hx⟩
  · obtain ⟨y, ey, hy⟩ := ze_rs_spec hx hG h2
    refine ⟨x, y, ex, ey, ?_⟩
    rcases hy with ⟨b, eb, hy⟩ | ⟨j, ej, hj, hy⟩
    · rw [ze_z_eq, ze_z_eq, ← ea, ← eb] at hy
      rcases ze_cond hy with ⟨q1, q2⟩ | ⟨q1, q2⟩
      · have q3 := ze_ble' q1
        exact ⟨fun _ => ⟨g, hG, q2⟩, fun n => absurd (ze_b_lt.mpr q3) n⟩
      · have q3 := ze_nble q1
        exact ⟨fun n => absurd (ze_b_lt.mp n) (by omega), fun _ => ⟨g, hG, q2⟩⟩
    · obtain ⟨p, hp, hq⟩ := ze_n_spec _ _ _ hy
      obtain ⟨q1, q2⟩ := ze_and hq
      rw [ze_z_eq, ← ea] at q1 q2
      have hb := hG.2 j p y hp hj
      refine ⟨fun n => ⟨_, ?_, ze_condt q1 (ze_ble ?_)⟩, fun n => ⟨_, ?_, ze_condt q2 (ze_ble ?_)⟩⟩
      · have n := ze_b_lt.mp n
        exact hG.set hj (ze_mx_le hb.1 n) hb.2
      · have n := ze_b_lt.mp n
        omega
      · have n : ¬ ze_b x < ze_b y := fun q => n (ze_b_lt.mpr q)
        exact hG.set hj hb.1 (ze_mn_le hb.2 (by omega))
      · have n : ¬ ze_b x < ze_b y := fun q => n (ze_b_lt.mpr q)
        omega
  · obtain ⟨y, ey, hy⟩ := ze_rs_spec hx hG h2
    refine ⟨x, y, ex, ey, ?_⟩
    rcases hy with ⟨b, eb, hy⟩ | ⟨j, ej, hj, hy⟩
    · obtain ⟨p, hp, hq⟩ := ze_n_spec _ _ _ hy
      obtain ⟨q1, q2⟩ := ze_and hq
      rw [ze_z_eq, ← eb] at q1 q2
      have hb := hG.2 i p x hp hi
      refine ⟨fun n => ⟨_, ?_, ze_condt q1 (ze_ble ?_)⟩, fun n => ⟨_, ?_, ze_condt q2 (ze_ble ?_)⟩⟩
      · have n := ze_b_lt.mp n
        exact hG.set hi hb.1 (ze_mn_le hb.2 (by rw [Nat.pred_eq_sub_one]; omega))
      · have n := ze_b_lt.mp n
        omega
      · have n : ¬ ze_b x < ze_b y := fun q => n (ze_b_lt.mpr q)
        exact hG.set hi (ze_mx_le hb.1 (by omega)) hb.2
      · have n : ¬ ze_b x < ze_b y := fun q => n (ze_b_lt.mpr q)
        omega
    · obtain ⟨q1, q2⟩ := ze_and hy
      exact ⟨fun _ => ⟨g, hG, q1⟩, fun _ => ⟨g, hG, q2⟩⟩
/-- an unknown against a number: it is, it is less, it is more -/
noncomputable def ze_eu (g : EG) (i c : Nat) (kt kf : EG → Bool) : Bool := ze_n g i (fun p => cond (cond (Nat.ble p.1 c) (cond (Nat.ble c p.2) (kt (ze_s (c, c) g i)) true) true)
  (cond (cond (Nat.ble (Nat.succ p.1) c) (kf (ze_s (p.1, ze_mn p.2 (Nat.pred c)) g i)) true) (cond (Nat.ble (Nat.succ c) p.2) (kf (ze_s (ze_mx p.1 (Nat.succ c), p.2) g i)) true) false) false)
theorem ze_eu_spec {g : EG} {ρ : List Int32} {i c : Nat} {kt kf : EG → Bool} {x : Int32} (h : ze_eu g i c kt kf = true) (hG : ze_G g ρ) (hi : ρ[i]? = some x) : (ze_b x = c → ∃ g', ze_G g' ρ ∧ kt g' = true) ∧ (¬ ze_b x = c → ∃ g', ze_G g' ρ ∧ kf g' = true) := by
  obtain ⟨p, hp, hq⟩ := ze_n_spec _ _ _ h
  obtain ⟨q1, q2⟩ := ze_and hq
  obtain ⟨q2, q3⟩ := ze_and q2
  have hb := hG.2 i p x hp hi
  refine ⟨fun n => ?_, fun n => ?_⟩
  · have r1 := ze_condt q1 (ze_ble (by omega))
    have r2 := ze_condt r1 (ze_ble (by omega))
    exact ⟨_, hG.set hi (by omega) (by omega), r2⟩
  · rcases Nat.lt_or_ge (ze_b x) c with r | r
    · have r1 := ze_condt q2 (ze_ble (by omega))
      refine ⟨_, ?_, r1⟩
      exact hG.set hi hb.1 (ze_mn_le hb.2 (by rw [Nat.pred_eq_sub_one]; omega))
    · have r1 := ze_condt q3 (ze_ble (by omega))
      refine ⟨_, ?_, r1⟩
      exact hG.set hi (ze_mx_le hb.1 (by omega)) hb.2
/-- an int as a number: an unknown of few numbers is split -/
noncomputable def ze_sp (g : EG) (i : Nat) (f : Nat → EG → Bool) (n : Nat) : Nat → Bool := Nat.rec (motive := fun _ => Nat → Bool) (fun z => f (ze_z z) (ze_s (z, z) g i)) (fun _ ih z => cond (f (ze_z z) (ze_s (z, z) g i)) (ih (Nat.succ z)) false) n
noncomputable def ze_ix (g : EG) (v : EV) (f : Nat → EG → Bool) : Bool := zv_i v (fun u => zv_s u (fun n => f n g) (fun i => ze_n g i (fun p => cond (Nat.ble (Nat.sub p.2 p.1) 80) (ze_sp g i f (Nat.sub p.2 p.1) p.1) false)))
theorem ze_sp_spec {g : EG} {ρ : List Int32} {i : Nat} {f : Nat → EG → Bool} {x : Int32} (hG : ze_G g ρ) (hi : ρ[i]? = some x) : ∀ (n z : Nat), ze_sp g i f n z = true → z ≤ ze_b x → ze_b x ≤ z + n → ∃ m g', x = nI m ∧ ze_G g' ρ ∧ f m g' = true := by
  intro n
  induction n with
  | zero =>
    intro z h h1 h2
    have e : ze_b x = z := by omega
    exact ⟨_, _, (ze_unb e).symm, hG.set hi (by omega) (by omega), h⟩
  | succ n ih =>
    intro z h h1 h2
    obtain ⟨q1, q2⟩ := ze_and (show cond (f (ze_z z) (ze_s (z, z) g i)) (ze_sp g i f n (Nat.succ z)) false = true from h)
    rcases Nat.lt_or_ge z (ze_b x) with r | r
    · exact ih (Nat.succ z) q2 (by omega) (by omega)
    · have e : ze_b x = z := by omega
      exact ⟨_, _, (ze_unb e).symm, hG.set hi (by omega) (by omega), q1⟩
theorem ze_ix_spec {sp : Nat → Nat} {g : EG} {ρ : List Int32} {ad : List Nat} {v : EV} {f : Nat → EG → Bool} {X : Value} (h : ze_ix g v f = true) (hG : ze_G g ρ) (hv : ze_V sp ρ ad v X) : ∃ n g', X = .int (nI n) ∧ ze_G g' ρ ∧ f n g' = true := by
  match v, h, hv with
  | .inl (.inl n), h, hv => exact ⟨n, g, hv, hG, h⟩
  | .inl (.inr i), h, ⟨z, hz, e⟩ =>
    obtain ⟨p, hp, h2⟩ := ze_n_spec _ _ _ h
    obtain ⟨h3, h4⟩ := ze_condf h2
    have hb := hG.2 i p z hp hz
    obtain ⟨m, g', q1, q2, q3⟩ := ze_sp_spec hG hz _ _ h4 hb.1 (by show ze_b z ≤ p.1 + (p.2 - p.1); omega)
    exact ⟨m, g', by rw [e, q1], q2, q3⟩
noncomputable def ze_eq (g : EG) (v1 v2 : EV) (kt kf : EG → Bool) : Bool :=
  ze_rs g v1 (fun x => ze_rs g v2 (fun y => cond (Nat.beq (ze_z x) (ze_z y)) (kt g) (kf g)) (fun j => ze_eu g j (ze_z x) kt kf))
    (fun i => ze_rs g v2 (fun y => ze_eu g i (ze_z y) kt kf) (fun _ => cond (kt g) (kf g) false))
theorem ze_nbeq {a b : Nat} (h : Nat.beq a b = false) : a ≠ b := Nat.ne_of_beq_eq_false h
theorem ze_eq_spec {sp : Nat → Nat} {g : EG} {ρ : List Int32} {ad : List Nat} {v1 v2 : EV} {kt kf : EG → Bool} {X Y : Value} (h : ze_eq g v1 v2 kt kf = true) (hG : ze_G g ρ) (h1 : ze_V sp ρ ad v1 X) (h2 : ze_V sp ρ ad v2 Y) :
    ∃ x y, X = .int x ∧ Y = .int y ∧ (x = y → ∃ g', ze_G g' ρ ∧ kt g' = true) ∧ (¬ x = y → ∃ g', ze_G g' ρ ∧ kf g' = true) := by
  obtain ⟨x, ex, hx⟩ := ze_rs_spec h hG h1
  rcases hx with ⟨a, ea, hx⟩ | ⟨i, ei, hi, hx⟩
  · obtain ⟨y, ey, hy⟩ := ze_rs_spec hx hG h2
    refine ⟨x, y, ex, ey, ?_⟩
    rcases hy with ⟨b, eb, hy⟩ | ⟨j, ej, hj, hy⟩
    · rw [ze_z_eq, ze_z_eq, ← ea, ← eb] at hy
      rcases ze_cond hy with ⟨q1, q2⟩ | ⟨q1, q2⟩
      · exact ⟨fun _ => ⟨g, hG, q2⟩, fun n => absurd (ze_b_eq.mpr (ze_beq q1)) n⟩
      · exact ⟨fun n => absurd (ze_b_eq.mp n) (ze_nbeq q1), fun _ => ⟨g, hG, q2⟩⟩
    · rw [ze_z_eq, ← ea] at hy
      have k := ze_eu_spec hy hG hj
      exact ⟨fun n => k.1 (by rw [n]), fun n => k.2 (fun q => n (ze_b_eq.mpr q.symm))⟩
  · obtain ⟨y, ey, hy⟩ := ze_rs_spec hx hG h2
    refine ⟨x, y, ex, ey, ?_⟩
    rcases hy with ⟨b, eb, hy⟩ | ⟨j, ej, hj, hy⟩
    · rw [ze_z_eq, ← eb] at hy
      have k := ze_eu_spec hy hG hi
      exact ⟨fun n => k.1 (by rw [n]), fun n => k.2 (fun q => n (ze_b_eq.mpr q))⟩
    · obtain ⟨q1, q2⟩ := ze_and hy
      exact ⟨fun _ => ⟨g, hG, q1⟩, fun _ => ⟨g, hG, q2⟩⟩
end
section
/-! THE ENGINE, part 3: what an instruction does. A row of code: instruction, its pc, three numbers, a list of numbers. -/
abbrev ECE : Type := Jvm.ClassFile.Instr × Nat × Nat × Nat × Nat × List Nat
abbrev EKn : Type := List ECE → List EV → List EV → EW → EG → Nat → Nat → Bool
/-- a jump to a row -/
abbrev EJp : Type := Nat → (List ECE → Bool) → Bool
abbrev ERt : Type := Option EV → EW → EG → Bool
abbrev ECal : Type := Nat → List EV → EW → EG → ERt → Bool
/-- next a b c list; jumps; going on; at the end; calls; cells and slots at most; locals stack world intervals, cells and slots made -/
abbrev EOp : Type := List ECE → Nat → Nat → Nat → List Nat → EJp → EKn → ERt → ECal → Nat → Nat → List EV → List EV → EW → EG → Nat → Nat → Bool
def zo_no : EOp := fun _ _ _ _ _ _ _ _ _ _ _ _ _ _ _ _ _ => false
/-- an int that nothing is known of but its interval -/
noncomputable def zo_fr (lo hi : Nat) (nx : List ECE) (kk : EKn) (ls rest : List EV) (w : EW) (g : EG) (nc ns : Nat) : Bool := ze_f g.length (fun i => kk nx ls (eU i :: rest) w (g ++ [(lo, hi)]) nc ns)
noncomputable def zo_bin (fc : Nat → Nat → Nat) (bd : EG → EV → EV → Nat × Nat) : EOp := fun nx _ _ _ _ jp kk _ _ _ _ ls st w g nc ns => zl_ st (fun v2 t => zl_ t (fun v1 rest => ze_rs g v1 (fun x => ze_rs g v2 (fun y => ze_f (fc x y) (fun r => kk nx ls (eC r :: rest) w g nc ns)) (fun _ => zo_fr (bd g v1 v2).1 (bd g v1 v2).2 nx kk ls rest w g nc ns))
      (fun _ => ze_rs g v2 (fun _ => zo_fr (bd g v1 v2).1 (bd g v1 v2).2 nx kk ls rest w g nc ns) (fun _ => zo_fr (bd g v1 v2).1 (bd g v1 v2).2 nx kk ls rest w g nc ns))))
def zo_top : EG → EV → EV → Nat × Nat := fun _ _ _ => (0, 4294967295)
/-- behind '& m', m a number of 0 and above -/
def zo_bnd : EG → EV → EV → Nat × Nat := fun _ _ v2 => match v2 with
  | .inl (.inl m) => cond (Nat.ble m 2147483647) (2147483648, Nat.add 2147483648 m) (0, 4294967295)
  | _ => (0, 4294967295)
/-- an interval of an int -/
def zo_iv (g : EG) (v : EV) : Nat × Nat := match v with
  | .inl (.inl n) => (ze_z n, ze_z n)
  | .inl (.inr i) => g.getD i (0, 4294967295)
  | _ => (0, 4294967295)
/-- behind '% m', m a number above 0 -/
def zo_brem : EG → EV → EV → Nat × Nat := fun g v1 v2 => match v2 with
  | .inl (.inl m) => cond (cond (Nat.ble 1 m) (Nat.ble m 1073741824) false) (cond (Nat.ble 2147483648 (zo_iv g v1).1) (2147483648, Nat.pred (Nat.add 2147483648 m)) (0, 4294967295)) (0, 4294967295)
  | _ => (0, 4294967295)
/-- behind '>>> k' -/
def zo_bush : EG → EV → EV → Nat × Nat := fun _ _ v2 => match v2 with
  | .inl (.inl k) => cond (Nat.beq k 16) (2147483648, 2147549183) (0, 4294967295)
  | _ => (0, 4294967295)
/-- x - m -/
def zo_bsub : EG → EV → EV → Nat × Nat := fun g v1 v2 => match v2 with
  | .inl (.inl m) => cond (cond (Nat.ble m 1073741824) (Nat.ble m (zo_iv g v1).1) false) (Nat.sub (zo_iv g v1).1 m, Nat.sub (zo_iv g v1).2 m) (0, 4294967295)
  | _ => (0, 4294967295)
/-- 0 >> anything -/
def zo_bshr : EG → EV → EV → Nat × Nat := fun _ v1 _ => match v1 with
  | .inl (.inl 0) => (2147483648, 2147483648)
  | _ => (0, 4294967295)
def zo_c2 (f : Int32 → Int32 → Int32) (a b : Nat) : Nat := ze_e (f (nI a) (nI b))
noncomputable def zo_iadd : EOp := zo_bin (fun a b => Nat.mod (Nat.add a b) 4294967296) zo_top
noncomputable def zo_isub : EOp := zo_bin (fun a b => Nat.mod (Nat.add a (Nat.sub 4294967296 (Nat.mod b 4294967296))) 4294967296) zo_bsub
noncomputable def zo_imul : EOp := zo_bin (fun a b => Nat.mod (Nat.mul a b) 4294967296) zo_top
noncomputable def zo_iand : EOp := zo_bin (zo_c2 (fun x y => x &&& y)) zo_bnd
noncomputable def zo_ior : EOp := zo_bin (zo_c2 (fun x y => x ||| y)) zo_top
noncomputable def zo_ixor : EOp := zo_bin (zo_c2 (fun x y => x ^^^ y)) zo_top
noncomputable def zo_ishl : EOp := zo_bin (zo_c2 (fun x y => x <<< (y &&& 31))) zo_top
noncomputable def zo_ishr : EOp := zo_bin (zo_c2 (fun x y => x >>> (y &&& 31))) zo_bshr
noncomputable def zo_iushr : EOp := zo_bin (zo_c2 (fun x y => (x.toUInt32 >>> (y.toUInt32 &&& Int32.toUInt32 31)).toInt32)) zo_bush
/-- a divisor that is a number and not 0 -/
noncomputable def zo_dv (op : EOp) : EOp := fun nx a b c tl jp kk k cal mc ms ls st w g nc ns => match st with
  | v2 :: rest => ze_rs g v2 (fun y => cond (Nat.beq (Nat.mod y 4294967296) 0) false (op nx a b c tl jp kk k cal mc ms ls (v2 :: rest) w g nc ns)) (fun _ => false)
  | _ => false
noncomputable def zo_idiv : EOp := zo_dv (zo_bin (zo_c2 (fun x y => x / y)) zo_top)
noncomputable def zo_irem : EOp := zo_dv (zo_bin (zo_c2 (fun x y => x - x / y * y)) zo_brem)
noncomputable def zo_un (fc : Nat → Nat) (lo hi : Nat) : EOp := fun nx _ _ _ _ jp kk _ _ _ _ ls st w g nc ns => zl_ st (fun v1 rest => ze_rs g v1 (fun x => ze_f (fc x) (fun r => kk nx ls (eC r :: rest) w g nc ns)) (fun _ => zo_fr lo hi nx kk ls rest w g nc ns))
def zo_c1 (f : Int32 → Int32) (a : Nat) : Nat := ze_e (f (nI a))
noncomputable def zo_ineg : EOp := zo_un (zo_c1 (fun x => -x)) 0 4294967295
noncomputable def zo_i2b : EOp := zo_un (zo_c1 (fun x => x.toInt8.toInt32)) 0 4294967295
noncomputable def zo_i2s : EOp := zo_un (zo_c1 (fun x => x.toInt16.toInt32)) 0 4294967295
noncomputable def zo_i2c : EOp := zo_un (zo_c1 (fun x => (x.toUInt32 % 65536).toInt32)) 0 4294967295
/-- longs are numbers only -/
noncomputable def zo_lb (f : Int64 → Int64 → Int64) : EOp := fun nx _ _ _ _ jp kk _ _ _ _ ls st w g nc ns => match st with
  | .inr (.inl (.inr (.inl y))) :: .inr (.inl (.inr (.inl x))) :: rest => ze_f (ze_el (f (lN x) (lN y))) (fun r => kk nx ls (eL r :: rest) w g nc ns)
  | _ => false
noncomputable def zo_ldv (op : EOp) : EOp := fun nx a b c tl jp kk k cal mc ms ls st w g nc ns => match st with
  | .inr (.inl (.inr (.inl y))) :: rest => cond (Nat.beq (Nat.mod y 18446744073709551616) 0) false (op nx a b c tl jp kk k cal mc ms ls (.inr (.inl (.inr (.inl y))) :: rest) w g nc ns)
  | _ => false
noncomputable def zo_ladd : EOp := zo_lb (fun x y => x + y)
noncomputable def zo_lsub : EOp := zo_lb (fun x y => x - y)
noncomputable def zo_lmul : EOp := zo_lb (fun x y => x * y)
noncomputable def zo_land : EOp := zo_lb (fun x y => x &&& y)
noncomputable def zo_lor : EOp := zo_lb (fun x y => x ||| y)
noncomputable def zo_ldiv : EOp := zo_ldv (zo_lb (fun x y => x / y))
noncomputable def zo_lrem : EOp := zo_ldv (zo_lb (fun x y => x - x / y * y))
noncomputable def zo_lsf (f : Int64 → Int32 → Int64) : EOp := fun nx _ _ _ _ jp kk _ _ _ _ ls st w g nc ns => match st with
  | .inl (.inl y) :: .inr (.inl (.inr (.inl x))) :: rest => ze_f (ze_el (f (lN x) (nI y))) (fun r => kk nx ls (eL r :: rest) w g nc ns)
  | _ => false
noncomputable def zo_lshl : EOp := zo_lsf (fun x y => x <<< (y.toInt64 &&& 63))
noncomputable def zo_lshr : EOp := zo_lsf (fun x y => x >>> (y.toInt64 &&& 63))
noncomputable def zo_i2l : EOp := fun nx _ _ _ _ jp kk _ _ _ _ ls st w g nc ns => zl_ st (fun v rest => ze_rs g v (fun x => ze_f (ze_el (nI x).toInt64) (fun r => kk nx ls (eL r :: rest) w g nc ns)) (fun i => kk nx ls (eLU i :: rest) w g nc ns))
noncomputable def zo_l2i : EOp := fun nx _ _ _ _ jp kk _ _ _ _ ls st w g nc ns => match st with
  | .inr (.inl (.inr (.inl x))) :: rest => ze_f (ze_e (lN x).toInt32) (fun r => kk nx ls (eC r :: rest) w g nc ns)
  | _ => false
/-- constants: a -/
def zo_cst : EOp := fun nx a _ _ _ jp kk _ _ _ _ ls st w g nc ns => kk nx ls (eC a :: st) w g nc ns
def zo_lcst : EOp := fun nx a _ _ _ jp kk _ _ _ _ ls st w g nc ns => kk nx ls (eL a :: st) w g nc ns
def zo_null : EOp := fun nx _ _ _ _ jp kk _ _ _ _ ls st w g nc ns => kk nx ls (eX 0 :: st) w g nc ns
/-- locals: a -/
noncomputable def zo_iload : EOp := fun nx a _ _ _ jp kk _ _ _ _ ls st w g nc ns => ze_n ls a (fun v => zv_i v (fun u => kk nx ls (.inl u :: st) w g nc ns))
noncomputable def zo_lload : EOp := fun nx a _ _ _ jp kk _ _ _ _ ls st w g nc ns => ze_n ls a (fun v => zv_l v (fun u => kk nx ls (.inr (.inl (.inr u)) :: st) w g nc ns))
noncomputable def zo_aload : EOp := fun nx a _ _ _ jp kk _ _ _ _ ls st w g nc ns => ze_n ls a (fun v => zv_ v (fun _ => false) (fun u => kk nx ls (.inr (.inl (.inl u)) :: st) w g nc ns) (fun _ => false) (fun u => cond (Nat.beq u 1) false (kk nx ls (.inr (.inr u) :: st) w g nc ns)))
noncomputable def ze_cl (u : EV) : EV := Sum.rec (motive := fun _ => EV) (fun q => .inl q) (fun u => Sum.rec (motive := fun _ => EV) (fun z => Sum.rec (motive := fun _ => EV) (fun q => .inr (.inl (.inl q))) (fun _ => eX 1) z) (fun q => .inr (.inr q)) u) u
noncomputable def ze_st (v : EV) (ls : List EV) (i : Nat) : List EV := Nat.rec (motive := fun _ => List EV) (ze_s v ls 0) (fun j _ => ze_s v (ze_m ze_cl ls j) (Nat.succ j)) i
noncomputable def zo_istore : EOp := fun nx a _ _ _ jp kk _ _ _ _ ls st w g nc ns => zl_ st (fun v rest => zv_i v (fun u => kk nx (ze_st (.inl u) ls a) rest w g nc ns))
noncomputable def zo_astore : EOp := fun nx a _ _ _ jp kk _ _ _ _ ls st w g nc ns => zl_ st (fun v rest => zv_ v (fun _ => false) (fun u => kk nx (ze_st (.inr (.inl (.inl u))) ls a) rest w g nc ns) (fun _ => false) (fun u => cond (Nat.beq u 1) false (kk nx (ze_st (.inr (.inr u)) ls a) rest w g nc ns)))
noncomputable def zo_lstore : EOp := fun nx a _ _ _ jp kk _ _ _ _ ls st w g nc ns => zl_ st (fun v rest => zv_l v (fun u => kk nx (ze_s (eX 1) (ze_st (.inr (.inl (.inr u))) ls a) (Nat.succ a)) rest w g nc ns))
noncomputable def zo_iinc : EOp := fun nx a b _ _ jp kk _ _ _ _ ls st w g nc ns => ze_n ls a (fun v => ze_rs g v (fun x => ze_f (Nat.mod (Nat.add x b) 4294967296) (fun r => kk nx (ze_st (eC r) ls a) st w g nc ns))
    (fun _ => ze_f g.length (fun i => kk nx (ze_st (eU i) ls a) st w (g ++ [(0, 4294967295)]) nc ns)))
/-- the stack -/
noncomputable def ze_ct (v : EV) : Nat := Sum.rec (motive := fun _ => Nat) (fun _ => 1) (fun u => Sum.rec (motive := fun _ => Nat) (fun z => Sum.rec (motive := fun _ => Nat) (fun _ => 1) (fun _ => 2) z) (fun _ => 1) u) v
noncomputable def zo_dup : EOp := fun nx _ _ _ _ jp kk _ _ _ _ ls st w g nc ns => zl_ st (fun v rest => cond (Nat.beq (ze_ct v) 1) (kk nx ls (v :: v :: rest) w g nc ns) false)
noncomputable def zo_pop : EOp := fun nx _ _ _ _ jp kk _ _ _ _ ls st w g nc ns => zl_ st (fun v rest => cond (Nat.beq (ze_ct v) 1) (kk nx ls rest w g nc ns) false)
noncomputable def zo_dup_x1 : EOp := fun nx _ _ _ _ jp kk _ _ _ _ ls st w g nc ns => match st with
  | v :: u :: rest => cond (Nat.beq (ze_ct v) 1) (cond (Nat.beq (ze_ct u) 1) (kk nx ls (v :: u :: v :: rest) w g nc ns) false) false
  | _ => false
noncomputable def zo_dup_x2 : EOp := fun nx _ _ _ _ jp kk _ _ _ _ ls st w g nc ns => match st with
  | v :: u :: z :: rest => cond (Nat.beq (ze_ct v) 1) (cond (Nat.beq (ze_ct u) 1) (cond (Nat.beq (ze_ct z) 1) (kk nx ls (v :: u :: z :: v :: rest) w g nc ns) false) false) false
  | _ => false
noncomputable def zo_dup2 : EOp := fun nx _ _ _ _ jp kk _ _ _ _ ls st w g nc ns => match st with
  | v :: u :: rest => cond (Nat.beq (ze_ct v) 1) (cond (Nat.beq (ze_ct u) 1) (kk nx ls (v :: u :: v :: u :: rest) w g nc ns) false) false
  | _ => false
/-- branches: a is the target's row -/
noncomputable def zo_b2 (f : EG → EV → EV → (EG → Bool) → (EG → Bool) → Bool) : EOp := fun nx a _ _ _ jp kk _ _ _ _ ls st w g nc ns => zl_ st (fun v2 t => zl_ t (fun v1 rest => f g v1 v2 (fun g => jp a (fun cs => kk cs ls rest w g nc ns)) (fun g => kk nx ls rest w g nc ns)))
noncomputable def zo_b1 (f : EG → EV → EV → (EG → Bool) → (EG → Bool) → Bool) : EOp := fun nx a _ _ _ jp kk _ _ _ _ ls st w g nc ns => zl_ st (fun v1 rest => f g v1 (eC 0) (fun g => jp a (fun cs => kk cs ls rest w g nc ns)) (fun g => kk nx ls rest w g nc ns))
noncomputable def zc_eq : EG → EV → EV → (EG → Bool) → (EG → Bool) → Bool := fun g x y t f => ze_eq g x y t f
noncomputable def zc_ne : EG → EV → EV → (EG → Bool) → (EG → Bool) → Bool := fun g x y t f => ze_eq g x y f t
noncomputable def zc_lt : EG → EV → EV → (EG → Bool) → (EG → Bool) → Bool := fun g x y t f => ze_lt g x y t f
noncomputable def zc_ge : EG → EV → EV → (EG → Bool) → (EG → Bool) → Bool := fun g x y t f => ze_lt g x y f t
noncomputable def zc_gt : EG → EV → EV → (EG → Bool) → (EG → Bool) → Bool := fun g x y t f => ze_lt g y x t f
noncomputable def zc_le : EG → EV → EV → (EG → Bool) → (EG → Bool) → Bool := fun g x y t f => ze_lt g y x f t
noncomputable def zo_if (c : Jvm.ClassFile.Cond) : EOp := Jvm.ClassFile.Cond.rec (motive := fun _ => EOp) (zo_b1 zc_eq) (zo_b1 zc_ne) (zo_b1 zc_lt) (zo_b1 zc_ge) (zo_b1 zc_gt) (zo_b1 zc_le) c
noncomputable def zo_icmp (c : Jvm.ClassFile.Cond) : EOp := Jvm.ClassFile.Cond.rec (motive := fun _ => EOp) (zo_b2 zc_eq) (zo_b2 zc_ne) (zo_b2 zc_lt) (zo_b2 zc_ge) (zo_b2 zc_gt) (zo_b2 zc_le) c
def zo_goto : EOp := fun _ a _ _ _ jp kk _ _ _ _ ls st w g nc ns => jp a (fun cs => kk cs ls st w g nc ns)
def zo_ifnull : EOp := fun nx a _ _ _ jp kk _ _ _ _ ls st w g nc ns => match st with
  | .inr (.inl (.inl _)) :: rest => kk nx ls rest w g nc ns
  | .inr (.inr 0) :: rest => jp a (fun cs => kk cs ls rest w g nc ns)
  | _ => false
def zo_ifnonnull : EOp := fun nx a _ _ _ jp kk _ _ _ _ ls st w g nc ns => match st with
  | .inr (.inl (.inl _)) :: rest => jp a (fun cs => kk cs ls rest w g nc ns)
  | .inr (.inr 0) :: rest => kk nx ls rest w g nc ns
  | _ => false
/-- switches: a: row of the default; list: numbers (with 2^31 added) and rows, one behind the other -/
noncomputable def ze_tg (z a : Nat) (tl : List Nat) : Bool → Nat → Nat := List.rec (motive := fun _ => Bool → Nat → Nat) (fun _ _ => a) (fun t _ ih odd m => cond odd (cond (Nat.beq m z) t (ih false 0)) (ih true t)) tl
noncomputable def zo_swu (i a : Nat) (tl : List Nat) (go : Nat → EG → Bool) : Bool → Nat → EG → Bool := List.rec (motive := fun _ => Bool → Nat → EG → Bool) (fun _ _ g => go a g) (fun t _ ih odd m g => cond odd (ze_eu g i m (fun g => go t g) (fun g => ih false 0 g)) (ih true t g)) tl
noncomputable def zo_sw : EOp := fun _ a _ _ tl jp kk _ _ _ _ ls st w g nc ns => zl_ st (fun v rest => ze_rs g v (fun x => ze_f (ze_tg (ze_z x) a tl false 0) (fun t => jp t (fun cs => kk cs ls rest w g nc ns))) (fun i => zo_swu i a tl (fun t g => jp t (fun cs => kk cs ls rest w g nc ns)) false 0 g))
/-- fields: a class, b place, c type (0 int, 1 boolean, 2 reference, 3 long) -/
noncomputable def zo_getf_m : EOp := fun nx a b _ _ jp kk _ _ _ _ ls st w g nc ns => match st with
  | .inr (.inl (.inl q)) :: rest => ze_g w q (fun c => cond (Nat.beq c.1 a) (ze_n c.2 b (fun v => kk nx ls (v :: rest) w g nc ns)) false)
  | _ => false
noncomputable def zo_getf : EOp := fun nx a b _ _ jp kk _ _ _ _ ls st w g nc ns => zl_ st (fun v rest => zv_r v (fun q => ze_g w q (fun c => cond (Nat.beq c.1 a) (ze_n c.2 b (fun v => kk nx ls (v :: rest) w g nc ns)) false)))
theorem zo_getf_eq : zo_getf = zo_getf_m := by
  funext nx a b c tl jp kk k cal mc ms ls st w g nc ns
  rcases st with _ | ⟨v, r⟩
  · rfl
  · rcases v with (n | i) | ((q | (l | u)) | x) <;> rfl
noncomputable def ze_tc (t : Nat) (v : EV) : Bool := Nat.rec (motive := fun _ => Bool) (zv_i v (fun _ => true)) (fun t _ => Nat.rec (motive := fun _ => Bool) (zv_c v (fun n => Nat.ble n 1)) (fun t _ => Nat.rec (motive := fun _ => Bool) (zv_ v (fun _ => false) (fun _ => true) (fun _ => false) (fun k => Nat.rec (motive := fun _ => Bool) true (fun _ _ => false) k))
  (fun t _ => Nat.rec (motive := fun _ => Bool) (zv_l v (fun _ => true)) (fun t _ => Nat.rec (motive := fun _ => Bool) (zv_c v (fun n => Nat.ble n 65535)) (fun _ _ => false) t) t) t) t) t
noncomputable def zo_putf_m : EOp := fun nx a b c _ jp kk _ _ _ _ ls st w g nc ns => match st with
  | v :: .inr (.inl (.inl q)) :: rest => cond (ze_tc c v) (ze_g w q (fun e => cond (Nat.beq e.1 a) (ze_n e.2 b (fun _ => kk nx ls rest (ze_ws w q (a, ze_s v e.2 b)) g nc ns)) false)) false
  | _ => false
noncomputable def zo_putf : EOp := fun nx a b c _ jp kk _ _ _ _ ls st w g nc ns => zl_ st (fun v t => zl_ t (fun r rest => zv_r r (fun q => cond (ze_tc c v) (ze_g w q (fun e => cond (Nat.beq e.1 a) (ze_n e.2 b (fun _ => kk nx ls rest (ze_ws w q (a, ze_s v e.2 b)) g nc ns)) false)) false)))
theorem zo_putf_eq : zo_putf = zo_putf_m := by
  funext nx a b c tl jp kk k cal mc ms ls st w g nc ns
  rcases st with _ | ⟨v, r⟩
  · rfl
  · rcases r with _ | ⟨v2, r⟩
    · rcases v with (n | i) | ((q | (l | u)) | x) <;> rfl
    · rcases v with (n | i) | ((q | (l | u)) | x) <;> rcases v2 with (n2 | i2) | ((q2 | (l2 | u2)) | x2) <;> rfl
/-- arrays of a kind -/
noncomputable def zo_ald_m (kd : Nat) : EOp := fun nx _ _ _ _ jp kk _ _ _ _ ls st w g nc ns => match st with
  | i :: .inr (.inl (.inl q)) :: rest => ze_ix g i (fun n g => cond (Nat.ble n 1073741824) (ze_g w q (fun c => cond (Nat.beq c.1 kd) (ze_n c.2 n (fun v => kk nx ls (v :: rest) w g nc ns)) false)) false)
  | _ => false
noncomputable def zo_ald (kd : Nat) : EOp := fun nx _ _ _ _ jp kk _ _ _ _ ls st w g nc ns => zl_ st (fun i t => zl_ t (fun r rest => zv_r r (fun q => ze_ix g i (fun n g => cond (Nat.ble n 1073741824) (ze_g w q (fun c => cond (Nat.beq c.1 kd) (ze_n c.2 n (fun v => kk nx ls (v :: rest) w g nc ns)) false)) false))))
theorem zo_ald_eq (kd : Nat) : zo_ald kd = zo_ald_m kd := by
  funext nx a b c tl jp kk k cal mc ms ls st w g nc ns
  rcases st with _ | ⟨v, r⟩
  · rfl
  · rcases r with _ | ⟨v2, r⟩
    · rcases v with (n | i) | ((q | (l | u)) | x) <;> rfl
    · rcases v with (n | i) | ((q | (l | u)) | x) <;> rcases v2 with (n2 | i2) | ((q2 | (l2 | u2)) | x2) <;> rfl
/-- the script, at place 2 of the special ones: its numbers are the first unknowns; it has b of them -/
noncomputable def zo_iald : EOp := fun nx a b c tl jp kk k cal mc ms ls st w g nc ns => match st with
  | .inl (.inl n) :: .inr (.inr s) :: rest => cond (Nat.beq s 2) (cond (Nat.ble (Nat.succ n) 5) (kk nx ls (eU n :: rest) w g nc ns) false) false
  | st => zo_ald 100 nx a b c tl jp kk k cal mc ms ls st w g nc ns
/-- is a class one that arrays are made of -/
noncomputable def ze_mem (n : Nat) (l : List Nat) : Bool := List.rec (motive := fun _ => Bool) false (fun a _ ih => cond (Nat.beq a n) true ih) l
noncomputable def zo_aald_m : EOp := fun nx _ _ _ _ jp kk _ _ _ _ ls st w g nc ns => match st with
  | i :: .inr (.inl (.inl q)) :: rest => ze_ix g i (fun n g => cond (Nat.ble n 1073741824) (ze_g w q (fun c => cond (Nat.ble 200 c.1) (cond (ze_mem (Nat.sub c.1 200) ze_rk) (ze_n c.2 n (fun v => kk nx ls (v :: rest) w g nc ns)) false) false)) false)
  | _ => false
noncomputable def zo_aald : EOp := fun nx _ _ _ _ jp kk _ _ _ _ ls st w g nc ns => zl_ st (fun i t => zl_ t (fun r rest => zv_r r (fun q => ze_ix g i (fun n g => cond (Nat.ble n 1073741824) (ze_g w q (fun c => cond (Nat.ble 200 c.1) (cond (ze_mem (Nat.sub c.1 200) ze_rk) (ze_n c.2 n (fun v => kk nx ls (v :: rest) w g nc ns)) false) false)) false))))
theorem zo_aald_eq : zo_aald = zo_aald_m := by
  funext nx a b c tl jp kk k cal mc ms ls st w g nc ns
  rcases st with _ | ⟨v, r⟩
  · rfl
  · rcases r with _ | ⟨v2, r⟩
    · rcases v with (n | i) | ((q | (l | u)) | x) <;> rfl
    · rcases v with (n | i) | ((q | (l | u)) | x) <;> rcases v2 with (n2 | i2) | ((q2 | (l2 | u2)) | x2) <;> rfl
noncomputable def zo_put (kd : Nat) (v i : EV) (q : Nat) (nx : List ECE) (kk : EKn) (ls rest : List EV) (w : EW) (g : EG) (nc ns : Nat) : Bool := ze_ix g i (fun n g => cond (Nat.ble n 1073741824) (ze_g w q (fun c => cond (Nat.beq c.1 kd) (ze_n c.2 n (fun _ => kk nx ls rest (ze_ws w q (kd, ze_s v c.2 n)) g nc ns)) false)) false)
noncomputable def zo_iast_m : EOp := fun nx _ _ _ _ jp kk _ _ _ _ ls st w g nc ns => match st with
  | .inl u :: i :: .inr (.inl (.inl q)) :: rest => zo_put 100 (.inl u) i q nx kk ls rest w g nc ns
  | _ => false
noncomputable def zo_iast : EOp := fun nx _ _ _ _ jp kk _ _ _ _ ls st w g nc ns => zl_ st (fun v t => zl_ t (fun i t => zl_ t (fun r rest => zv_r r (fun q => zv_i v (fun u => zo_put 100 (.inl u) i q nx kk ls rest w g nc ns)))))
theorem zo_iast_eq : zo_iast = zo_iast_m := by
  funext nx a b c tl jp kk k cal mc ms ls st w g nc ns
  rcases st with _ | ⟨v, r⟩
  · rfl
  · rcases r with _ | ⟨v2, r⟩
    · rcases v with (n | i) | ((q | (l | u)) | x) <;> rfl
    · rcases r with _ | ⟨v3, r⟩
      · rcases v with (n | i) | ((q | (l | u)) | x) <;> rcases v2 with (n2 | i2) | ((q2 | (l2 | u2)) | x2) <;> rfl
      · rcases v with (n | i) | ((q | (l | u)) | x) <;> rcases v2 with (n2 | i2) | ((q2 | (l2 | u2)) | x2) <;> rcases v3 with (n3 | i3) | ((q3 | (l3 | u3)) | x3) <;> rfl
noncomputable def zo_cast : EOp := fun nx _ _ _ _ jp kk _ _ _ _ ls st w g nc ns => match st with
  | .inl (.inl u) :: i :: .inr (.inl (.inl q)) :: rest => cond (Nat.ble u 65535) (zo_put 101 (.inl (.inl u)) i q nx kk ls rest w g nc ns) false
  | .inl (.inr _) :: i :: .inr (.inl (.inl q)) :: rest => ze_f g.length (fun z => zo_put 101 (eU z) i q nx kk ls rest w (g ++ [(0, 4294967295)]) nc ns)
  | _ => false
noncomputable def zo_bast : EOp := fun nx _ _ _ _ jp kk _ _ _ _ ls st w g nc ns => match st with
  | .inl (.inl u) :: i :: .inr (.inl (.inl q)) :: rest => cond (Nat.ble u 1) (zo_put 104 (.inl (.inl u)) i q nx kk ls rest w g nc ns) false
  | _ => false
noncomputable def zo_last : EOp := fun nx _ _ _ _ jp kk _ _ _ _ ls st w g nc ns => match st with
  | .inr (.inl (.inr u)) :: i :: .inr (.inl (.inl q)) :: rest => zo_put 150 (.inr (.inl (.inr u))) i q nx kk ls rest w g nc ns
  | _ => false
/-- an array of objects of class kd - 200 -/
noncomputable def zo_aast : EOp := fun nx _ _ _ _ jp kk _ _ _ _ ls st w g nc ns => match st with
  | .inr (.inl (.inl u)) :: i :: .inr (.inl (.inl q)) :: rest => ze_g w u (fun o => cond (ze_mem o.1 ze_rk) (zo_put (Nat.add 200 o.1) (.inr (.inl (.inl u))) i q nx kk ls rest w g nc ns) false)
  | _ => false
noncomputable def zo_alen : EOp := fun nx _ _ _ _ jp kk _ _ _ _ ls st w g nc ns => match st with
  | .inr (.inl (.inl q)) :: rest => ze_g w q (fun c => cond (ze_mem c.1 ze_ka) (ze_f c.2.length (fun n => kk nx ls (eC n :: rest) w g nc ns)) false)
  | .inr (.inr s) :: rest => cond (Nat.beq s 2) (kk nx ls (eC 5 :: rest) w g nc ns) false
  | _ => false
/-- a new array: a its kind, b the default (0: 0, 1: 0L, 2: null) -/
def ze_df (t : Nat) : EV := match t with
  | 2 => eX 0
  | 3 => eL 0
  | _ => eC 0
noncomputable def zo_mk (w : EW) (c : EC) (n : Nat) (nx : List ECE) (mc ms : Nat) (kk : EKn) (ls rest : List EV) (g : EG) (nc ns : Nat) : Bool := cond (Nat.ble (Nat.succ nc) mc) (cond (Nat.ble (Nat.add ns n) ms) (ze_wp w c (fun w2 => kk nx ls (eR w.1 :: rest) w2 g (Nat.succ nc) (Nat.add ns n))) false) false
noncomputable def zo_newa : EOp := fun nx a b _ _ jp kk _ _ mc ms ls st w g nc ns => match st with
  | .inl (.inl n) :: rest => cond (Nat.ble n 1048576) (zo_mk w (a, List.replicate n (ze_df b)) n nx mc ms kk ls rest g nc ns) false
  | _ => false
/-- a new object: a its class, list: the types of its fields -/
noncomputable def zo_new : EOp := fun nx a _ _ tl jp kk _ _ mc ms ls st w g nc ns => ze_f tl.length (fun n => zo_mk w (a, tl.map ze_df) n nx mc ms kk ls st g nc ns)
/-- a call: a method, b arguments (this too), c 0: no 'this', else 1 and its class; list: cells and slots that it makes -/
noncomputable def ze_cs (l : List EV) : Nat := List.rec (motive := fun _ => Nat) 0 (fun v _ ih => Nat.add (ze_ct v) ih) l
noncomputable def ze_tk (n : Nat) (st acc : List EV) (f : List EV → List EV → Bool) : Bool := Nat.rec (motive := fun _ => List EV → List EV → Bool) (fun st acc => f acc st) (fun _ ih st acc => zl_ st (fun v r => ih r (v :: acc))) n st acc
noncomputable def ze_pu (r : Option EV) (rest : List EV) : List EV := Option.rec (motive := fun _ => List EV) rest (fun v => v :: rest) r
noncomputable def ze_rc (w : EW) (c : Nat) (av : List EV) : Bool := Nat.rec (motive := fun _ => Bool) true (fun ci _ => zl_ av (fun v _ => zv_r v (fun q => ze_g w q (fun e => Nat.beq e.1 ci)))) c
theorem ze_rc_eq (w : EW) (ci : Nat) (av : List EV) : ze_rc w (ci + 1) av = (match av with
      | .inr (.inl (.inl q)) :: _ => ze_g w q (fun e => Nat.beq e.1 ci)
      | _ => false) := by
  rcases av with _ | ⟨v, r⟩
  · rfl
  · rcases v with (n | i) | ((q | (l | u)) | x) <;> rfl
/-- cells and slots of a call, or what goes without -/
noncomputable def zl_2 (tl : List Nat) (f : Nat → Nat → Bool) (d : Bool) : Bool := List.rec (motive := fun _ => Bool) d (fun a r _ => List.rec (motive := fun _ => Bool) false (fun b _ _ => f a b) r) tl
noncomputable def zo_call (a b c cy sy : Nat) : EOp := fun nx _ _ _ _ jp kk _ cal mc ms ls st w g nc ns => ze_tk b st [] (fun av rest => cond (ze_rc w c av) (cond (Nat.ble (ze_cs rest) 8) (cond (Nat.ble (Nat.add nc cy) mc) (cond (Nat.ble (Nat.add ns sy) ms)
    (cal a av w g (fun r w g => kk nx ls (ze_pu r rest) w g (Nat.add nc cy) (Nat.add ns sy))) false) false) false) false)
noncomputable def zo_inv : EOp := fun nx a b c tl jp kk k cal mc ms ls st w g nc ns => zl_2 tl (fun cy sy => zo_call a b c cy sy nx a b c tl jp kk k cal mc ms ls st w g nc ns) false
/-- the receiver, below so many arguments, is a reference -/
noncomputable def ze_rr (n : Nat) : List EV → Bool := Nat.rec (motive := fun _ => List EV → Bool) (fun st => zl_ st (fun v _ => zv_r v (fun _ => true))) (fun _ ih st => zl_ st (fun _ r => ih r)) n
noncomputable def zo_spec : EOp := fun nx a b c tl jp kk k cal mc ms ls st w g nc ns => zl_2 tl (fun cy sy => cond (ze_rr (Nat.pred b) st) (zo_call a b c cy sy nx a b c tl jp kk k cal mc ms ls st w g nc ns) false) (zl_ st (fun v rest => zv_r v (fun _ => cond (Nat.ble (ze_cs rest) 8) (kk nx ls rest w g nc ns) false)))
/-- n of the list s from i on over the list d from j on -/
noncomputable def ze_cp (s d : List EV) (i j n : Nat) (f : List EV → Bool) : Bool := Nat.rec (motive := fun _ => List EV → Nat → Nat → Bool) (fun d _ _ => f d) (fun _ ih d i j => ze_n s i (fun v => ze_n d j (fun _ => ih (ze_s v d j) (Nat.succ i) (Nat.succ j)))) n d i j
noncomputable def zo_copy : EOp := fun nx _ _ _ _ jp kk _ _ _ _ ls st w g nc ns => match st with
    | .inl (.inl n) :: .inl (.inl dp) :: .inr (.inl (.inl d)) :: .inl (.inl p0) :: .inr (.inl (.inl s)) :: rest =>
      cond (cond (Nat.ble 1 n) (Nat.ble n 1048576) false) (cond (Nat.ble dp 1048576) (cond (Nat.ble p0 1048576) (cond (Nat.ble (ze_cs rest) 8) (ze_g w s (fun cs => cond (Nat.beq cs.1 100) (ze_g w d (fun cd => cond (Nat.beq cd.1 100) (ze_cp cs.2 cd.2 p0 dp n (fun l => kk nx ls rest (ze_ws w d (100, l)) g nc ns)) false)) false)) false) false) false) false
    | _ => false
noncomputable def zo_stat : EOp := fun nx a b c tl jp kk k cal mc ms ls st w g nc ns => zl_2 tl (fun cy sy => zo_call a b c cy sy nx a b c tl jp kk k cal mc ms ls st w g nc ns) (zo_copy nx a b c tl jp kk k cal mc ms ls st w g nc ns)
/-- ends -/
def ze_end (nc ns mc ms : Nat) (x : Bool) : Bool := cond (Nat.ble nc mc) (cond (Nat.ble ns ms) x false) false
noncomputable def zo_ireturn : EOp := fun _ a _ _ _ _ _ k _ mc ms _ st w g nc ns => zl_ st (fun v r => zl_0 r (zv_i v (fun u => cond (ze_tc a (.inl u)) (ze_end nc ns mc ms (k (some (.inl u)) w g)) false)))
noncomputable def zo_lreturn : EOp := fun _ _ _ _ _ _ _ k _ mc ms _ st w g nc ns => zl_ st (fun v r => zl_0 r (zv_l v (fun u => ze_end nc ns mc ms (k (some (.inr (.inl (.inr u)))) w g))))
noncomputable def zo_areturn : EOp := fun _ _ _ _ _ _ _ k _ mc ms _ st w g nc ns => zl_ st (fun v r => zl_0 r (zv_r v (fun u => ze_end nc ns mc ms (k (some (.inr (.inl (.inl u)))) w g))))
noncomputable def zo_return : EOp := fun _ _ _ _ _ _ _ k _ mc ms _ st w g nc ns => zl_0 st (ze_end nc ns mc ms (k none w g))
/-- a long that is an int: as an int -/
def ze_lr (n : Nat) : Bool := Nat.ble (Nat.mod (Nat.add n 2147483648) 18446744073709551616) 4294967295
theorem ze_lr_eq {n : Nat} (h : ze_lr n = true) : (n + 2147483648) % 18446744073709551616 ≤ 4294967295 := Nat.le_of_ble_eq_true h
def ze_l32 (n : Nat) : Nat := Nat.mod n 4294967296
theorem ze_l32_eq (n : Nat) : ze_l32 n = n % 4294967296 := rfl
noncomputable def ze_li (ck : Nat → Bool) (cv : Nat → Nat) (v : Nat ⊕ Nat) (f : EV → Bool) (d : Bool) : Bool := zv_s v (fun n => cond (ck n) (f (.inl (.inl (cv n)))) d) (fun i => f (.inl (.inr i)))
noncomputable def zo_lcc (x y : Nat ⊕ Nat) (nx : List ECE) (kk : EKn) (ls rest : List EV) (w : EW) (g : EG) (nc ns : Nat) : Bool := match x, y with
  | .inl x, .inl y => cond (decide (lN x < lN y)) (kk nx ls (eC 4294967295 :: rest) w g nc ns) (cond (decide (lN y < lN x)) (kk nx ls (eC 1 :: rest) w g nc ns) (kk nx ls (eC 0 :: rest) w g nc ns))
  | _, _ => false
noncomputable def zo_lcmp : EOp := fun nx _ _ _ _ jp kk _ _ _ _ ls st w g nc ns => match st with
  | .inr (.inl (.inr y)) :: .inr (.inl (.inr x)) :: rest => ze_li ze_lr ze_l32 x (fun x2 => ze_li ze_lr ze_l32 y (fun y2 => ze_lt g x2 y2 (fun g => kk nx ls (eC 4294967295 :: rest) w g nc ns) (fun g => ze_lt g y2 x2 (fun g => kk nx ls (eC 1 :: rest) w g nc ns) (fun g => kk nx ls (eC 0 :: rest) w g nc ns)))
      (zo_lcc x y nx kk ls rest w g nc ns)) (zo_lcc x y nx kk ls rest w g nc ns)
  | _ => false
end
section
/-- which op an instruction is -/
noncomputable def ze_do (i : Jvm.ClassFile.Instr) : EOp := Jvm.ClassFile.Instr.rec (motive := fun _ => EOp)
  zo_aald zo_aast zo_null (fun _ => zo_aload) (fun _ => zo_aload) (fun _ => zo_newa) zo_areturn zo_alen (fun _ => zo_astore) (fun _ => zo_astore) zo_no (zo_ald 104) zo_bast (fun _ => zo_cst) (zo_ald 101) zo_cast (fun _ => zo_no) zo_no zo_no zo_no zo_no zo_no zo_no (fun _ => zo_no) (fun _ => zo_no) zo_no (fun _ => zo_no) (fun _ => zo_no) zo_no zo_no zo_no zo_no (fun _ => zo_no) (fun _ => zo_no) zo_no zo_dup zo_dup_x1 zo_dup_x2 zo_dup2 zo_no zo_no zo_no zo_no zo_no zo_no zo_no zo_no (fun _ => zo_no) (fun _ => zo_no) zo_no (fun _ => zo_no) (fun _ => zo_no) zo_no zo_no zo_no zo_no (fun _ => zo_no) (fun _ => zo_no) zo_no (fun _ => zo_getf) (fun _ => zo_no) (fun _ => zo_goto) (fun _ => zo_no) zo_i2b zo_i2c zo_no zo_no zo_i2l zo_i2s zo_iadd zo_iald zo_iand zo_iast (fun _ => zo_cst) zo_idiv (fun _ _ => zo_no) (fun c _ => zo_icmp c) (fun c _ => zo_if c) (fun _ => zo_ifnonnull) (fun _ => zo_ifnull) (fun _ _ => zo_iinc) (fun _ => zo_iload) (fun _ => zo_iload) zo_imul zo_ineg (fun _ => zo_no) (fun _ => zo_no) (fun _ _ => zo_no) (fun _ => zo_spec) (fun _ => zo_stat) (fun _ => zo_inv) zo_ior zo_irem zo_ireturn zo_ishl zo_ishr (fun _ => zo_istore) (fun _ => zo_istore) zo_isub zo_iushr zo_ixor (fun _ => zo_no) (fun _ => zo_no) zo_no zo_no zo_l2i zo_ladd (zo_ald 150) zo_land zo_last zo_lcmp (fun _ => zo_lcst) (fun _ => zo_cst) (fun _ => zo_cst) (fun _ => zo_lcst) zo_ldiv (fun _ => zo_lload) (fun _ => zo_lload) zo_lmul zo_no (fun _ _ => zo_sw) zo_lor zo_lrem zo_lreturn zo_lshl zo_lshr (fun _ => zo_lstore) (fun _ => zo_lstore) zo_lsub zo_no zo_no zo_no zo_no (fun _ _ => zo_no) (fun _ => zo_new) (fun _ => zo_newa) zo_no zo_pop zo_no (fun _ => zo_putf) (fun _ => zo_no) (fun _ => zo_no) zo_return zo_no zo_no (fun _ => zo_cst) zo_no (fun _ _ _ _ => zo_sw) i
noncomputable def ze_loop (jp : EJp) (cal : ECal) (mc ms : Nat) (k : ERt) (n : Nat) : EKn := Nat.rec (motive := fun _ => EKn) (fun _ _ _ _ _ _ _ => false) (fun _ ih cs ls st w g nc ns => List.rec (motive := fun _ => Bool) false (fun e r _ => ze_do e.1 r e.2.2.1 e.2.2.2.1 e.2.2.2.2.1 e.2.2.2.2.2 jp ih k cal mc ms ls st w g nc ns) cs) n
/-- a jump: the rows from each sixteenth on, so many dropped -/
noncomputable def ze_dr (f : List ECE → Bool) (n : Nat) : List ECE → Bool := Nat.rec (motive := fun _ => List ECE → Bool) (fun cs => f cs) (fun _ ih cs => List.rec (motive := fun _ => Bool) false (fun _ r _ => ih r) cs) n
noncomputable def ze_jp (jt : List (List ECE)) : EJp := fun a f => ze_n jt (Nat.div a 16) (fun cs => ze_dr f (Nat.mod a 16) cs)
/-- locals at the start -/
noncomputable def ze_pad (n : Nat) : List EV := Nat.rec (motive := fun _ => List EV) [] (fun _ ih => eX 1 :: ih) n
noncomputable def ze_il (av : List EV) : Nat → List EV := List.rec (motive := fun _ => Nat → List EV) (fun n => ze_pad n) (fun v _ ih n => v :: (cond (Nat.beq (ze_ct v) 2) (eX 1 :: ih (Nat.sub n 2)) (ih (Nat.sub n 1)))) av
/-- a method: code, locals, cells and slots that it makes at most -/
abbrev EM : Type := List (List ECE) × Nat × Nat × Nat
noncomputable def ze_ex (pr : List (List EM)) (d : Nat) : ECal := Nat.rec (motive := fun _ => ECal) (fun _ _ _ _ _ => false) (fun _ ih y av w g k => ze_n pr (Nat.div y 16) (fun ch => ze_n ch (Nat.mod y 16) (fun m => cond (Nat.ble (ze_cs av) m.2.1) (ze_jp m.1 0 (fun cs => ze_loop (ze_jp m.1) ih m.2.2.1 m.2.2.2 k 1000000000 cs (ze_il av m.2.1) [] w g 0 0)) false))) d
end
section
/-! THE ENGINE, part 4: worlds and locals. 'vwCl': the classes (names); 'ze_arr': the kinds of arrays and their types; 'ze_nest': the links of nest mates; 'ze_ao': classes that arrays are made of. -/
def ze_K (dC : Nat → ClassId) (dI : Nat → Nat → Nat) (dA : Nat → ClassId) (U : State) : Prop :=
  (∀ (c : Nat) (q : vw_C), vwCl[c]? = some q → u_Kn U q.1 q.2.1 q.2.2 (dC c) (dI c)) ∧ (∀ (kd : Nat) (ty : FieldType), (kd, ty) ∈ ze_arr → ArrOfT U (dA kd) ty ∧ va_RA U (dA kd) ty) ∧ (∀ w ∈ ze_nest, va_Nw w U) ∧ ∀ C ∈ ze_ao, va_AO C U
theorem ze_K.k0 {dC : Nat → ClassId} {dI : Nat → Nat → Nat} {dA : Nat → ClassId} {U : State} (h : ze_K dC dI dA U) : va_K (dC, dI) vwCl [] U := ⟨h.1, fun k q hk => by simp at hk⟩
theorem ze_K.k1 {dC : Nat → ClassId} {dI : Nat → Nat → Nat} {dA : Nat → ClassId} {U : State} (h : ze_K dC dI dA U) {kd : Nat} {ty : FieldType} (hk : (kd, ty) ∈ ze_arr) : va_K (dC, dI) vwCl [(dA kd, ty)] U := by
  refine ⟨h.1, fun k q hq => ?_⟩
  cases k with
  | zero => simp at hq; subst hq; exact h.2.1 kd ty hk
  | succ k => simp at hq
/-- a cell -/
def ze_C (dA : Nat → ClassId) (sp : Nat → Nat) (ρ : List Int32) (ad : List Nat) (c : EC) (e : va_E) : Prop :=
  (c.1 < 100 ∧ ∃ fs, e = .inr (c.1, fs) ∧ ze_L sp ρ ad c.2 fs) ∨
  (100 ≤ c.1 ∧ c.1 < 150 ∧ ∃ f : Nat → Int32, e = .inl (dA c.1, c.2.length, .inl f) ∧ ∀ (j : Nat) (v : EV), c.2[j]? = some v → ze_V sp ρ ad v (.int (f j))) ∨
  (150 ≤ c.1 ∧ c.1 < 200 ∧ ∃ f : Nat → Int64, e = .inl (dA c.1, c.2.length, .inr (.inl f)) ∧ ∀ (j : Nat) (v : EV), c.2[j]? = some v → ze_V sp ρ ad v (.long (f j))) ∨
  (200 ≤ c.1 ∧ ∃ f : Nat → Option Nat, e = .inl (dA c.1, c.2.length, .inr (.inr (.inr (.inr f)))) ∧ ∀ (j : Nat) (v : EV), c.2[j]? = some v → ze_V sp ρ ad v (va_rf (f j)))
theorem ze_C.mono {dA : Nat → ClassId} {sp : Nat → Nat} {ρ ρ' : List Int32} {ad ad' : List Nat} (h1 : ρ <+: ρ') (h2 : ad <+: ad') {c : EC} {e : va_E} (h : ze_C dA sp ρ ad c e) : ze_C dA sp ρ' ad' c e := by
  rcases h with ⟨a, fs, b, q⟩ | ⟨a, a2, f, b, q⟩ | ⟨a, a2, f, b, q⟩ | ⟨a, f, b, q⟩
  · exact Or.inl ⟨a, fs, b, q.mono h1 h2⟩
  · exact Or.inr (Or.inl ⟨a, a2, f, b, fun j v hv => (q j v hv).mono h1 h2⟩)
  · exact Or.inr (Or.inr (Or.inl ⟨a, a2, f, b, fun j v hv => (q j v hv).mono h1 h2⟩))
  · exact Or.inr (Or.inr (Or.inr ⟨a, f, b, fun j v hv => (q j v hv).mono h1 h2⟩))
theorem ze_C.obj {dA : Nat → ClassId} {sp : Nat → Nat} {ρ : List Int32} {ad : List Nat} {c : EC} {e : va_E} (h : ze_C dA sp ρ ad c e) (hc : c.1 < 100) : ∃ fs, e = .inr (c.1, fs) ∧ ze_L sp ρ ad c.2 fs := by
  rcases h with ⟨a, q⟩ | ⟨a, a2, q⟩ | ⟨a, a2, q⟩ | ⟨a, q⟩
  · exact q
  · omega
  · omega
  · omega
theorem ze_C.ints {dA : Nat → ClassId} {sp : Nat → Nat} {ρ : List Int32} {ad : List Nat} {c : EC} {e : va_E} (h : ze_C dA sp ρ ad c e) (h1 : 100 ≤ c.1) (h2 : c.1 < 150) : ∃ f : Nat → Int32, e = .inl (dA c.1, c.2.length, .inl f) ∧ ∀ (j : Nat) (v : EV), c.2[j]? = some v → ze_V sp ρ ad v (.int (f j)) := by
  rcases h with ⟨a, q⟩ | ⟨a, a2, q⟩ | ⟨a, a2, q⟩ | ⟨a, q⟩
  · omega
  · exact q
  · omega
  · omega
theorem ze_C.longs {dA : Nat → ClassId} {sp : Nat → Nat} {ρ : List Int32} {ad : List Nat} {c : EC} {e : va_E} (h : ze_C dA sp ρ ad c e) (h1 : 150 ≤ c.1) (h2 : c.1 < 200) : ∃ f : Nat → Int64, e = .inl (dA c.1, c.2.length, .inr (.inl f)) ∧ ∀ (j : Nat) (v : EV), c.2[j]? = some v → ze_V sp ρ ad v (.long (f j)) := by
  rcases h with ⟨a, q⟩ | ⟨a, a2, q⟩ | ⟨a, a2, q⟩ | ⟨a, q⟩
  · omega
  · omega
  · exact q
  · omega
theorem ze_C.refs {dA : Nat → ClassId} {sp : Nat → Nat} {ρ : List Int32} {ad : List Nat} {c : EC} {e : va_E} (h : ze_C dA sp ρ ad c e) (h1 : 200 ≤ c.1) : ∃ f : Nat → Option Nat, e = .inl (dA c.1, c.2.length, .inr (.inr (.inr (.inr f)))) ∧ ∀ (j : Nat) (v : EV), c.2[j]? = some v → ze_V sp ρ ad v (va_rf (f j)) := by
  rcases h with ⟨a, q⟩ | ⟨a, a2, q⟩ | ⟨a, a2, q⟩ | ⟨a, q⟩
  · omega
  · omega
  · omega
  · exact q
/-- a world -/
def ze_W (dA : Nat → ClassId) (sp : Nat → Nat) (ρ : List Int32) (w : EW) (ws : va_W) : Prop := w.1 = ws.length ∧ ∀ (k : Nat) (c : EC), ze_gw w k = some c → ∃ (a : Nat) (e : va_E), ws[k]? = some (a, e) ∧ ze_C dA sp ρ (ws.map (·.1)) c e
theorem ze_W.rho {dA : Nat → ClassId} {sp : Nat → Nat} {ρ ρ' : List Int32} {w : EW} {ws : va_W} (h1 : ρ <+: ρ') (h : ze_W dA sp ρ w ws) : ze_W dA sp ρ' w ws :=
  ⟨h.1, fun k c hc => by obtain ⟨a, e, q1, q2⟩ := h.2 k c hc; exact ⟨a, e, q1, q2.mono h1 (List.prefix_refl _)⟩⟩
theorem ze_fst {ws : va_W} {k a : Nat} {e e' : va_E} (h : ws[k]? = some (a, e)) : (ws.set k (a, e')).map (·.1) = ws.map (·.1) := by
  apply List.ext_getElem?
  intro i
  rw [List.getElem?_map, List.getElem?_map]
  by_cases hi : k = i
  · subst hi
    rw [List.getElem?_set_self (List.getElem?_eq_some_iff.mp h).1, h]
    rfl
  · rw [List.getElem?_set_ne hi]
theorem ze_W.set {dA : Nat → ClassId} {sp : Nat → Nat} {ρ : List Int32} {w : EW} {ws : va_W} (h : ze_W dA sp ρ w ws) {k a : Nat} {e e' : va_E} {c' : EC} (hk : ws[k]? = some (a, e)) (hc : ze_C dA sp ρ (ws.map (·.1)) c' e') : ze_W dA sp ρ (ze_ws w k c') (ws.set k (a, e')) := by
  refine ⟨by rw [List.length_set]; exact h.1, fun j c hj => ?_⟩
  rw [ze_fst hk]
  rw [ze_ws_get] at hj
  by_cases hjk : j = k
  · subst hjk
    rw [if_pos rfl] at hj
    cases hg : ze_gw w j with
    | none => rw [hg] at hj; cases hj
    | some c0 =>
      rw [hg] at hj
      cases hj
      exact ⟨a, e', List.getElem?_set_self (List.getElem?_eq_some_iff.mp hk).1, hc⟩
  · rw [if_neg hjk] at hj
    obtain ⟨a1, e1, q1, q2⟩ := h.2 j c hj
    exact ⟨a1, e1, by rw [List.getElem?_set_ne (Ne.symm hjk)]; exact q1, q2⟩
theorem ze_W.push {dA : Nat → ClassId} {sp : Nat → Nat} {ρ : List Int32} {w w' : EW} {ws : va_W} (h : ze_W dA sp ρ w ws) {q : Nat} {e : va_E} {c : EC} (h1 : w'.1 = w.1 + 1) (h2 : ∀ (k : Nat) (c' : EC), ze_gw w' k = some c' → (k = w.1 ∧ c' = c) ∨ (k ≠ w.1 ∧ ze_gw w k = some c')) (hc : ze_C dA sp ρ (ws.map (·.1) ++ [q]) c e) : ze_W dA sp ρ w' (ws ++ [(q, e)]) := by
  refine ⟨by rw [h1, h.1]; simp, fun k c' hk => ?_⟩
  have em : (ws ++ [(q, e)]).map (·.1) = ws.map (·.1) ++ [q] := by simp
  rw [em]
  rcases h2 k c' hk with ⟨r1, r2⟩ | ⟨r1, r2⟩
  · subst r2
    refine ⟨q, e, ?_, hc⟩
    rw [r1, h.1]
    simp
  · obtain ⟨a1, e1, q1, q2⟩ := h.2 k c' r2
    refine ⟨a1, e1, ?_, q2.mono (List.prefix_refl _) (List.prefix_append _ _)⟩
    rw [List.getElem?_append_left (List.getElem?_eq_some_iff.mp q1).1]
    exact q1
/-- a reference of the engine is a cell of the world -/
theorem ze_W.ref {dA : Nat → ClassId} {sp : Nat → Nat} {ρ : List Int32} {w : EW} {ws : va_W} (h : ze_W dA sp ρ w ws) {k : Nat} {c : EC} {x : Value} (hc : ze_gw w k = some c) (hv : ze_V sp ρ (ws.map (·.1)) (eR k) x) : ∃ (a : Nat) (e : va_E), x = .ref a ∧ ws[k]? = some (a, e) ∧ ze_C dA sp ρ (ws.map (·.1)) c e := by
  obtain ⟨a, e, q1, q2⟩ := h.2 k c hc
  obtain ⟨a2, r1, r2⟩ := hv
  rw [List.getElem?_map, q1] at r1
  cases r1
  exact ⟨_, e, r2, q1, q2⟩
/-- locals -/
def ze_LL (sp : Nat → Nat) (ρ : List Int32) (ad : List Nat) (ls : List EV) (lv : List (Nat × Value)) : Prop := ∀ (i : Nat) (v : EV), ls[i]? = some v → v ≠ eX 1 → ∃ x, (i, x) ∈ lv ∧ ze_V sp ρ ad v x
theorem ze_LL.mono {sp : Nat → Nat} {ρ ρ' : List Int32} {ad ad' : List Nat} (h1 : ρ <+: ρ') (h2 : ad <+: ad') {ls : List EV} {lv : List (Nat × Value)} (h : ze_LL sp ρ ad ls lv) : ze_LL sp ρ' ad' ls lv := fun i v hv hn => by
  obtain ⟨x, a, b⟩ := h i v hv hn
  exact ⟨x, a, b.mono h1 h2⟩
theorem ze_cat {sp : Nat → Nat} {ρ : List Int32} {ad : List Nat} {v : EV} {x : Value} (h : ze_V sp ρ ad v x) : x.category = ze_ct v := by
  match v, h with
  | .inl (.inl n), h => rw [show x = _ from h]; rfl
  | .inl (.inr i), ⟨z, _, b⟩ => rw [b]; rfl
  | .inr (.inl (.inl k)), ⟨z, _, b⟩ => rw [b]; rfl
  | .inr (.inl (.inr (.inl n))), h => rw [show x = _ from h]; rfl
  | .inr (.inl (.inr (.inr i))), ⟨z, _, b⟩ => rw [b]; rfl
  | .inr (.inr 0), h => rw [show x = _ from h]; rfl
  | .inr (.inr (k + 2)), h => rw [show x = _ from h]; rfl
theorem ze_cl_ne {u : EV} (h : ze_cl u ≠ eX 1) : ze_cl u = u ∧ ze_ct u = 1 := by
  match u, h with
  | .inr (.inl (.inr _)), h => exact absurd rfl h
  | .inr (.inl (.inl q)), _ => exact ⟨rfl, rfl⟩
  | .inr (.inr q), _ => exact ⟨rfl, rfl⟩
  | .inl q, _ => exact ⟨rfl, rfl⟩
/-- what a store leaves at another place -/
theorem ze_st_get {v : EV} {ls : List EV} {i j : Nat} {u : EV} (h : (ze_st v ls i)[j]? = some u) (hu : u ≠ eX 1) : (j = i ∧ u = v) ∨ (j ≠ i ∧ ls[j]? = some u ∧ (j + 1 = i → ze_ct u = 1)) := by
  cases i with
  | zero =>
    have h : (ze_s v ls 0)[j]? = some u := h
    rw [ze_s_eq] at h
    by_cases hj : j = 0
    · subst hj
      by_cases hl : 0 < ls.length
      · rw [List.getElem?_set_self hl] at h
        exact Or.inl ⟨rfl, (Option.some.inj h).symm⟩
      · rw [List.getElem?_eq_none (by rw [List.length_set]; omega)] at h
        cases h
    · rw [List.getElem?_set_ne (Ne.symm hj)] at h
      exact Or.inr ⟨hj, h, fun q => by omega⟩
  | succ i =>
    have h : (ze_s v (ze_m ze_cl ls i) (i + 1))[j]? = some u := h
    rw [ze_s_eq] at h
    by_cases hj : j = i + 1
    · subst hj
      by_cases hl : i + 1 < (ze_m ze_cl ls i).length
      · rw [List.getElem?_set_self hl] at h
        exact Or.inl ⟨rfl, (Option.some.inj h).symm⟩
      · rw [List.getElem?_eq_none (by rw [List.length_set]; omega)] at h
        cases h
    · rw [List.getElem?_set_ne (Ne.symm hj), ze_m_get] at h
      by_cases hi : j = i
      · subst hi
        rw [if_pos rfl] at h
        cases hg : ls[j]? with
        | none => rw [hg] at h; cases h
        | some u0 =>
          rw [hg] at h
          have h : ze_cl u0 = u := Option.some.inj h
          have k := ze_cl_ne (u := u0) (by rw [h]; exact hu)
          rw [k.1] at h
          subst h
          exact Or.inr ⟨hj, rfl, fun _ => k.2⟩
      · rw [if_neg hi] at h
        exact Or.inr ⟨hj, h, fun q => absurd (show j = i by omega) hi⟩
theorem ze_LL.st1 {sp : Nat → Nat} {ρ : List Int32} {ad : List Nat} {ls : List EV} {lv : List (Nat × Value)} (h : ze_LL sp ρ ad ls lv) {i : Nat} {v : EV} {x : Value} (hv : ze_V sp ρ ad v x) :
    ze_LL sp ρ ad (ze_st v ls i) ((i, x) :: lv.filter (fun q => !(q.1 == i) && !(q.1 + 1 == i && q.2.category == 2))) := by
  intro j u hj hu
  rcases ze_st_get hj hu with ⟨a, b⟩ | ⟨a, b, d⟩
  · subst a; subst b
    exact ⟨x, List.mem_cons_self, hv⟩
  · obtain ⟨y, q1, q2⟩ := h j u b hu
    refine ⟨y, List.mem_cons_of_mem _ (List.mem_filter.mpr ⟨q1, ?_⟩), q2⟩
    by_cases hji : j + 1 = i
    · have := ze_cat q2
      have := d hji
      simp [a, show ¬ y.category = 2 by omega]
    · simp [a, hji]
theorem ze_LL.st2 {sp : Nat → Nat} {ρ : List Int32} {ad : List Nat} {ls : List EV} {lv : List (Nat × Value)} (h : ze_LL sp ρ ad ls lv) {i : Nat} {v : EV} {x : Value} (hv : ze_V sp ρ ad v x) :
    ze_LL sp ρ ad (ze_s (eX 1) (ze_st v ls i) (i + 1)) ((i, x) :: lv.filter (fun q => !(q.1 == i) && (!(q.1 == i + 1) && !(q.1 + 1 == i && q.2.category == 2)))) := by
  intro j u hj hu
  rw [ze_s_eq] at hj
  have hn : j ≠ i + 1 := by
    intro q
    subst q
    by_cases hl : i + 1 < (ze_st v ls i).length
    · rw [List.getElem?_set_self hl] at hj
      exact hu (Option.some.inj hj).symm
    · rw [List.getElem?_eq_none (by rw [List.length_set]; omega)] at hj
      cases hj
  rw [List.getElem?_set_ne (Ne.symm hn)] at hj
  rcases ze_st_get hj hu with ⟨a, b⟩ | ⟨a, b, d⟩
  · subst a; subst b
    exact ⟨x, List.mem_cons_self, hv⟩
  · obtain ⟨y, q1, q2⟩ := h j u b hu
    refine ⟨y, List.mem_cons_of_mem _ (List.mem_filter.mpr ⟨q1, ?_⟩), q2⟩
    by_cases hji : j + 1 = i
    · have := ze_cat q2
      have := d hji
      simp [a, hn, show ¬ y.category = 2 by omega]
    · simp [a, hn, hji]
end
section
/-! THE ENGINE, part 5: what it says of the machine. An op that answers true, at a state that the engine's data stand for, walks. -/
/-- rows that are as they should be ('V'), the first of them at pc -/
def ze_at (V : List ECE → Prop) (cs : List ECE) (pc : Nat) : Prop := V cs ∧ ∃ e r, cs = e :: r ∧ e.2.1 = pc
def ze_Y (z0 : List Int32 × List Nat) (xs : Nat → Int32) (ρ : List Int32) (ad : List Nat) : Prop := (∀ j, j < 5 → ρ[j]? = some (xs j)) ∧ z0.1 <+: ρ ∧ z0.2 <+: ad
def ze_H (z0 : List Int32 × List Nat) (dC : Nat → ClassId) (dI : Nat → Nat → Nat) (dA : Nat → ClassId) (sp : Nat → Nat) (xs : Nat → Int32) (A : Nat → Prop) (s : State) (nL : Nat) (ls st : List EV) (w : EW) (g : EG) (ρ : List Int32) (ws : va_W) (H : Heap) (locs : List Loc) (la : Array Slot) (vs : List Value) : Prop :=
  ze_G g ρ ∧ ze_Y z0 xs ρ (ws.map (·.1)) ∧ ze_W dA sp ρ w ws ∧ va_P (dC, dI) vwCl ws H ∧ va_D A ws ∧ va_S A s.heap H locs ∧ (∃ lv, lv_has la nL lv ∧ ze_LL sp ρ (ws.map (·.1)) ls lv) ∧ ze_L sp ρ (ws.map (·.1)) st vs
def ze_WS (p : Program) (l : Launch) (e : Env) (R : Room) (s : State) (m : MethodId) (args : Array Value) (below : List Frame) (meth : Method) (c : Code) (Q : State → Prop) (z0 : List Int32 × List Nat) (dC : Nat → ClassId) (dI : Nat → Nat → Nat) (dA : Nat → ClassId) (sp : Nat → Nat) (xs : Nat → Int32) (A : Nat → Prop) (nL : Nat) (V : List ECE → Prop) (cs : List ECE) (ls st : List EV) (w : EW) (g : EG) (nc ns : Nat) : Prop :=
  ∀ (pc : Nat), ze_at V cs pc → ∀ (ρ : List Int32) (ws : va_W) (H : Heap) (locs : List Loc) (la : Array Slot) (vs : List Value), ze_H z0 dC dI dA sp xs A s nL ls st w g ρ ws H locs la vs → W p l e R s m args below meth c H locs nc ns Q (F0 m pc la vs)
def ze_KK (p : Program) (l : Launch) (e : Env) (R : Room) (s : State) (m : MethodId) (args : Array Value) (below : List Frame) (meth : Method) (c : Code) (Q : State → Prop) (z0 : List Int32 × List Nat) (dC : Nat → ClassId) (dI : Nat → Nat → Nat) (dA : Nat → ClassId) (sp : Nat → Nat) (xs : Nat → Int32) (A : Nat → Prop) (nL : Nat) (V : List ECE → Prop) (kk : EKn) : Prop :=
  ∀ (cs : List ECE) (ls st : List EV) (w : EW) (g : EG) (nc ns : Nat), kk cs ls st w g nc ns = true → ze_WS p l e R s m args below meth c Q z0 dC dI dA sp xs A nL V cs ls st w g nc ns
section ZH
variable {z0 : List Int32 × List Nat} {dC : Nat → ClassId} {dI : Nat → Nat → Nat} {dA : Nat → ClassId} {sp : Nat → Nat} {xs : Nat → Int32} {A : Nat → Prop} {s : State} {nL : Nat} {ls st : List EV} {w : EW} {g : EG} {ρ : List Int32} {ws : va_W} {H : Heap} {locs : List Loc} {la : Array Slot} {vs : List Value}
theorem ze_H.stk {st' : List EV} {vs' : List Value} (h : ze_H z0 dC dI dA sp xs A s nL ls st w g ρ ws H locs la vs) (h2 : ze_L sp ρ (ws.map (·.1)) st' vs') : ze_H z0 dC dI dA sp xs A s nL ls st' w g ρ ws H locs la vs' :=
  ⟨h.1, h.2.1, h.2.2.1, h.2.2.2.1, h.2.2.2.2.1, h.2.2.2.2.2.1, h.2.2.2.2.2.2.1, h2⟩
theorem ze_H.gs {g' : EG} (h : ze_H z0 dC dI dA sp xs A s nL ls st w g ρ ws H locs la vs) (h2 : ze_G g' ρ) : ze_H z0 dC dI dA sp xs A s nL ls st w g' ρ ws H locs la vs :=
  ⟨h2, h.2.1, h.2.2.1, h.2.2.2.1, h.2.2.2.2.1, h.2.2.2.2.2.1, h.2.2.2.2.2.2.1, h.2.2.2.2.2.2.2⟩
theorem ze_H.fr {lo hi : Nat} {x : Int32} (h : ze_H z0 dC dI dA sp xs A s nL ls st w g ρ ws H locs la vs) (h1 : lo ≤ ze_b x) (h2 : ze_b x ≤ hi) : ze_H z0 dC dI dA sp xs A s nL ls st w (g ++ [(lo, hi)]) (ρ ++ [x]) ws H locs la vs := by
  obtain ⟨hG, hX, hW, hP, hD, hS, ⟨lv, hl, hL⟩, hV⟩ := h
  have hp : ρ <+: ρ ++ [x] := List.prefix_append _ _
  exact ⟨hG.push h1 h2, ⟨fun j hj => ze_pre hp (hX.1 j hj), hX.2.1.trans hp, hX.2.2⟩, hW.rho hp, hP, hD, hS, ⟨lv, hl, hL.mono hp (List.prefix_refl _)⟩, hV.mono hp (List.prefix_refl _)⟩
/-- another unknown of that value, on the stack -/
theorem ze_H.frs {lo hi : Nat} {x : Int32} (h : ze_H z0 dC dI dA sp xs A s nL ls st w g ρ ws H locs la vs) (h1 : lo ≤ ze_b x) (h2 : ze_b x ≤ hi) : ze_H z0 dC dI dA sp xs A s nL ls (eU g.length :: st) w (g ++ [(lo, hi)]) (ρ ++ [x]) ws H locs la (.int x :: vs) :=
  (h.fr h1 h2).stk ⟨⟨x, h.1.new x, rfl⟩, (h.fr h1 h2).2.2.2.2.2.2.2⟩
end ZH
section ZS
variable {p : Program} {l : Launch} {e : Env} {R : Room} {s : State} {m : MethodId} {args : Array Value} {below : List Frame} {meth : Method} {c : Code} {Q : State → Prop}
variable {z0 : List Int32 × List Nat} {dC : Nat → ClassId} {dI : Nat → Nat → Nat} {dA : Nat → ClassId} {sp : Nat → Nat} {xs : Nat → Int32} {A : Nat → Prop} {nL : Nat} {V : List ECE → Prop}
variable {kk : EKn} {k : ERt} {cal : ECal} {mc ms pc pc2 ca cb cd nc ns : Nat} {nx : List ECE} {jp : EJp} {tl : List Nat} {ls st : List EV} {w : EW} {g : EG} {ρ : List Int32} {ws : va_W} {H : Heap} {locs : List Loc} {la : Array Slot} {vs : List Value}
theorem zs_fr {lo hi : Nat} {x : Int32} (hK : ze_KK p l e R s m args below meth c Q z0 dC dI dA sp xs A nL V kk) (h : zo_fr lo hi nx kk ls st w g nc ns = true) (hH : ze_H z0 dC dI dA sp xs A s nL ls st w g ρ ws H locs la vs) (h1 : lo ≤ ze_b x) (h2 : ze_b x ≤ hi) (hn : ze_at V nx pc2) : W p l e R s m args below meth c H locs nc ns Q (F0 m pc2 la (.int x :: vs)) := by
  unfold zo_fr at h
  rw [ze_f_eq] at h
  exact hK _ _ _ _ _ _ _ h _ hn _ _ _ _ _ _ (hH.frs h1 h2)
theorem zs_bin {fc : Nat → Nat → Nat} {bd : EG → EV → EV → Nat × Nat} (F : Int32 → Int32 → Int32) (hK : ze_KK p l e R s m args below meth c Q z0 dC dI dA sp xs A nL V kk) (hfc : ∀ a b, F (nI a) (nI b) = nI (fc a b))
    (hbd : ∀ (v1 v2 : EV) (x y : Int32), ze_V sp ρ (ws.map (·.1)) v1 (.int x) → ze_V sp ρ (ws.map (·.1)) v2 (.int y) → (bd g v1 v2).1 ≤ ze_b (F x y) ∧ ze_b (F x y) ≤ (bd g v1 v2).2)
    (hn : ze_at V nx pc2) (h : zo_bin fc bd nx ca cb cd tl jp kk k cal mc ms ls st w g nc ns = true) (hH : ze_H z0 dC dI dA sp xs A s nL ls st w g ρ ws H locs la vs)
    (row : ∀ (x y : Int32) (rest : List Value), vs = .int y :: .int x :: rest → W p l e R s m args below meth c H locs nc ns Q (F0 m pc2 la (.int (F x y) :: rest)) → W p l e R s m args below meth c H locs nc ns Q (F0 m pc la (.int y :: .int x :: rest))) : W p l e R s m args below meth c H locs nc ns Q (F0 m pc la vs) := by
  match st, h, hH with
  | [], h, _ => exact absurd h (by intro q; cases q)
  | [_], h, _ => exact absurd h (by intro q; cases q)
  | v2 :: v1 :: rest, h, hH =>
    obtain ⟨y2, r1, e1, V2, L1⟩ := hH.2.2.2.2.2.2.2.cons
    obtain ⟨y1, r2, e2, V1, L2⟩ := L1.cons
    subst e1; subst e2
    have hH2 := hH.stk L2
    have h : ze_rs g v1 _ _ = true := h
    obtain ⟨x, ex, hx⟩ := ze_rs_spec h hH.1 V1
    subst ex
    rcases hx with ⟨a, ea, hx⟩ | ⟨i, ei, hi, hx⟩
    · obtain ⟨y, ey, hy⟩ := ze_rs_spec hx hH.1 V2
      subst ey
      have hb := hbd v1 v2 x y V1 V2
      refine row x y r2 rfl ?_
      rcases hy with ⟨b, eb, hy⟩ | ⟨j, ej, hj, hy⟩
      · rw [ze_f_eq] at hy
        refine hK _ _ _ _ _ _ _ hy _ hn _ _ _ _ _ _ (hH2.stk ⟨?_, L2⟩)
        show Value.int (F x y) = .int (nI (fc a b))
        rw [ea, eb, hfc]
      · exact zs_fr hK hy hH2 hb.1 hb.2 hn
    · obtain ⟨y, ey, hy⟩ := ze_rs_spec hx hH.1 V2
      subst ey
      have hb := hbd v1 v2 x y V1 V2
      refine row x y r2 rfl ?_
      rcases hy with ⟨b, eb, hy⟩ | ⟨j, ej, hj, hy⟩
      · exact zs_fr hK hy hH2 hb.1 hb.2 hn
      · exact zs_fr hK hy hH2 hb.1 hb.2 hn
theorem zs_top (v1 v2 : EV) (x : Int32) : (zo_top g v1 v2).1 ≤ ze_b x ∧ ze_b x ≤ (zo_top g v1 v2).2 := ⟨Nat.zero_le _, ze_b_top x⟩
theorem zs_c2 (f : Int32 → Int32 → Int32) (a b : Nat) : f (nI a) (nI b) = nI (zo_c2 f a b) := (ze_e_eq _).symm
theorem zs_un {fc : Nat → Nat} {lo hi : Nat} (F : Int32 → Int32) (hK : ze_KK p l e R s m args below meth c Q z0 dC dI dA sp xs A nL V kk) (hfc : ∀ a, F (nI a) = nI (fc a)) (hbd : ∀ x : Int32, lo ≤ ze_b (F x) ∧ ze_b (F x) ≤ hi)
    (hn : ze_at V nx pc2) (h : zo_un fc lo hi nx ca cb cd tl jp kk k cal mc ms ls st w g nc ns = true) (hH : ze_H z0 dC dI dA sp xs A s nL ls st w g ρ ws H locs la vs)
    (row : ∀ (x : Int32) (rest : List Value), W p l e R s m args below meth c H locs nc ns Q (F0 m pc2 la (.int (F x) :: rest)) → W p l e R s m args below meth c H locs nc ns Q (F0 m pc la (.int x :: rest))) : W p l e R s m args below meth c H locs nc ns Q (F0 m pc la vs) := by
  match st, h, hH with
  | [], h, _ => exact absurd h (by intro q; cases q)
  | v1 :: rest, h, hH =>
    obtain ⟨y1, r1, e1, V1, L1⟩ := hH.2.2.2.2.2.2.2.cons
    subst e1
    have hH2 := hH.stk L1
    have h : ze_rs g v1 _ _ = true := h
    obtain ⟨x, ex, hx⟩ := ze_rs_spec h hH.1 V1
    subst ex
    refine row x r1 ?_
    rcases hx with ⟨a, ea, hx⟩ | ⟨i, ei, hi, hx⟩
    · rw [ze_f_eq] at hx
      refine hK _ _ _ _ _ _ _ hx _ hn _ _ _ _ _ _ (hH2.stk ⟨?_, L1⟩)
      show Value.int (F x) = .int (nI (fc a))
      rw [ea, hfc]
    · exact zs_fr hK hx hH2 (hbd x).1 (hbd x).2 hn
theorem zs_lb (F : Int64 → Int64 → Int64) (hK : ze_KK p l e R s m args below meth c Q z0 dC dI dA sp xs A nL V kk) (hn : ze_at V nx pc2) (h : zo_lb F nx ca cb cd tl jp kk k cal mc ms ls st w g nc ns = true) (hH : ze_H z0 dC dI dA sp xs A s nL ls st w g ρ ws H locs la vs)
    (row : ∀ (x y : Int64) (rest : List Value), vs = .long y :: .long x :: rest → W p l e R s m args below meth c H locs nc ns Q (F0 m pc2 la (.long (F x y) :: rest)) → W p l e R s m args below meth c H locs nc ns Q (F0 m pc la (.long y :: .long x :: rest))) : W p l e R s m args below meth c H locs nc ns Q (F0 m pc la vs) := by
  unfold zo_lb at h
  split at h
  · obtain ⟨y2, r1, e1, V2, L1⟩ := hH.2.2.2.2.2.2.2.cons
    obtain ⟨y1, r2, e2, V1, L2⟩ := L1.cons
    subst e1; subst e2
    rw [show y1 = _ from V1, show y2 = _ from V2] at *
    rw [ze_f_eq] at h
    refine row _ _ _ rfl ?_
    refine hK _ _ _ _ _ _ _ h _ hn _ _ _ _ _ _ (hH.stk ⟨?_, L2⟩)
    show Value.long _ = .long _
    rw [ze_el_eq]
  · cases h
theorem zs_lsf (F : Int64 → Int32 → Int64) (hK : ze_KK p l e R s m args below meth c Q z0 dC dI dA sp xs A nL V kk) (hn : ze_at V nx pc2) (h : zo_lsf F nx ca cb cd tl jp kk k cal mc ms ls st w g nc ns = true) (hH : ze_H z0 dC dI dA sp xs A s nL ls st w g ρ ws H locs la vs)
    (row : ∀ (x : Int64) (y : Int32) (rest : List Value), W p l e R s m args below meth c H locs nc ns Q (F0 m pc2 la (.long (F x y) :: rest)) → W p l e R s m args below meth c H locs nc ns Q (F0 m pc la (.int y :: .long x :: rest))) : W p l e R s m args below meth c H locs nc ns Q (F0 m pc la vs) := by
  unfold zo_lsf at h
  split at h
  · obtain ⟨y2, r1, e1, V2, L1⟩ := hH.2.2.2.2.2.2.2.cons
    obtain ⟨y1, r2, e2, V1, L2⟩ := L1.cons
    subst e1; subst e2
    rw [show y1 = _ from V1, show y2 = _ from V2] at *
    rw [ze_f_eq] at h
    refine row _ _ _ ?_
    refine hK _ _ _ _ _ _ _ h _ hn _ _ _ _ _ _ (hH.stk ⟨?_, L2⟩)
    show Value.long _ = .long _
    rw [ze_el_eq]
  · cases h
theorem zs_i2l (hK : ze_KK p l e R s m args below meth c Q z0 dC dI dA sp xs A nL V kk) (hn : ze_at V nx pc2) (h : zo_i2l nx ca cb cd tl jp kk k cal mc ms ls st w g nc ns = true) (hH : ze_H z0 dC dI dA sp xs A s nL ls st w g ρ ws H locs la vs)
    (row : ∀ (x : Int32) (rest : List Value), W p l e R s m args below meth c H locs nc ns Q (F0 m pc2 la (.long x.toInt64 :: rest)) → W p l e R s m args below meth c H locs nc ns Q (F0 m pc la (.int x :: rest))) : W p l e R s m args below meth c H locs nc ns Q (F0 m pc la vs) := by
  match st, h, hH with
  | [], h, _ => exact absurd h (by intro q; cases q)
  | v1 :: rest, h, hH =>
    obtain ⟨y1, r1, e1, V1, L1⟩ := hH.2.2.2.2.2.2.2.cons
    subst e1
    have h : ze_rs g v1 _ _ = true := h
    obtain ⟨x, ex, hx⟩ := ze_rs_spec h hH.1 V1
    subst ex
    refine row x r1 ?_
    rcases hx with ⟨a, ea, hx⟩ | ⟨i, ei, hi, hx⟩
    · rw [ze_f_eq] at hx
      refine hK _ _ _ _ _ _ _ hx _ hn _ _ _ _ _ _ (hH.stk ⟨?_, L1⟩)
      show Value.long _ = .long _
      rw [ze_el_eq, ea]
    · exact hK _ _ _ _ _ _ _ hx _ hn _ _ _ _ _ _ (hH.stk ⟨⟨x, hi, rfl⟩, L1⟩)
theorem zs_l2i (hK : ze_KK p l e R s m args below meth c Q z0 dC dI dA sp xs A nL V kk) (hn : ze_at V nx pc2) (h : zo_l2i nx ca cb cd tl jp kk k cal mc ms ls st w g nc ns = true) (hH : ze_H z0 dC dI dA sp xs A s nL ls st w g ρ ws H locs la vs)
    (row : ∀ (x : Int64) (rest : List Value), W p l e R s m args below meth c H locs nc ns Q (F0 m pc2 la (.int x.toInt32 :: rest)) → W p l e R s m args below meth c H locs nc ns Q (F0 m pc la (.long x :: rest))) : W p l e R s m args below meth c H locs nc ns Q (F0 m pc la vs) := by
  unfold zo_l2i at h
  split at h
  · obtain ⟨y2, r1, e1, V2, L1⟩ := hH.2.2.2.2.2.2.2.cons
    subst e1
    rw [show y2 = _ from V2] at *
    rw [ze_f_eq] at h
    refine row _ _ ?_
    refine hK _ _ _ _ _ _ _ h _ hn _ _ _ _ _ _ (hH.stk ⟨?_, L1⟩)
    show Value.int _ = .int _
    rw [ze_e_eq]
  · cases h
theorem zs_cst (hK : ze_KK p l e R s m args below meth c Q z0 dC dI dA sp xs A nL V kk) (hn : ze_at V nx pc2) (h : zo_cst nx ca cb cd tl jp kk k cal mc ms ls st w g nc ns = true) (hH : ze_H z0 dC dI dA sp xs A s nL ls st w g ρ ws H locs la vs)
    (row : W p l e R s m args below meth c H locs nc ns Q (F0 m pc2 la (.int (nI ca) :: vs)) → W p l e R s m args below meth c H locs nc ns Q (F0 m pc la vs)) : W p l e R s m args below meth c H locs nc ns Q (F0 m pc la vs) :=
  row (hK _ _ _ _ _ _ _ h _ hn _ _ _ _ _ _ (hH.stk ⟨rfl, hH.2.2.2.2.2.2.2⟩))
theorem zs_lcst (hK : ze_KK p l e R s m args below meth c Q z0 dC dI dA sp xs A nL V kk) (hn : ze_at V nx pc2) (h : zo_lcst nx ca cb cd tl jp kk k cal mc ms ls st w g nc ns = true) (hH : ze_H z0 dC dI dA sp xs A s nL ls st w g ρ ws H locs la vs)
    (row : W p l e R s m args below meth c H locs nc ns Q (F0 m pc2 la (.long (lN ca) :: vs)) → W p l e R s m args below meth c H locs nc ns Q (F0 m pc la vs)) : W p l e R s m args below meth c H locs nc ns Q (F0 m pc la vs) :=
  row (hK _ _ _ _ _ _ _ h _ hn _ _ _ _ _ _ (hH.stk ⟨rfl, hH.2.2.2.2.2.2.2⟩))
theorem zs_null (hK : ze_KK p l e R s m args below meth c Q z0 dC dI dA sp xs A nL V kk) (hn : ze_at V nx pc2) (h : zo_null nx ca cb cd tl jp kk k cal mc ms ls st w g nc ns = true) (hH : ze_H z0 dC dI dA sp xs A s nL ls st w g ρ ws H locs la vs)
    (row : W p l e R s m args below meth c H locs nc ns Q (F0 m pc2 la (.null :: vs)) → W p l e R s m args below meth c H locs nc ns Q (F0 m pc la vs)) : W p l e R s m args below meth c H locs nc ns Q (F0 m pc la vs) :=
  row (hK _ _ _ _ _ _ _ h _ hn _ _ _ _ _ _ (hH.stk ⟨rfl, hH.2.2.2.2.2.2.2⟩))
/-- a local -/
theorem ze_H.at {i : Nat} {v : EV} (hH : ze_H z0 dC dI dA sp xs A s nL ls st w g ρ ws H locs la vs) (hi : ls[i]? = some v) (hn : v ≠ eX 1) : ∃ x, la[i]? = some (.val x) ∧ ze_V sp ρ (ws.map (·.1)) v x := by
  obtain ⟨lv, hl, hL⟩ := hH.2.2.2.2.2.2.1
  obtain ⟨x, q1, q2⟩ := hL i v hi hn
  exact ⟨x, hl.2.2 _ q1, q2⟩
theorem ze_intV {v : Nat ⊕ Nat} {ad : List Nat} {x : Value} (h : ze_V sp ρ ad (.inl v) x) : ∃ z, x = .int z := by
  match v, h with
  | .inl n, h => exact ⟨_, h⟩
  | .inr i, ⟨z, _, b⟩ => exact ⟨z, b⟩
theorem ze_longV {v : Nat ⊕ Nat} {ad : List Nat} {x : Value} (h : ze_V sp ρ ad (.inr (.inl (.inr v))) x) : ∃ z, x = .long z := by
  match v, h with
  | .inl n, h => exact ⟨_, h⟩
  | .inr i, ⟨z, _, b⟩ => exact ⟨_, b⟩
theorem zs_iload (hK : ze_KK p l e R s m args below meth c Q z0 dC dI dA sp xs A nL V kk) (hn : ze_at V nx pc2) (h : zo_iload nx ca cb cd tl jp kk k cal mc ms ls st w g nc ns = true) (hH : ze_H z0 dC dI dA sp xs A s nL ls st w g ρ ws H locs la vs)
    (row : ∀ x : Int32, la[ca]? = some (.val (.int x)) → W p l e R s m args below meth c H locs nc ns Q (F0 m pc2 la (.int x :: vs)) → W p l e R s m args below meth c H locs nc ns Q (F0 m pc la vs)) : W p l e R s m args below meth c H locs nc ns Q (F0 m pc la vs) := by
  obtain ⟨v, hv, h2⟩ := ze_n_spec _ _ _ h
  match v, hv, h2 with
  | .inl u, hv, h2 =>
    obtain ⟨x, q1, q2⟩ := hH.at hv (by intro q; cases q)
    obtain ⟨z, ez⟩ := ze_intV q2
    subst ez
    exact row z q1 (hK _ _ _ _ _ _ _ h2 _ hn _ _ _ _ _ _ (hH.stk ⟨q2, hH.2.2.2.2.2.2.2⟩))
  | .inr u, hv, h2 => exact absurd h2 (by intro q; cases q)
theorem zs_lload (hK : ze_KK p l e R s m args below meth c Q z0 dC dI dA sp xs A nL V kk) (hn : ze_at V nx pc2) (h : zo_lload nx ca cb cd tl jp kk k cal mc ms ls st w g nc ns = true) (hH : ze_H z0 dC dI dA sp xs A s nL ls st w g ρ ws H locs la vs)
    (row : ∀ x : Int64, la[ca]? = some (.val (.long x)) → W p l e R s m args below meth c H locs nc ns Q (F0 m pc2 la (.long x :: vs)) → W p l e R s m args below meth c H locs nc ns Q (F0 m pc la vs)) : W p l e R s m args below meth c H locs nc ns Q (F0 m pc la vs) := by
  obtain ⟨v, hv, h2⟩ := ze_n_spec _ _ _ h
  match v, hv, h2 with
  | .inl u, hv, h2 => exact absurd h2 (by intro q; cases q)
  | .inr (.inl (.inl u)), hv, h2 => exact absurd h2 (by intro q; cases q)
  | .inr (.inr u), hv, h2 => exact absurd h2 (by intro q; cases q)
  | .inr (.inl (.inr u)), hv, h2 =>
    obtain ⟨x, q1, q2⟩ := hH.at hv (by intro q; cases q)
    obtain ⟨z, ez⟩ := ze_longV q2
    subst ez
    exact row _ q1 (hK _ _ _ _ _ _ _ h2 _ hn _ _ _ _ _ _ (hH.stk ⟨q2, hH.2.2.2.2.2.2.2⟩))
theorem zs_aload (hK : ze_KK p l e R s m args below meth c Q z0 dC dI dA sp xs A nL V kk) (hn : ze_at V nx pc2) (h : zo_aload nx ca cb cd tl jp kk k cal mc ms ls st w g nc ns = true) (hH : ze_H z0 dC dI dA sp xs A s nL ls st w g ρ ws H locs la vs)
    (row : ∀ x : Nat, la[ca]? = some (.val (.ref x)) → W p l e R s m args below meth c H locs nc ns Q (F0 m pc2 la (.ref x :: vs)) → W p l e R s m args below meth c H locs nc ns Q (F0 m pc la vs))
    (rowN : la[ca]? = some (.val .null) → W p l e R s m args below meth c H locs nc ns Q (F0 m pc2 la (.null :: vs)) → W p l e R s m args below meth c H locs nc ns Q (F0 m pc la vs)) : W p l e R s m args below meth c H locs nc ns Q (F0 m pc la vs) := by
  obtain ⟨v, hv, h2⟩ := ze_n_spec _ _ _ h
  match v, hv, h2 with
  | .inl u, hv, h2 => exact absurd h2 (by intro q; cases q)
  | .inr (.inl (.inr u)), hv, h2 => exact absurd h2 (by intro q; cases q)
  | .inr (.inl (.inl u)), hv, h2 =>
    obtain ⟨x, q1, q2⟩ := hH.at hv (by intro q; cases q)
    obtain ⟨z, z1, z2⟩ := q2
    have q2 : ze_V sp ρ (ws.map (·.1)) (eR u) x := ⟨z, z1, z2⟩
    subst z2
    exact row _ q1 (hK _ _ _ _ _ _ _ h2 _ hn _ _ _ _ _ _ (hH.stk ⟨q2, hH.2.2.2.2.2.2.2⟩))
  | .inr (.inr 0), hv, h2 =>
    obtain ⟨x, q1, q2⟩ := hH.at hv (by intro q; cases q)
    have ez : x = .null := q2
    subst ez
    exact rowN q1 (hK _ _ _ _ _ _ _ h2 _ hn _ _ _ _ _ _ (hH.stk ⟨q2, hH.2.2.2.2.2.2.2⟩))
  | .inr (.inr 1), hv, h2 => exact absurd h2 (by intro q; cases q)
  | .inr (.inr (u + 2)), hv, h2 =>
    obtain ⟨x, q1, q2⟩ := hH.at hv (by intro q; cases q)
    have ez : x = .ref (sp u) := q2
    subst ez
    exact row _ q1 (hK _ _ _ _ _ _ _ h2 _ hn _ _ _ _ _ _ (hH.stk ⟨q2, hH.2.2.2.2.2.2.2⟩))
end ZS
end
section
section ZS2
variable {p : Program} {l : Launch} {e : Env} {R : Room} {s : State} {m : MethodId} {args : Array Value} {below : List Frame} {meth : Method} {c : Code} {Q : State → Prop}
variable {z0 : List Int32 × List Nat} {dC : Nat → ClassId} {dI : Nat → Nat → Nat} {dA : Nat → ClassId} {sp : Nat → Nat} {xs : Nat → Int32} {A : Nat → Prop} {nL : Nat} {V : List ECE → Prop}
variable {kk : EKn} {k : ERt} {cal : ECal} {mc ms pc pc2 ca cb cd nc ns : Nat} {nx : List ECE} {jp : EJp} {tl : List Nat} {ls st : List EV} {w : EW} {g : EG} {ρ : List Int32} {ws : va_W} {H : Heap} {locs : List Loc} {la : Array Slot} {vs : List Value}
/-- behind a store into the locals -/
theorem ze_H.st1 {i : Nat} {v : EV} {x : Value} {rest : List EV} {vr : List Value} {la' : Array Slot} {lv : List (Nat × Value)} (hH : ze_H z0 dC dI dA sp xs A s nL ls st w g ρ ws H locs la vs) (hL : ze_LL sp ρ (ws.map (·.1)) ls lv) (hv : ze_V sp ρ (ws.map (·.1)) v x)
    (hl : lv_has la' nL ((i, x) :: lv.filter (fun q => !(q.1 == i) && !(q.1 + 1 == i && q.2.category == 2)))) (hr : ze_L sp ρ (ws.map (·.1)) rest vr) : ze_H z0 dC dI dA sp xs A s nL (ze_st v ls i) rest w g ρ ws H locs la' vr :=
  ⟨hH.1, hH.2.1, hH.2.2.1, hH.2.2.2.1, hH.2.2.2.2.1, hH.2.2.2.2.2.1, ⟨_, hl, hL.st1 hv⟩, hr⟩
theorem zs_istore (hK : ze_KK p l e R s m args below meth c Q z0 dC dI dA sp xs A nL V kk) (hn : ze_at V nx pc2) (h : zo_istore nx ca cb cd tl jp kk k cal mc ms ls st w g nc ns = true) (hH : ze_H z0 dC dI dA sp xs A s nL ls st w g ρ ws H locs la vs)
    (row : ∀ (x : Int32) (rest : List Value) (lv : List (Nat × Value)), lv_has la nL lv → (∀ la' : Array Slot, lv_has la' nL ((ca, Value.int x) :: lv.filter (fun q => !(q.1 == ca) && !(q.1 + 1 == ca && q.2.category == 2))) → W p l e R s m args below meth c H locs nc ns Q (F0 m pc2 la' rest)) → W p l e R s m args below meth c H locs nc ns Q (F0 m pc la (.int x :: rest))) : W p l e R s m args below meth c H locs nc ns Q (F0 m pc la vs) := by
  match st, h, hH with
  | [], h, _ => exact absurd h (by intro q; cases q)
  | .inr u :: rest, h, _ => exact absurd h (by intro q; cases q)
  | .inl u :: rest, h, hH =>
    obtain ⟨y1, r1, e1, V1, L1⟩ := hH.2.2.2.2.2.2.2.cons
    subst e1
    obtain ⟨z, ez⟩ := ze_intV V1
    subst ez
    obtain ⟨lv, hl, hL⟩ := hH.2.2.2.2.2.2.1
    exact row z r1 lv hl (fun la' hl' => hK _ _ _ _ _ _ _ h _ hn _ _ _ _ _ _ (hH.st1 hL V1 hl' L1))
theorem zs_astore (hK : ze_KK p l e R s m args below meth c Q z0 dC dI dA sp xs A nL V kk) (hn : ze_at V nx pc2) (h : zo_astore nx ca cb cd tl jp kk k cal mc ms ls st w g nc ns = true) (hH : ze_H z0 dC dI dA sp xs A s nL ls st w g ρ ws H locs la vs)
    (row : ∀ (x : Nat) (rest : List Value) (lv : List (Nat × Value)), lv_has la nL lv → (∀ la' : Array Slot, lv_has la' nL ((ca, Value.ref x) :: lv.filter (fun q => !(q.1 == ca) && !(q.1 + 1 == ca && q.2.category == 2))) → W p l e R s m args below meth c H locs nc ns Q (F0 m pc2 la' rest)) → W p l e R s m args below meth c H locs nc ns Q (F0 m pc la (.ref x :: rest)))
    (rowN : ∀ (rest : List Value) (lv : List (Nat × Value)), lv_has la nL lv → (∀ la' : Array Slot, lv_has la' nL ((ca, Value.null) :: lv.filter (fun q => !(q.1 == ca) && !(q.1 + 1 == ca && q.2.category == 2))) → W p l e R s m args below meth c H locs nc ns Q (F0 m pc2 la' rest)) → W p l e R s m args below meth c H locs nc ns Q (F0 m pc la (.null :: rest))) : W p l e R s m args below meth c H locs nc ns Q (F0 m pc la vs) := by
  obtain ⟨lv, hl, hL⟩ := hH.2.2.2.2.2.2.1
  match st, h, hH with
  | [], h, _ => exact absurd h (by intro q; cases q)
  | .inl u :: rest, h, _ => exact absurd h (by intro q; cases q)
  | .inr (.inl (.inr u)) :: rest, h, _ => exact absurd h (by intro q; cases q)
  | .inr (.inl (.inl u)) :: rest, h, hH =>
    obtain ⟨y1, r1, e1, V1, L1⟩ := hH.2.2.2.2.2.2.2.cons
    subst e1
    obtain ⟨z, z1, z2⟩ := id V1
    subst z2
    exact row z r1 lv hl (fun la' hl' => hK _ _ _ _ _ _ _ h _ hn _ _ _ _ _ _ (hH.st1 hL V1 hl' L1))
  | .inr (.inr 0) :: rest, h, hH =>
    obtain ⟨y1, r1, e1, V1, L1⟩ := hH.2.2.2.2.2.2.2.cons
    subst e1
    have z2 : y1 = .null := V1
    subst z2
    exact rowN r1 lv hl (fun la' hl' => hK _ _ _ _ _ _ _ h _ hn _ _ _ _ _ _ (hH.st1 hL V1 hl' L1))
  | .inr (.inr 1) :: rest, h, _ => exact absurd h (by intro q; cases q)
  | .inr (.inr (u + 2)) :: rest, h, hH =>
    obtain ⟨y1, r1, e1, V1, L1⟩ := hH.2.2.2.2.2.2.2.cons
    subst e1
    have z2 : y1 = .ref (sp u) := V1
    subst z2
    exact row _ r1 lv hl (fun la' hl' => hK _ _ _ _ _ _ _ h _ hn _ _ _ _ _ _ (hH.st1 hL V1 hl' L1))
theorem zs_lstore (hK : ze_KK p l e R s m args below meth c Q z0 dC dI dA sp xs A nL V kk) (hn : ze_at V nx pc2) (h : zo_lstore nx ca cb cd tl jp kk k cal mc ms ls st w g nc ns = true) (hH : ze_H z0 dC dI dA sp xs A s nL ls st w g ρ ws H locs la vs)
    (row : ∀ (x : Int64) (rest : List Value) (lv : List (Nat × Value)), lv_has la nL lv → (∀ la' : Array Slot, lv_has la' nL ((ca, Value.long x) :: lv.filter (fun q => !(q.1 == ca) && (!(q.1 == ca + 1) && !(q.1 + 1 == ca && q.2.category == 2)))) → W p l e R s m args below meth c H locs nc ns Q (F0 m pc2 la' rest)) → W p l e R s m args below meth c H locs nc ns Q (F0 m pc la (.long x :: rest))) : W p l e R s m args below meth c H locs nc ns Q (F0 m pc la vs) := by
  obtain ⟨lv, hl, hL⟩ := hH.2.2.2.2.2.2.1
  match st, h, hH with
  | [], h, _ => exact absurd h (by intro q; cases q)
  | .inl u :: rest, h, _ => exact absurd h (by intro q; cases q)
  | .inr (.inl (.inl u)) :: rest, h, _ => exact absurd h (by intro q; cases q)
  | .inr (.inr u) :: rest, h, _ => exact absurd h (by intro q; cases q)
  | .inr (.inl (.inr u)) :: rest, h, hH =>
    obtain ⟨y1, r1, e1, V1, L1⟩ := hH.2.2.2.2.2.2.2.cons
    subst e1
    obtain ⟨z, z2⟩ := ze_longV V1
    subst z2
    exact row _ r1 lv hl (fun la' hl' => hK _ _ _ _ _ _ _ h _ hn _ _ _ _ _ _ ⟨hH.1, hH.2.1, hH.2.2.1, hH.2.2.2.1, hH.2.2.2.2.1, hH.2.2.2.2.2.1, ⟨_, hl', hL.st2 V1⟩, L1⟩)
theorem zs_iinc (hK : ze_KK p l e R s m args below meth c Q z0 dC dI dA sp xs A nL V kk) (hn : ze_at V nx pc2) (h : zo_iinc nx ca cb cd tl jp kk k cal mc ms ls st w g nc ns = true) (hH : ze_H z0 dC dI dA sp xs A s nL ls st w g ρ ws H locs la vs)
    (row : ∀ (x : Int32) (lv : List (Nat × Value)) (j : Nat), lv_has la nL lv → lv[j]? = some (ca, .int x) → (∀ la' : Array Slot, lv_has la' nL ((ca, Value.int (x + nI cb)) :: lv.filter (fun q => !(q.1 == ca) && !(q.1 + 1 == ca && q.2.category == 2))) → W p l e R s m args below meth c H locs nc ns Q (F0 m pc2 la' vs)) → W p l e R s m args below meth c H locs nc ns Q (F0 m pc la vs)) : W p l e R s m args below meth c H locs nc ns Q (F0 m pc la vs) := by
  obtain ⟨v, hv, h2⟩ := ze_n_spec _ _ _ h
  obtain ⟨lv, hl, hL⟩ := hH.2.2.2.2.2.2.1
  have hne : v ≠ eX 1 := by
    intro q
    subst q
    cases h2
  obtain ⟨y, q1, q2⟩ := hL ca v hv hne
  obtain ⟨j, hj⟩ := List.getElem?_of_mem q1
  obtain ⟨x, ex, hx⟩ := ze_rs_spec h2 hH.1 q2
  subst ex
  refine row x lv j hl hj (fun la' hl' => ?_)
  rcases hx with ⟨a, ea, hx⟩ | ⟨i, ei, hi, hx⟩
  · rw [ze_f_eq] at hx
    refine hK _ _ _ _ _ _ _ hx _ hn _ _ _ _ _ _ (hH.st1 hL (x := .int (x + nI cb)) ?_ hl' hH.2.2.2.2.2.2.2)
    show Value.int _ = .int _
    rw [ea, ze_add]
    rfl
  · rw [ze_f_eq] at hx
    have hF := hH.fr (lo := 0) (hi := 4294967295) (x := x + nI cb) (Nat.zero_le _) (ze_b_top _)
    have hp : ρ <+: ρ ++ [x + nI cb] := List.prefix_append _ _
    exact hK _ _ _ _ _ _ _ hx _ hn _ _ _ _ _ _ (hF.st1 (hL.mono hp (List.prefix_refl _)) (x := .int (x + nI cb)) ⟨_, hH.1.new _, rfl⟩ hl' hF.2.2.2.2.2.2.2)
theorem ze_ct1 {v : EV} {ad : List Nat} {x : Value} (hv : ze_V sp ρ ad v x) (h : Nat.beq (ze_ct v) 1 = true) : x.category = 1 := by rw [ze_cat hv]; exact ze_beq h
theorem zs_dup (hK : ze_KK p l e R s m args below meth c Q z0 dC dI dA sp xs A nL V kk) (hn : ze_at V nx pc2) (h : zo_dup nx ca cb cd tl jp kk k cal mc ms ls st w g nc ns = true) (hH : ze_H z0 dC dI dA sp xs A s nL ls st w g ρ ws H locs la vs)
    (row : ∀ (va : Value) (rest : List Value), va.category = 1 → W p l e R s m args below meth c H locs nc ns Q (F0 m pc2 la (va :: va :: rest)) → W p l e R s m args below meth c H locs nc ns Q (F0 m pc la (va :: rest))) : W p l e R s m args below meth c H locs nc ns Q (F0 m pc la vs) := by
  match st, h, hH with
  | [], h, _ => exact absurd h (by intro q; cases q)
  | v :: rest, h, hH =>
    obtain ⟨y1, r1, e1, V1, L1⟩ := hH.2.2.2.2.2.2.2.cons
    subst e1
    obtain ⟨q1, q2⟩ := ze_condf h
    exact row y1 r1 (ze_ct1 V1 q1) (hK _ _ _ _ _ _ _ q2 _ hn _ _ _ _ _ _ (hH.stk ⟨V1, V1, L1⟩))
theorem zs_pop (hK : ze_KK p l e R s m args below meth c Q z0 dC dI dA sp xs A nL V kk) (hn : ze_at V nx pc2) (h : zo_pop nx ca cb cd tl jp kk k cal mc ms ls st w g nc ns = true) (hH : ze_H z0 dC dI dA sp xs A s nL ls st w g ρ ws H locs la vs)
    (row : ∀ (va : Value) (rest : List Value), va.category = 1 → W p l e R s m args below meth c H locs nc ns Q (F0 m pc2 la rest) → W p l e R s m args below meth c H locs nc ns Q (F0 m pc la (va :: rest))) : W p l e R s m args below meth c H locs nc ns Q (F0 m pc la vs) := by
  match st, h, hH with
  | [], h, _ => exact absurd h (by intro q; cases q)
  | v :: rest, h, hH =>
    obtain ⟨y1, r1, e1, V1, L1⟩ := hH.2.2.2.2.2.2.2.cons
    subst e1
    obtain ⟨q1, q2⟩ := ze_condf h
    exact row y1 r1 (ze_ct1 V1 q1) (hK _ _ _ _ _ _ _ q2 _ hn _ _ _ _ _ _ (hH.stk L1))
theorem zs_dup_x1 (hK : ze_KK p l e R s m args below meth c Q z0 dC dI dA sp xs A nL V kk) (hn : ze_at V nx pc2) (h : zo_dup_x1 nx ca cb cd tl jp kk k cal mc ms ls st w g nc ns = true) (hH : ze_H z0 dC dI dA sp xs A s nL ls st w g ρ ws H locs la vs)
    (row : ∀ (va vb : Value) (rest : List Value), va.category = 1 → vb.category = 1 → W p l e R s m args below meth c H locs nc ns Q (F0 m pc2 la (va :: vb :: va :: rest)) → W p l e R s m args below meth c H locs nc ns Q (F0 m pc la (va :: vb :: rest))) : W p l e R s m args below meth c H locs nc ns Q (F0 m pc la vs) := by
  match st, h, hH with
  | [], h, _ => exact absurd h (by intro q; cases q)
  | [_], h, _ => exact absurd h (by intro q; cases q)
  | v :: u :: rest, h, hH =>
    obtain ⟨y1, r1, e1, V1, L1⟩ := hH.2.2.2.2.2.2.2.cons
    obtain ⟨y2, r2, e2, V2, L2⟩ := L1.cons
    subst e1; subst e2
    obtain ⟨q1, q2⟩ := ze_condf h
    obtain ⟨q3, q4⟩ := ze_condf q2
    exact row y1 y2 r2 (ze_ct1 V1 q1) (ze_ct1 V2 q3) (hK _ _ _ _ _ _ _ q4 _ hn _ _ _ _ _ _ (hH.stk ⟨V1, V2, V1, L2⟩))
theorem zs_dup_x2 (hK : ze_KK p l e R s m args below meth c Q z0 dC dI dA sp xs A nL V kk) (hn : ze_at V nx pc2) (h : zo_dup_x2 nx ca cb cd tl jp kk k cal mc ms ls st w g nc ns = true) (hH : ze_H z0 dC dI dA sp xs A s nL ls st w g ρ ws H locs la vs)
    (row : ∀ (va vb vd : Value) (rest : List Value), va.category = 1 → vb.category = 1 → vd.category = 1 → W p l e R s m args below meth c H locs nc ns Q (F0 m pc2 la (va :: vb :: vd :: va :: rest)) → W p l e R s m args below meth c H locs nc ns Q (F0 m pc la (va :: vb :: vd :: rest))) : W p l e R s m args below meth c H locs nc ns Q (F0 m pc la vs) := by
  match st, h, hH with
  | [], h, _ => exact absurd h (by intro q; cases q)
  | [_], h, _ => exact absurd h (by intro q; cases q)
  | [_, _], h, _ => exact absurd h (by intro q; cases q)
  | v :: u :: z :: rest, h, hH =>
    obtain ⟨y1, r1, e1, V1, L1⟩ := hH.2.2.2.2.2.2.2.cons
    obtain ⟨y2, r2, e2, V2, L2⟩ := L1.cons
    obtain ⟨y3, r3, e3, V3, L3⟩ := L2.cons
    subst e1; subst e2; subst e3
    obtain ⟨q1, q2⟩ := ze_condf h
    obtain ⟨q3, q4⟩ := ze_condf q2
    obtain ⟨q5, q6⟩ := ze_condf q4
    exact row y1 y2 y3 r3 (ze_ct1 V1 q1) (ze_ct1 V2 q3) (ze_ct1 V3 q5) (hK _ _ _ _ _ _ _ q6 _ hn _ _ _ _ _ _ (hH.stk ⟨V1, V2, V3, V1, L3⟩))
theorem zs_dup2 (hK : ze_KK p l e R s m args below meth c Q z0 dC dI dA sp xs A nL V kk) (hn : ze_at V nx pc2) (h : zo_dup2 nx ca cb cd tl jp kk k cal mc ms ls st w g nc ns = true) (hH : ze_H z0 dC dI dA sp xs A s nL ls st w g ρ ws H locs la vs)
    (row : ∀ (va vb : Value) (rest : List Value), va.category = 1 → vb.category = 1 → W p l e R s m args below meth c H locs nc ns Q (F0 m pc2 la (va :: vb :: va :: vb :: rest)) → W p l e R s m args below meth c H locs nc ns Q (F0 m pc la (va :: vb :: rest))) : W p l e R s m args below meth c H locs nc ns Q (F0 m pc la vs) := by
  match st, h, hH with
  | [], h, _ => exact absurd h (by intro q; cases q)
  | [_], h, _ => exact absurd h (by intro q; cases q)
  | v :: u :: rest, h, hH =>
    obtain ⟨y1, r1, e1, V1, L1⟩ := hH.2.2.2.2.2.2.2.cons
    obtain ⟨y2, r2, e2, V2, L2⟩ := L1.cons
    subst e1; subst e2
    obtain ⟨q1, q2⟩ := ze_condf h
    obtain ⟨q3, q4⟩ := ze_condf q2
    exact row y1 y2 r2 (ze_ct1 V1 q1) (ze_ct1 V2 q3) (hK _ _ _ _ _ _ _ q4 _ hn _ _ _ _ _ _ (hH.stk ⟨V1, V2, V1, V2, L2⟩))
/-- two ints compared: what holds where the branch is taken, where it isn't -/
def zc_ok (sp : Nat → Nat) (ρ : List Int32) (ad : List Nat) (f : EG → EV → EV → (EG → Bool) → (EG → Bool) → Bool) (T F : Int32 → Int32 → Prop) : Prop :=
  ∀ (g : EG) (v1 v2 : EV) (kt kf : EG → Bool) (X Y : Value), f g v1 v2 kt kf = true → ze_G g ρ → ze_V sp ρ ad v1 X → ze_V sp ρ ad v2 Y → ∃ x y, X = .int x ∧ Y = .int y ∧ (T x y → ∃ g', ze_G g' ρ ∧ kt g' = true) ∧ (F x y → ∃ g', ze_G g' ρ ∧ kf g' = true)
theorem zc_eq_ok {ad : List Nat} : zc_ok sp ρ ad zc_eq (fun x y => x = y) (fun x y => ¬ x = y) := fun g v1 v2 kt kf X Y h hG h1 h2 => ze_eq_spec h hG h1 h2
theorem zc_ne_ok {ad : List Nat} : zc_ok sp ρ ad zc_ne (fun x y => ¬ x = y) (fun x y => x = y) := fun g v1 v2 kt kf X Y h hG h1 h2 => by
  obtain ⟨x, y, a, b, q1, q2⟩ := ze_eq_spec h hG h1 h2
  exact ⟨x, y, a, b, q2, q1⟩
theorem zc_lt_ok {ad : List Nat} : zc_ok sp ρ ad zc_lt (fun x y => x < y) (fun x y => ¬ x < y) := fun g v1 v2 kt kf X Y h hG h1 h2 => ze_lt_spec h hG h1 h2
theorem zc_ge_ok {ad : List Nat} : zc_ok sp ρ ad zc_ge (fun x y => y ≤ x) (fun x y => ¬ y ≤ x) := fun g v1 v2 kt kf X Y h hG h1 h2 => by
  obtain ⟨x, y, a, b, q1, q2⟩ := ze_lt_spec h hG h1 h2
  exact ⟨x, y, a, b, fun n => q2 (Int32.not_lt.mpr n), fun n => q1 (Int32.not_le.mp n)⟩
theorem zc_gt_ok {ad : List Nat} : zc_ok sp ρ ad zc_gt (fun x y => y < x) (fun x y => ¬ y < x) := fun g v1 v2 kt kf X Y h hG h1 h2 => by
  obtain ⟨y, x, a, b, q1, q2⟩ := ze_lt_spec h hG h2 h1
  exact ⟨x, y, b, a, q1, q2⟩
theorem zc_le_ok {ad : List Nat} : zc_ok sp ρ ad zc_le (fun x y => x ≤ y) (fun x y => ¬ x ≤ y) := fun g v1 v2 kt kf X Y h hG h1 h2 => by
  obtain ⟨y, x, a, b, q1, q2⟩ := ze_lt_spec h hG h2 h1
  exact ⟨x, y, b, a, fun n => q2 (Int32.not_lt.mpr n), fun n => q1 (Int32.not_le.mp n)⟩
theorem zs_b2 {f : EG → EV → EV → (EG → Bool) → (EG → Bool) → Bool} {Tt Ff : Int32 → Int32 → Prop} {tgt : Nat} (hf : zc_ok sp ρ (ws.map (·.1)) f Tt Ff) (hK : ze_KK p l e R s m args below meth c Q z0 dC dI dA sp xs A nL V kk) (hn : ze_at V nx pc2) (ht : ∀ f : List ECE → Bool, jp ca f = true → ∃ cs, f cs = true ∧ ze_at V cs tgt) (h : zo_b2 f nx ca cb cd tl jp kk k cal mc ms ls st w g nc ns = true) (hH : ze_H z0 dC dI dA sp xs A s nL ls st w g ρ ws H locs la vs)
    (row : ∀ (x y : Int32) (rest : List Value), (Tt x y → W p l e R s m args below meth c H locs nc ns Q (F0 m tgt la rest)) → (Ff x y → W p l e R s m args below meth c H locs nc ns Q (F0 m pc2 la rest)) → W p l e R s m args below meth c H locs nc ns Q (F0 m pc la (.int y :: .int x :: rest))) : W p l e R s m args below meth c H locs nc ns Q (F0 m pc la vs) := by
  match st, h, hH with
  | [], h, _ => exact absurd h (by intro q; cases q)
  | [_], h, _ => exact absurd h (by intro q; cases q)
  | v2 :: v1 :: rest, h, hH =>
    obtain ⟨y1, r1, e1, V1, L1⟩ := hH.2.2.2.2.2.2.2.cons
    obtain ⟨y2, r2, e2, V2, L2⟩ := L1.cons
    subst e1; subst e2
    obtain ⟨x, y, ex, ey, q1, q2⟩ := hf g v1 v2 _ _ _ _ h hH.1 V2 V1
    subst ex; subst ey
    refine row x y r2 (fun t => ?_) (fun t => ?_)
    · obtain ⟨g', hG, q⟩ := q1 t
      obtain ⟨cs9, q9, h9⟩ := ht _ q
      exact hK _ _ _ _ _ _ _ q9 _ h9 _ _ _ _ _ _ ((hH.stk L2).gs hG)
    · obtain ⟨g', hG, q⟩ := q2 t
      exact hK _ _ _ _ _ _ _ q _ hn _ _ _ _ _ _ ((hH.stk L2).gs hG)
theorem zs_b1 {f : EG → EV → EV → (EG → Bool) → (EG → Bool) → Bool} {Tt Ff : Int32 → Int32 → Prop} {tgt : Nat} (hf : zc_ok sp ρ (ws.map (·.1)) f Tt Ff) (hK : ze_KK p l e R s m args below meth c Q z0 dC dI dA sp xs A nL V kk) (hn : ze_at V nx pc2) (ht : ∀ f : List ECE → Bool, jp ca f = true → ∃ cs, f cs = true ∧ ze_at V cs tgt) (h : zo_b1 f nx ca cb cd tl jp kk k cal mc ms ls st w g nc ns = true) (hH : ze_H z0 dC dI dA sp xs A s nL ls st w g ρ ws H locs la vs)
    (row : ∀ (x : Int32) (rest : List Value), (Tt x 0 → W p l e R s m args below meth c H locs nc ns Q (F0 m tgt la rest)) → (Ff x 0 → W p l e R s m args below meth c H locs nc ns Q (F0 m pc2 la rest)) → W p l e R s m args below meth c H locs nc ns Q (F0 m pc la (.int x :: rest))) : W p l e R s m args below meth c H locs nc ns Q (F0 m pc la vs) := by
  match st, h, hH with
  | [], h, _ => exact absurd h (by intro q; cases q)
  | v1 :: rest, h, hH =>
    obtain ⟨y1, r1, e1, V1, L1⟩ := hH.2.2.2.2.2.2.2.cons
    subst e1
    obtain ⟨x, y, ex, ey, q1, q2⟩ := hf g v1 (eC 0) _ _ _ (.int (nI 0)) h hH.1 V1 rfl
    subst ex
    cases ey
    rw [nI_0] at q1 q2
    refine row x r1 (fun t => ?_) (fun t => ?_)
    · obtain ⟨g', hG, q⟩ := q1 t
      obtain ⟨cs9, q9, h9⟩ := ht _ q
      exact hK _ _ _ _ _ _ _ q9 _ h9 _ _ _ _ _ _ ((hH.stk L1).gs hG)
    · obtain ⟨g', hG, q⟩ := q2 t
      exact hK _ _ _ _ _ _ _ q _ hn _ _ _ _ _ _ ((hH.stk L1).gs hG)
theorem zs_ifnull {tgt : Nat} (hK : ze_KK p l e R s m args below meth c Q z0 dC dI dA sp xs A nL V kk) (hn : ze_at V nx pc2) (ht : ∀ f : List ECE → Bool, jp ca f = true → ∃ cs, f cs = true ∧ ze_at V cs tgt) (h : zo_ifnull nx ca cb cd tl jp kk k cal mc ms ls st w g nc ns = true) (hH : ze_H z0 dC dI dA sp xs A s nL ls st w g ρ ws H locs la vs)
    (row : ∀ (x : Nat) (rest : List Value), W p l e R s m args below meth c H locs nc ns Q (F0 m pc2 la rest) → W p l e R s m args below meth c H locs nc ns Q (F0 m pc la (.ref x :: rest)))
    (rowN : ∀ (rest : List Value), W p l e R s m args below meth c H locs nc ns Q (F0 m tgt la rest) → W p l e R s m args below meth c H locs nc ns Q (F0 m pc la (.null :: rest))) : W p l e R s m args below meth c H locs nc ns Q (F0 m pc la vs) := by
  unfold zo_ifnull at h
  split at h
  · obtain ⟨y1, r1, e1, V1, L1⟩ := hH.2.2.2.2.2.2.2.cons
    subst e1
    obtain ⟨z, z1, z2⟩ := id V1
    subst z2
    exact row z r1 (hK _ _ _ _ _ _ _ h _ hn _ _ _ _ _ _ (hH.stk L1))
  · obtain ⟨y1, r1, e1, V1, L1⟩ := hH.2.2.2.2.2.2.2.cons
    subst e1
    have z2 : y1 = .null := V1
    subst z2
    obtain ⟨cs9, q9, h9⟩ := ht _ h
    exact rowN r1 (hK _ _ _ _ _ _ _ q9 _ h9 _ _ _ _ _ _ (hH.stk L1))
  · cases h
theorem zs_ifnonnull {tgt : Nat} (hK : ze_KK p l e R s m args below meth c Q z0 dC dI dA sp xs A nL V kk) (hn : ze_at V nx pc2) (ht : ∀ f : List ECE → Bool, jp ca f = true → ∃ cs, f cs = true ∧ ze_at V cs tgt) (h : zo_ifnonnull nx ca cb cd tl jp kk k cal mc ms ls st w g nc ns = true) (hH : ze_H z0 dC dI dA sp xs A s nL ls st w g ρ ws H locs la vs)
    (row : ∀ (x : Nat) (rest : List Value), W p l e R s m args below meth c H locs nc ns Q (F0 m tgt la rest) → W p l e R s m args below meth c H locs nc ns Q (F0 m pc la (.ref x :: rest)))
    (rowN : ∀ (rest : List Value), W p l e R s m args below meth c H locs nc ns Q (F0 m pc2 la rest) → W p l e R s m args below meth c H locs nc ns Q (F0 m pc la (.null :: rest))) : W p l e R s m args below meth c H locs nc ns Q (F0 m pc la vs) := by
  unfold zo_ifnonnull at h
  split at h
  · obtain ⟨y1, r1, e1, V1, L1⟩ := hH.2.2.2.2.2.2.2.cons
    subst e1
    obtain ⟨z, z1, z2⟩ := id V1
    subst z2
    obtain ⟨cs9, q9, h9⟩ := ht _ h
    exact row z r1 (hK _ _ _ _ _ _ _ q9 _ h9 _ _ _ _ _ _ (hH.stk L1))
  · obtain ⟨y1, r1, e1, V1, L1⟩ := hH.2.2.2.2.2.2.2.cons
    subst e1
    have z2 : y1 = .null := V1
    subst z2
    exact rowN r1 (hK _ _ _ _ _ _ _ h _ hn _ _ _ _ _ _ (hH.stk L1))
  · cases h
theorem zs_swu {i a : Nat} {go : Nat → EG → Bool} {x : Int32} (hx : ρ[i]? = some x) : ∀ (tl : List Nat) (odd : Bool) (mm : Nat) (g : EG), zo_swu i a tl go odd mm g = true → ze_G g ρ → ∃ g', ze_G g' ρ ∧ go (ze_tg (ze_b x) a tl odd mm) g' = true := by
  intro tl
  induction tl with
  | nil => intro odd mm g h hG; exact ⟨g, hG, h⟩
  | cons t r ih =>
    intro odd mm g h hG
    cases odd with
    | false => exact ih true t g h hG
    | true =>
      have h : ze_eu g i mm (fun g => go t g) (fun g => zo_swu i a r go false 0 g) = true := h
      have k := ze_eu_spec h hG hx
      show ∃ g', ze_G g' ρ ∧ go (cond (Nat.beq mm (ze_b x)) t (ze_tg (ze_b x) a r false 0)) g' = true
      cases e : Nat.beq mm (ze_b x) with
      | true =>
        obtain ⟨g', q1, q2⟩ := k.1 (ze_beq e).symm
        exact ⟨g', q1, q2⟩
      | false =>
        obtain ⟨g', q1, q2⟩ := k.2 (fun q => ze_nbeq e q.symm)
        exact ih false 0 g' q2 q1
theorem zs_sw (hK : ze_KK p l e R s m args below meth c Q z0 dC dI dA sp xs A nL V kk) (h : zo_sw nx ca cb cd tl jp kk k cal mc ms ls st w g nc ns = true) (hH : ze_H z0 dC dI dA sp xs A s nL ls st w g ρ ws H locs la vs)
    (row : ∀ (x : Int32) (rest : List Value), ∃ tgt, (∀ f : List ECE → Bool, jp (ze_tg (ze_b x) ca tl false 0) f = true → ∃ cs, f cs = true ∧ ze_at V cs tgt) ∧ (W p l e R s m args below meth c H locs nc ns Q (F0 m tgt la rest) → W p l e R s m args below meth c H locs nc ns Q (F0 m pc la (.int x :: rest)))) : W p l e R s m args below meth c H locs nc ns Q (F0 m pc la vs) := by
  match st, h, hH with
  | [], h, _ => exact absurd h (by intro q; cases q)
  | v1 :: rest, h, hH =>
    obtain ⟨y1, r1, e1, V1, L1⟩ := hH.2.2.2.2.2.2.2.cons
    subst e1
    have h : ze_rs g v1 _ _ = true := h
    obtain ⟨x, ex, hx⟩ := ze_rs_spec h hH.1 V1
    subst ex
    obtain ⟨tgt, ht, rw1⟩ := row x r1
    refine rw1 ?_
    rcases hx with ⟨a, ea, hx⟩ | ⟨i, ei, hi, hx⟩
    · rw [ze_f_eq, ze_z_eq, ← ea] at hx
      obtain ⟨cs9, q9, h9⟩ := ht _ hx
      exact hK _ _ _ _ _ _ _ q9 _ h9 _ _ _ _ _ _ (hH.stk L1)
    · obtain ⟨g', hG, q⟩ := zs_swu hi tl false 0 g hx hH.1
      obtain ⟨cs9, q9, h9⟩ := ht _ q
      exact hK _ _ _ _ _ _ _ q9 _ h9 _ _ _ _ _ _ ((hH.stk L1).gs hG)
end ZS2
end
section
/-- what the tables say of the classes, of the arrays -/
def ze_CF : Prop := ∀ (ci : Nat) (C : String) (T : u_T) (N : Nat), vwCl[ci]? = some (C, T, N) → ci < 100 ∧ (∀ w ∈ u_ws C T N, w ∈ zb_T) ∧ (∃ ty0 : Nat → FieldType, ∀ k, k < N → parseFieldDescriptor (T k).2.2.1 = some (ty0 k)) ∧ ∀ a, a < N → ∀ b, b < N → a ≠ b → (T a).2.1 ≠ (T b).2.1
def ze_AF : Prop := ∀ ci ∈ ze_rk, ∃ r : vw_C, vwCl[ci]? = some r ∧ (200 + ci, FieldType.object r.1) ∈ ze_arr
def ze_FL (own : String) (idx : Nat) (T : u_T) (k : Nat) : Prop := Cond.fieldLink own idx (T k).1 (T k).2.1 (T k).2.2.1 ∈ zb_T ∨ ∃ host, Cond.fieldLinkNest own idx (T k).1 (T k).2.1 (T k).2.2.1 host ∈ ze_nest
def ze_ty (t : Nat) (ty : FieldType) : Prop := (t = 0 ∧ ty = .int) ∨ (t = 1 ∧ ty = .boolean) ∨ (t = 2 ∧ ∃ n, ty = .object n) ∨ (t = 2 ∧ ∃ n, ty = .array n) ∨ (t = 3 ∧ ty = .long) ∨ (t = 4 ∧ ty = .char)
theorem ze_char (n : Nat) (h : n ≤ 65535) : narrow .char (.int (nI n)) = .int (nI n) ∧ fits .char (.int (nI n)) = true := pk_charN (by omega)
theorem ze_mem_in : ∀ (l : List Nat) (n : Nat), ze_mem n l = true → n ∈ l := by
  intro l
  induction l with
  | nil => intro n h; cases h
  | cons a t ih =>
    intro n h
    have h : cond (Nat.beq a n) true (ze_mem n t) = true := h
    rcases ze_cond h with ⟨q, _⟩ | ⟨_, q⟩
    · rw [ze_beq q]; exact List.mem_cons_self
    · exact List.mem_cons_of_mem _ (ih n q)
theorem ze_fit {sp : Nat → Nat} {ρ : List Int32} {ad : List Nat} {t : Nat} {ty : FieldType} {v : EV} {x : Value} (h : ze_ty t ty) (hc : ze_tc t v = true) (hv : ze_V sp ρ ad v x) : narrow ty x = x ∧ fits ty x = true := by
  rcases h with ⟨rfl, rfl⟩ | ⟨rfl, rfl⟩ | ⟨rfl, n, rfl⟩ | ⟨rfl, n, rfl⟩ | ⟨rfl, rfl⟩ | ⟨rfl, rfl⟩
  · match v, hc, hv with
    | .inl u, _, hv =>
      obtain ⟨z, ez⟩ := ze_intV hv
      subst ez
      exact ⟨rfl, rfl⟩
    | .inr u, hc, _ => exact absurd hc (by intro q; cases q)
  · match v, hc, hv with
    | .inl (.inl n), hc, hv =>
      have e : x = .int (nI n) := hv
      subst e
      have hn : n ≤ 1 := ze_ble' hc
      rcases Nat.lt_or_ge n 1 with q | q
      · rw [show n = 0 by omega]; exact ⟨by decide +kernel, by decide +kernel⟩
      · rw [show n = 1 by omega]; exact ⟨by decide +kernel, by decide +kernel⟩
    | .inl (.inr n), hc, _ => exact absurd hc (by intro q; cases q)
    | .inr u, hc, _ => exact absurd hc (by intro q; cases q)
  · match v, hc, hv with
    | .inl u, hc, _ => exact absurd hc (by intro q; cases q)
    | .inr (.inl (.inl k)), _, ⟨a, _, e⟩ => subst e; exact ⟨rfl, rfl⟩
    | .inr (.inl (.inr k)), hc, _ => exact absurd hc (by intro q; cases q)
    | .inr (.inr 0), _, e => rw [show x = .null from e]; exact ⟨rfl, rfl⟩
    | .inr (.inr (k + 1)), hc, _ => exact absurd hc (by intro q; cases q)
  · match v, hc, hv with
    | .inl u, hc, _ => exact absurd hc (by intro q; cases q)
    | .inr (.inl (.inl k)), _, ⟨a, _, e⟩ => subst e; exact ⟨rfl, rfl⟩
    | .inr (.inl (.inr k)), hc, _ => exact absurd hc (by intro q; cases q)
    | .inr (.inr 0), _, e => rw [show x = .null from e]; exact ⟨rfl, rfl⟩
    | .inr (.inr (k + 1)), hc, _ => exact absurd hc (by intro q; cases q)
  · match v, hc, hv with
    | .inl u, hc, _ => exact absurd hc (by intro q; cases q)
    | .inr (.inl (.inl k)), hc, _ => exact absurd hc (by intro q; cases q)
    | .inr (.inl (.inr k)), _, e => obtain ⟨z, ez⟩ := ze_longV e; rw [ez]; exact ⟨rfl, rfl⟩
    | .inr (.inr k), hc, _ => exact absurd hc (by intro q; cases q)
  · match v, hc, hv with
    | .inl (.inl n), hc, hv =>
      have e : x = .int (nI n) := hv
      subst e
      exact ze_char n (ze_ble' hc)
    | .inl (.inr n), hc, _ => exact absurd hc (by intro q; cases q)
    | .inr u, hc, _ => exact absurd hc (by intro q; cases q)
section ZS3
variable {p : Program} {l : Launch} {e : Env} {R : Room} {s : State} {m : MethodId} {args : Array Value} {below : List Frame} {meth : Method} {c : Code} {Q : State → Prop}
variable {z0 : List Int32 × List Nat} {dC : Nat → ClassId} {dI : Nat → Nat → Nat} {dA : Nat → ClassId} {sp : Nat → Nat} {xs : Nat → Int32} {A : Nat → Prop} {nL : Nat} {V : List ECE → Prop}
variable {kk : EKn} {k : ERt} {cal : ECal} {mc ms pc pc2 ca cb cd nc ns : Nat} {nx : List ECE} {jp : EJp} {tl : List Nat} {ls st : List EV} {w : EW} {g : EG} {ρ : List Int32} {ws : va_W} {H : Heap} {locs : List Loc} {la : Array Slot} {vs : List Value}
variable {cc : ByteArray} {own : String} {idx : Nat}
/-- behind a store into a cell -/
theorem ze_H.put {q a : Nat} {e0 e1 : va_E} {c1 : EC} {H1 : Heap} {locs1 : List Loc} {rest : List EV} {vr : List Value} (hH : ze_H z0 dC dI dA sp xs A s nL ls st w g ρ ws H locs la vs) (hq : ws[q]? = some (a, e0)) (hC : ze_C dA sp ρ (ws.map (·.1)) c1 e1) (hP : va_P (dC, dI) vwCl (ws.set q (a, e1)) H1) (hD : va_D A (ws.set q (a, e1))) (hS : va_S A s.heap H1 locs1) (hr : ze_L sp ρ (ws.map (·.1)) rest vr) :
    ze_H z0 dC dI dA sp xs A s nL ls rest (ze_ws w q c1) g ρ (ws.set q (a, e1)) H1 locs1 la vr := by
  obtain ⟨lv, hl, hL⟩ := hH.2.2.2.2.2.2.1
  exact ⟨hH.1, ⟨hH.2.1.1, hH.2.1.2.1, by rw [ze_fst hq]; exact hH.2.1.2.2⟩, hH.2.2.1.set hq hC, hP, hD, hS, ⟨lv, hl, by rw [ze_fst hq]; exact hL⟩, by rw [ze_fst hq]; exact hr⟩
theorem zs_getf {C : String} {T : u_T} {N : Nat} (hx : p.tables.exec = Jvm.exec) (hb : c.code = cc) (hown : s.vm.findClass own = some m.cls) (hKs : ze_K dC dI dA s) (hts : ∀ w ∈ zb_T, w.before args s = true) (hcf : ze_CF) (hK : ze_KK p l e R s m args below meth c Q z0 dC dI dA sp xs A nL V kk)
    (hc : vwCl[ca]? = some (C, T, N)) (hkN : cb < N) (hl : ze_FL own idx T cb) (hdg : decode cc pc = .ok (.getfield idx, 3)) (hn : ze_at V nx (pc + 3)) (h : zo_getf nx ca cb cd tl jp kk k cal mc ms ls st w g nc ns = true) (hH : ze_H z0 dC dI dA sp xs A s nL ls st w g ρ ws H locs la vs) : W p l e R s m args below meth c H locs nc ns Q (F0 m pc la vs) := by
  rw [zo_getf_eq] at h
  unfold zo_getf_m at h
  split at h
  · obtain ⟨y1, r1, e1, V1, L1⟩ := hH.2.2.2.2.2.2.2.cons
    subst e1
    obtain ⟨cl, h1, h2⟩ := ze_g_spec h
    obtain ⟨h3, h4⟩ := ze_condf h2
    obtain ⟨v, h5, h6⟩ := ze_n_spec _ _ _ h4
    have e3 := ze_beq h3
    obtain ⟨a, en, ex, hw, hC⟩ := hH.2.2.1.ref h1 V1
    subst ex
    have hf := hcf ca C T N hc
    obtain ⟨fs, ef, hfs⟩ := hC.obj (by rw [e3]; exact hf.1)
    rw [e3] at ef
    subst ef
    obtain ⟨x, hx1, hx2⟩ := hfs.get h5
    have k9 := hK _ _ _ _ _ _ _ h6 _ hn _ _ _ _ _ _ (hH.stk (vs' := x :: r1) ⟨hx2, L1⟩)
    rcases hl with hl | ⟨host, hl⟩
    · exact va_get (D := (dC, dI)) hx hb hts hf.2.1 hown hKs.k0 hH.2.2.2.1 _ hw hc cb hkN (hts _ hl) (fun _ h9 => h9) hx1 hdg k9
    · exact va_getN (D := (dC, dI)) hx hb hts hf.2.1 hown hKs.k0 hH.2.2.2.1 _ hw hc cb hkN (va_Nw.use rfl (hKs.2.2.1 _ hl)) (fun _ h9 => h9) hx1 hdg k9
  · cases h
theorem zs_putf {C : String} {T : u_T} {N : Nat} {ty : FieldType} (hx : p.tables.exec = Jvm.exec) (hb : c.code = cc) (hown : s.vm.findClass own = some m.cls) (hKs : ze_K dC dI dA s) (hts : ∀ w ∈ zb_T, w.before args s = true) (hcf : ze_CF) (hK : ze_KK p l e R s m args below meth c Q z0 dC dI dA sp xs A nL V kk)
    (hc : vwCl[ca]? = some (C, T, N)) (hkN : cb < N) (hd : parseFieldDescriptor (T cb).2.2.1 = some ty) (hty : ze_ty cd ty) (hl : ((T cb).2.2.2 = false ∧ ze_FL own idx T cb) ∨ ((T cb).2.2.2 = true ∧ meth.name = "<init>" ∧ (T cb).1 = own ∧ Cond.fieldLink own idx (T cb).1 (T cb).2.1 (T cb).2.2.1 ∈ zb_T))
    (hdg : decode cc pc = .ok (.putfield idx, 3)) (hn : ze_at V nx (pc + 3)) (h : zo_putf nx ca cb cd tl jp kk k cal mc ms ls st w g nc ns = true) (hH : ze_H z0 dC dI dA sp xs A s nL ls st w g ρ ws H locs la vs) : W p l e R s m args below meth c H locs nc ns Q (F0 m pc la vs) := by
  rw [zo_putf_eq] at h
  unfold zo_putf_m at h
  split at h
  · obtain ⟨y1, r1, e1, V1, L1⟩ := hH.2.2.2.2.2.2.2.cons
    obtain ⟨y2, r2, e2, V2, L2⟩ := L1.cons
    subst e1; subst e2
    obtain ⟨h0, h⟩ := ze_condf h
    obtain ⟨cl, h1, h2⟩ := ze_g_spec h
    obtain ⟨h3, h4⟩ := ze_condf h2
    obtain ⟨v, h5, h6⟩ := ze_n_spec _ _ _ h4
    have e3 := ze_beq h3
    obtain ⟨a, en, ex, hw, hC⟩ := hH.2.2.1.ref h1 V2
    subst ex
    have hf := hcf ca C T N hc
    obtain ⟨ty0, hty0⟩ := hf.2.2.1
    obtain ⟨fs, ef, hfs⟩ := hC.obj (by rw [e3]; exact hf.1)
    rw [e3] at ef
    subst ef
    obtain ⟨hn1, hn2⟩ := ze_fit hty h0 V1
    have hlen : cb < fs.length := by rw [← hfs.len]; exact (List.getElem?_eq_some_iff.mp h5).1
    have hC2 : ze_C dA sp ρ (ws.map (·.1)) (ca, ze_s _ cl.2 cb) (.inr (ca, fs.set cb y1)) := Or.inl ⟨hf.1, _, rfl, by show ze_L sp ρ _ (ze_s _ cl.2 cb) _; rw [ze_s_eq]; exact hfs.set V1 cb⟩
    have k9 : ∀ (H1 : Heap) (locs1 : List Loc), va_P (dC, dI) vwCl (ws.set _ (a, .inr (ca, fs.set cb y1))) H1 → va_D A (ws.set _ (a, .inr (ca, fs.set cb y1))) → va_S A s.heap H1 locs1 → W p l e R s m args below meth c H1 locs1 nc ns Q (F0 m (pc + 3) la r2) :=
      fun H1 locs1 g1 g2 g3 => hK _ _ _ _ _ _ _ h6 _ hn _ _ _ _ _ _ (hH.put hw hC2 g1 g2 g3 L2)
    rcases hl with ⟨hfin, hl | ⟨host, hl⟩⟩ | ⟨hfin, hin, hdc, hl⟩
    · exact va_put (D := (dC, dI)) hx hb hts hf.2.1 ty0 hty0 hf.2.2.2 hown hKs.k0 hH.2.2.2.1 hH.2.2.2.2.1 hH.2.2.2.2.2.1 _ hw hc cb hkN (hts _ hl) (fun _ h9 => h9) hfin hd hn1 hn2 hlen hdg k9
    · exact va_putN (D := (dC, dI)) hx hb hts hf.2.1 ty0 hty0 hf.2.2.2 hown hKs.k0 hH.2.2.2.1 hH.2.2.2.2.1 hH.2.2.2.2.2.1 _ hw hc cb hkN (va_Nw.use rfl (hKs.2.2.1 _ hl)) (fun _ h9 => h9) hfin hd hn1 hn2 hlen hdg k9
    · exact va_putF (D := (dC, dI)) hx hb hts hf.2.1 ty0 hty0 hf.2.2.2 hown hKs.k0 hH.2.2.2.1 hH.2.2.2.2.1 hH.2.2.2.2.2.1 _ hw hc cb hkN (hts _ hl) (fun _ h9 => h9) hfin hin hdc hd hn1 hn2 hlen hdg k9
  · cases h
theorem ze_vin {n N : Nat} (h : n ≤ 1073741824) (hN : n < N) : vp_in (nI n) N := by
  intro q
  rcases q with q | q
  · exact nI_pos (by omega) q
  · rw [nI_clamp (by omega)] at q
    omega
theorem ze_cln {n : Nat} (h : n ≤ 1073741824) : (nI n).toNatClampNeg = n := nI_clamp (by omega)
/-- an element of an array of ints -/
theorem zs_ald {kd : Nat} (h1k : 100 ≤ kd) (h2k : kd < 150) (hK : ze_KK p l e R s m args below meth c Q z0 dC dI dA sp xs A nL V kk) (hn : ze_at V nx pc2) (h : zo_ald kd nx ca cb cd tl jp kk k cal mc ms ls st w g nc ns = true) (hH : ze_H z0 dC dI dA sp xs A s nL ls st w g ρ ws H locs la vs)
    (row : ∀ (q a n : Nat) (f : Nat → Int32) (i : Int32) (rest : List Value), ws[q]? = some (a, .inl (dA kd, n, .inl f)) → vp_in i n → W p l e R s m args below meth c H locs nc ns Q (F0 m pc2 la (.int (f i.toNatClampNeg) :: rest)) → W p l e R s m args below meth c H locs nc ns Q (F0 m pc la (.int i :: .ref a :: rest))) : W p l e R s m args below meth c H locs nc ns Q (F0 m pc la vs) := by
  rw [zo_ald_eq] at h
  unfold zo_ald_m at h
  split at h
  · obtain ⟨y1, r1, e1, V1, L1⟩ := hH.2.2.2.2.2.2.2.cons
    obtain ⟨y2, r2, e2, V2, L2⟩ := L1.cons
    subst e1; subst e2
    obtain ⟨n, g', en, hG', hx⟩ := ze_ix_spec h hH.1 V1
    subst en
    · obtain ⟨h0, hx⟩ := ze_condf hx
      obtain ⟨cl, h1, h2⟩ := ze_g_spec hx
      obtain ⟨h3, h4⟩ := ze_condf h2
      obtain ⟨v, h5, h6⟩ := ze_n_spec _ _ _ h4
      have e3 := ze_beq h3
      have h0 := ze_ble' h0
      obtain ⟨a, eq, ex, hw, hC⟩ := hH.2.2.1.ref h1 V2
      subst ex
      obtain ⟨f, ef, hf⟩ := hC.ints (by omega) (by omega)
      rw [e3] at ef
      subst ef
      refine row _ a _ f _ r2 hw (ze_vin h0 (List.getElem?_eq_some_iff.mp h5).1) ?_
      rw [ze_cln h0]
      exact hK _ _ _ _ _ _ _ h6 _ hn _ _ _ _ _ _ ((hH.gs hG').stk ⟨hf n v h5, L2⟩)
  · cases h
theorem zs_lald (hK : ze_KK p l e R s m args below meth c Q z0 dC dI dA sp xs A nL V kk) (hn : ze_at V nx pc2) (h : zo_ald 150 nx ca cb cd tl jp kk k cal mc ms ls st w g nc ns = true) (hH : ze_H z0 dC dI dA sp xs A s nL ls st w g ρ ws H locs la vs)
    (row : ∀ (q a n : Nat) (f : Nat → Int64) (i : Int32) (rest : List Value), ws[q]? = some (a, .inl (dA 150, n, .inr (.inl f))) → vp_in i n → W p l e R s m args below meth c H locs nc ns Q (F0 m pc2 la (.long (f i.toNatClampNeg) :: rest)) → W p l e R s m args below meth c H locs nc ns Q (F0 m pc la (.int i :: .ref a :: rest))) : W p l e R s m args below meth c H locs nc ns Q (F0 m pc la vs) := by
  rw [zo_ald_eq] at h
  unfold zo_ald_m at h
  split at h
  · obtain ⟨y1, r1, e1, V1, L1⟩ := hH.2.2.2.2.2.2.2.cons
    obtain ⟨y2, r2, e2, V2, L2⟩ := L1.cons
    subst e1; subst e2
    obtain ⟨n, g', en, hG', hx⟩ := ze_ix_spec h hH.1 V1
    subst en
    · obtain ⟨h0, hx⟩ := ze_condf hx
      obtain ⟨cl, h1, h2⟩ := ze_g_spec hx
      obtain ⟨h3, h4⟩ := ze_condf h2
      obtain ⟨v, h5, h6⟩ := ze_n_spec _ _ _ h4
      have e3 := ze_beq h3
      have h0 := ze_ble' h0
      obtain ⟨a, eq, ex, hw, hC⟩ := hH.2.2.1.ref h1 V2
      subst ex
      obtain ⟨f, ef, hf⟩ := hC.longs (by omega) (by omega)
      rw [e3] at ef
      subst ef
      refine row _ a _ f _ r2 hw (ze_vin h0 (List.getElem?_eq_some_iff.mp h5).1) ?_
      rw [ze_cln h0]
      exact hK _ _ _ _ _ _ _ h6 _ hn _ _ _ _ _ _ ((hH.gs hG').stk ⟨hf n v h5, L2⟩)
  · cases h
theorem zs_aald (hx : p.tables.exec = Jvm.exec) (hb : c.code = cc) (hKs : ze_K dC dI dA s) (haf : ze_AF) (hdg : decode cc pc = .ok (.aaload, 1)) (hK : ze_KK p l e R s m args below meth c Q z0 dC dI dA sp xs A nL V kk) (hn : ze_at V nx (pc + 1)) (h : zo_aald nx ca cb cd tl jp kk k cal mc ms ls st w g nc ns = true) (hH : ze_H z0 dC dI dA sp xs A s nL ls st w g ρ ws H locs la vs) : W p l e R s m args below meth c H locs nc ns Q (F0 m pc la vs) := by
  rw [zo_aald_eq] at h
  unfold zo_aald_m at h
  split at h
  · obtain ⟨y1, r1, e1, V1, L1⟩ := hH.2.2.2.2.2.2.2.cons
    obtain ⟨y2, r2, e2, V2, L2⟩ := L1.cons
    subst e1; subst e2
    obtain ⟨n, g', en, hG', hx'⟩ := ze_ix_spec h hH.1 V1
    subst en
    · obtain ⟨h0, hx'⟩ := ze_condf hx'
      obtain ⟨cl, h1, h2⟩ := ze_g_spec hx'
      obtain ⟨h3, h4⟩ := ze_condf h2
      obtain ⟨h3b, h4⟩ := ze_condf h4
      obtain ⟨v, h5, h6⟩ := ze_n_spec _ _ _ h4
      have e3 := ze_ble' h3
      have h0 := ze_ble' h0
      obtain ⟨a, eq, ex, hw, hC⟩ := hH.2.2.1.ref h1 V2
      subst ex
      obtain ⟨f, ef, hf⟩ := hC.refs e3
      subst ef
      obtain ⟨r, hr1, hr2⟩ := haf _ (ze_mem_in _ _ h3b)
      rw [show 200 + Nat.sub cl.1 200 = cl.1 by show 200 + (cl.1 - 200) = cl.1; omega] at hr2
      refine va_aldq (D := (dC, dI)) hx hb (hKs.k1 hr2) hH.2.2.2.1 _ 0 hw rfl (ze_vin h0 (List.getElem?_eq_some_iff.mp h5).1) hdg ?_
      rw [ze_cln h0]
      exact hK _ _ _ _ _ _ _ h6 _ hn _ _ _ _ _ _ ((hH.gs hG').stk ⟨hf n v h5, L2⟩)
  · cases h
/-- the script -/
def ze_X (sp : Nat → Nat) (xs : Nat → Int32) (A : Nat → Prop) (s : State) : Prop := va_X (sp 0) 5 xs s s.heap ∧ sp 0 < s.heap.size ∧ ¬ A (sp 0)
theorem zs_iald (hx : p.tables.exec = Jvm.exec) (hb : c.code = cc) (hKs : ze_K dC dI dA s) (hsc : ze_X sp xs A s) (hai : (100, FieldType.int) ∈ ze_arr) (hdg : decode cc pc = .ok (.iaload, 1)) (hK : ze_KK p l e R s m args below meth c Q z0 dC dI dA sp xs A nL V kk) (hn : ze_at V nx (pc + 1)) (h : zo_iald nx ca cb cd tl jp kk k cal mc ms ls st w g nc ns = true) (hH : ze_H z0 dC dI dA sp xs A s nL ls st w g ρ ws H locs la vs) : W p l e R s m args below meth c H locs nc ns Q (F0 m pc la vs) := by
  unfold zo_iald at h
  split at h
  · obtain ⟨y1, r1, e1, V1, L1⟩ := hH.2.2.2.2.2.2.2.cons
    obtain ⟨y2, r2, e2, V2, L2⟩ := L1.cons
    subst e1; subst e2
    obtain ⟨h1, h2⟩ := ze_condf h
    obtain ⟨h3, h4⟩ := ze_condf h2
    have e1 := ze_beq h1
    subst e1
    have e2 : y2 = .ref (sp 0) := V2
    have e3 : y1 = .int (nI _) := V1
    subst e2; subst e3
    have h3 := ze_ble' h3
    refine va_sld hx hb hsc.1 hsc.2.1 hsc.2.2 hH.2.2.2.2.2.1 (ze_vin (by omega) h3) hdg ?_
    rw [ze_cln (by omega)]
    exact hK _ _ _ _ _ _ _ h4 _ hn _ _ _ _ _ _ (hH.stk ⟨⟨_, hH.2.1.1 _ h3, rfl⟩, L2⟩)
  · refine zs_ald (by decide) (by decide) hK hn h hH (fun q a n f i rest hw hin k9 => ?_)
    exact va_iald (D := (dC, dI)) hx hb (hKs.k1 hai) hH.2.2.2.1 q 0 hw rfl hin hdg k9
theorem zs_alen (hx : p.tables.exec = Jvm.exec) (hb : c.code = cc) (hKs : ze_K dC dI dA s) (hsc : ze_X sp xs A s) (hall : ∀ kd ∈ ze_ka, 100 ≤ kd ∧ ∃ ty, (kd, ty) ∈ ze_arr) (hdg : decode cc pc = .ok (.arraylength, 1)) (hK : ze_KK p l e R s m args below meth c Q z0 dC dI dA sp xs A nL V kk) (hn : ze_at V nx (pc + 1)) (h : zo_alen nx ca cb cd tl jp kk k cal mc ms ls st w g nc ns = true) (hH : ze_H z0 dC dI dA sp xs A s nL ls st w g ρ ws H locs la vs) : W p l e R s m args below meth c H locs nc ns Q (F0 m pc la vs) := by
  unfold zo_alen at h
  split at h
  · obtain ⟨y1, r1, e1, V1, L1⟩ := hH.2.2.2.2.2.2.2.cons
    subst e1
    obtain ⟨cl, h1, h2⟩ := ze_g_spec h
    obtain ⟨h3, h4⟩ := ze_condf h2
    rw [ze_f_eq] at h4
    obtain ⟨a, eq, ex, hw, hC⟩ := hH.2.2.1.ref h1 V1
    subst ex
    obtain ⟨h3, ty, hty⟩ := hall cl.1 (ze_mem_in _ _ h3)
    have k9 := hK _ _ _ _ _ _ _ h4 _ hn _ _ _ _ _ _ (hH.stk (vs' := .int (nI cl.2.length) :: r1) ⟨rfl, L1⟩)
    rcases hC with ⟨q, _⟩ | ⟨_, _, f, ef, _⟩ | ⟨_, _, f, ef, _⟩ | ⟨_, f, ef, _⟩
    · omega
    · subst ef; exact va_alen (D := (dC, dI)) hx hb (hKs.k1 hty) hH.2.2.2.1 _ 0 hw rfl rfl hdg k9
    · subst ef; exact va_alen (D := (dC, dI)) hx hb (hKs.k1 hty) hH.2.2.2.1 _ 0 hw rfl rfl hdg k9
    · subst ef; exact va_alen (D := (dC, dI)) hx hb (hKs.k1 hty) hH.2.2.2.1 _ 0 hw rfl rfl hdg k9
  · obtain ⟨y1, r1, e1, V1, L1⟩ := hH.2.2.2.2.2.2.2.cons
    subst e1
    obtain ⟨h1, h2⟩ := ze_condf h
    have e1 := ze_beq h1
    subst e1
    have e2 : y1 = .ref (sp 0) := V1
    subst e2
    refine va_slen hx hb hsc.1 hsc.2.1 hsc.2.2 hH.2.2.2.2.2.1 hdg ?_
    exact hK _ _ _ _ _ _ _ h2 _ hn _ _ _ _ _ _ (hH.stk ⟨rfl, L1⟩)
  · cases h
end ZS3
end
section
section ZS4
variable {p : Program} {l : Launch} {e : Env} {R : Room} {s : State} {m : MethodId} {args : Array Value} {below : List Frame} {meth : Method} {c : Code} {Q : State → Prop}
variable {z0 : List Int32 × List Nat} {dC : Nat → ClassId} {dI : Nat → Nat → Nat} {dA : Nat → ClassId} {sp : Nat → Nat} {xs : Nat → Int32} {A : Nat → Prop} {nL : Nat} {V : List ECE → Prop}
variable {kk : EKn} {k : ERt} {cal : ECal} {mc ms pc pc2 ca cb cd nc ns : Nat} {nx : List ECE} {jp : EJp} {tl : List Nat} {ls st : List EV} {w : EW} {g : EG} {ρ : List Int32} {ws : va_W} {H : Heap} {locs : List Loc} {la : Array Slot} {vs : List Value}
variable {cc : ByteArray} {own : String} {idx : Nat}
/-- a store into an array: what the engine's own step says -/
theorem zs_put {kd : Nat} {v i : EV} {q : Nat} {rest : List EV} {vr : List Value} {y1 y2 : Value} (hK : ze_KK p l e R s m args below meth c Q z0 dC dI dA sp xs A nL V kk) (hn : ze_at V nx pc2) (h : zo_put kd v i q nx kk ls rest w g nc ns = true) (hH : ze_H z0 dC dI dA sp xs A s nL ls rest w g ρ ws H locs la vr)
    (V1 : ze_V sp ρ (ws.map (·.1)) i y1) (V2 : ze_V sp ρ (ws.map (·.1)) (eR q) y2) : ∃ (n a : Nat) (cl : EC) (e0 : va_E), y1 = .int (nI n) ∧ y2 = .ref a ∧ n ≤ 1073741824 ∧ n < cl.2.length ∧ cl.1 = kd ∧ ws[q]? = some (a, e0) ∧ ze_C dA sp ρ (ws.map (·.1)) cl e0 ∧
      ∀ (e1 : va_E), ze_C dA sp ρ (ws.map (·.1)) (kd, cl.2.set n v) e1 → ∀ (H1 : Heap) (locs1 : List Loc), va_P (dC, dI) vwCl (ws.set q (a, e1)) H1 → va_D A (ws.set q (a, e1)) → va_S A s.heap H1 locs1 → W p l e R s m args below meth c H1 locs1 nc ns Q (F0 m pc2 la vr) := by
  unfold zo_put at h
  obtain ⟨n, g', en, hG', hx⟩ := ze_ix_spec h hH.1 V1
  obtain ⟨h0, hx⟩ := ze_condf hx
  obtain ⟨cl, h1, h2⟩ := ze_g_spec hx
  obtain ⟨h3, h4⟩ := ze_condf h2
  obtain ⟨u, h5, h6⟩ := ze_n_spec _ _ _ h4
  obtain ⟨a, e0, ex2, hw, hC⟩ := hH.2.2.1.ref h1 V2
  refine ⟨n, a, cl, e0, en, ex2, ze_ble' h0, (List.getElem?_eq_some_iff.mp h5).1, ze_beq h3, hw, hC, fun e1 hC1 H1 locs1 g1 g2 g3 => ?_⟩
  rw [ze_s_eq] at h6
  exact hK _ _ _ _ _ _ _ h6 _ hn _ _ _ _ _ _ ((hH.gs hG').put hw hC1 g1 g2 g3 hH.2.2.2.2.2.2.2)
theorem ze_updI {v : EV} {x : Int32} {l0 : List EV} {f : Nat → Int32} {ad : List Nat} {n : Nat} (hf : ∀ (j : Nat) (u : EV), l0[j]? = some u → ze_V sp ρ ad u (.int (f j))) (hv : ze_V sp ρ ad v (.int x)) : ∀ (j : Nat) (u : EV), (l0.set n v)[j]? = some u → ze_V sp ρ ad u (.int (upd f n x j)) := by
  intro j u hj
  by_cases hjn : n = j
  · subst hjn
    by_cases hl : n < l0.length
    · rw [List.getElem?_set_self hl] at hj
      cases hj
      simpa [upd] using hv
    · rw [List.getElem?_eq_none (by rw [List.length_set]; omega)] at hj
      cases hj
  · rw [List.getElem?_set_ne hjn] at hj
    have := hf j u hj
    simpa [upd, Ne.symm hjn] using this
theorem zs_iast (hx : p.tables.exec = Jvm.exec) (hb : c.code = cc) (hKs : ze_K dC dI dA s) (hai : (100, FieldType.int) ∈ ze_arr) (hdg : decode cc pc = .ok (.iastore, 1)) (hK : ze_KK p l e R s m args below meth c Q z0 dC dI dA sp xs A nL V kk) (hn : ze_at V nx (pc + 1)) (h : zo_iast nx ca cb cd tl jp kk k cal mc ms ls st w g nc ns = true) (hH : ze_H z0 dC dI dA sp xs A s nL ls st w g ρ ws H locs la vs) : W p l e R s m args below meth c H locs nc ns Q (F0 m pc la vs) := by
  rw [zo_iast_eq] at h
  unfold zo_iast_m at h
  split at h
  · obtain ⟨y1, r1, e1, V1, L1⟩ := hH.2.2.2.2.2.2.2.cons
    obtain ⟨y2, r2, e2, V2, L2⟩ := L1.cons
    obtain ⟨y3, r3, e3, V3, L3⟩ := L2.cons
    subst e1; subst e2; subst e3
    obtain ⟨z, ez⟩ := ze_intV V1
    subst ez
    obtain ⟨n, a, cl, e0, ey1, ey2, hn1, hn2, hk1, hw, hC, k9⟩ := zs_put hK hn h (hH.stk L3) V2 V3
    subst ey1; subst ey2
    obtain ⟨f, ef, hf⟩ := hC.ints (by omega) (by omega)
    rw [hk1] at ef
    subst ef
    refine va_iast (D := (dC, dI)) hx hb (hKs.k1 hai) hH.2.2.2.1 hH.2.2.2.2.1 hH.2.2.2.2.2.1 _ 0 hw rfl (ze_vin hn1 hn2) hdg (fun H1 locs1 g1 g2 g3 => ?_)
    rw [ze_cln hn1] at g1 g2
    refine k9 _ (Or.inr (Or.inl ⟨(by show 100 ≤ 100; decide), (by show 100 < 150; decide), upd f n z, ?_, ze_updI hf V1⟩)) H1 locs1 g1 g2 g3
    show _ = Sum.inl (_, (cl.2.set n _).length, _)
    rw [List.length_set]
  · cases h
theorem ze_narC {n : Nat} (h : n ≤ 65535) : vp_nar .char (nI n) = nI n := by
  unfold vp_nar
  rw [(ze_char _ h).1]
theorem ze_narZ {n : Nat} (h : n ≤ 1) : vp_nar .boolean (nI n) = nI n := by
  rcases Nat.lt_or_ge n 1 with q | q
  · rw [show n = 0 by omega]; decide +kernel
  · rw [show n = 1 by omega]; decide +kernel
theorem zs_cast (hx : p.tables.exec = Jvm.exec) (hb : c.code = cc) (hKs : ze_K dC dI dA s) (hai : (101, FieldType.char) ∈ ze_arr) (hdg : decode cc pc = .ok (.castore, 1)) (hK : ze_KK p l e R s m args below meth c Q z0 dC dI dA sp xs A nL V kk) (hn : ze_at V nx (pc + 1)) (h : zo_cast nx ca cb cd tl jp kk k cal mc ms ls st w g nc ns = true) (hH : ze_H z0 dC dI dA sp xs A s nL ls st w g ρ ws H locs la vs) : W p l e R s m args below meth c H locs nc ns Q (F0 m pc la vs) := by
  unfold zo_cast at h
  split at h
  · obtain ⟨y1, r1, e1, V1, L1⟩ := hH.2.2.2.2.2.2.2.cons
    obtain ⟨y2, r2, e2, V2, L2⟩ := L1.cons
    obtain ⟨y3, r3, e3, V3, L3⟩ := L2.cons
    subst e1; subst e2; subst e3
    obtain ⟨hu, h⟩ := ze_condf h
    have ez : y1 = .int (nI _) := V1
    subst ez
    obtain ⟨n, a, cl, e0, ey1, ey2, hn1, hn2, hk1, hw, hC, k9⟩ := zs_put hK hn h (hH.stk L3) V2 V3
    subst ey1; subst ey2
    obtain ⟨f, ef, hf⟩ := hC.ints (by omega) (by omega)
    rw [hk1] at ef
    subst ef
    refine va_cast (D := (dC, dI)) hx hb (hKs.k1 hai) hH.2.2.2.1 hH.2.2.2.2.1 hH.2.2.2.2.2.1 _ 0 hw rfl (ze_vin hn1 hn2) hdg (fun H1 locs1 g1 g2 g3 => ?_)
    rw [ze_cln hn1] at g1 g2
    rw [ze_narC (ze_ble' hu)] at g1 g2
    refine k9 _ (Or.inr (Or.inl ⟨(by show 100 ≤ 101; decide), (by show 101 < 150; decide), upd f n _, ?_, ze_updI hf V1⟩)) H1 locs1 g1 g2 g3
    show _ = Sum.inl (_, (cl.2.set n _).length, _)
    rw [List.length_set]
  · obtain ⟨y1, r1, e1, V1, L1⟩ := hH.2.2.2.2.2.2.2.cons
    obtain ⟨y2, r2, e2, V2, L2⟩ := L1.cons
    obtain ⟨y3, r3, e3, V3, L3⟩ := L2.cons
    subst e1; subst e2; subst e3
    obtain ⟨z, ez⟩ := ze_intV V1
    subst ez
    rw [ze_f_eq] at h
    have hF := (hH.stk L3).fr (lo := 0) (hi := 4294967295) (x := vp_nar .char z) (Nat.zero_le _) (ze_b_top _)
    have hp : ρ <+: ρ ++ [vp_nar .char z] := List.prefix_append _ _
    obtain ⟨n, a, cl, e0, ey1, ey2, hn1, hn2, hk1, hw, hC, k9⟩ := zs_put hK hn h hF (V2.mono hp (List.prefix_refl _)) (V3.mono hp (List.prefix_refl _))
    subst ey1; subst ey2
    obtain ⟨f, ef, hf⟩ := hC.ints (by omega) (by omega)
    rw [hk1] at ef
    subst ef
    refine va_cast (D := (dC, dI)) hx hb (hKs.k1 hai) hH.2.2.2.1 hH.2.2.2.2.1 hH.2.2.2.2.2.1 _ 0 hw rfl (ze_vin hn1 hn2) hdg (fun H1 locs1 g1 g2 g3 => ?_)
    rw [ze_cln hn1] at g1 g2
    refine k9 _ (Or.inr (Or.inl ⟨(by show 100 ≤ 101; decide), (by show 101 < 150; decide), upd f n (vp_nar .char z), ?_, ze_updI hf ⟨_, hH.1.new _, rfl⟩⟩)) H1 locs1 g1 g2 g3
    show _ = Sum.inl (_, (cl.2.set n _).length, _)
    rw [List.length_set]
  · cases h
theorem zs_bast (hx : p.tables.exec = Jvm.exec) (hb : c.code = cc) (hKs : ze_K dC dI dA s) (hai : (104, FieldType.boolean) ∈ ze_arr) (hdg : decode cc pc = .ok (.bastore, 1)) (hK : ze_KK p l e R s m args below meth c Q z0 dC dI dA sp xs A nL V kk) (hn : ze_at V nx (pc + 1)) (h : zo_bast nx ca cb cd tl jp kk k cal mc ms ls st w g nc ns = true) (hH : ze_H z0 dC dI dA sp xs A s nL ls st w g ρ ws H locs la vs) : W p l e R s m args below meth c H locs nc ns Q (F0 m pc la vs) := by
  unfold zo_bast at h
  split at h
  · obtain ⟨y1, r1, e1, V1, L1⟩ := hH.2.2.2.2.2.2.2.cons
    obtain ⟨y2, r2, e2, V2, L2⟩ := L1.cons
    obtain ⟨y3, r3, e3, V3, L3⟩ := L2.cons
    subst e1; subst e2; subst e3
    obtain ⟨hu, h⟩ := ze_condf h
    have ez : y1 = .int (nI _) := V1
    subst ez
    obtain ⟨n, a, cl, e0, ey1, ey2, hn1, hn2, hk1, hw, hC, k9⟩ := zs_put hK hn h (hH.stk L3) V2 V3
    subst ey1; subst ey2
    obtain ⟨f, ef, hf⟩ := hC.ints (by omega) (by omega)
    rw [hk1] at ef
    subst ef
    refine va_zast (D := (dC, dI)) hx hb (hKs.k1 hai) hH.2.2.2.1 hH.2.2.2.2.1 hH.2.2.2.2.2.1 _ 0 hw rfl (ze_vin hn1 hn2) hdg (fun H1 locs1 g1 g2 g3 => ?_)
    rw [ze_cln hn1] at g1 g2
    rw [ze_narZ (ze_ble' hu)] at g1 g2
    refine k9 _ (Or.inr (Or.inl ⟨(by show 100 ≤ 104; decide), (by show 104 < 150; decide), upd f n _, ?_, ze_updI hf V1⟩)) H1 locs1 g1 g2 g3
    show _ = Sum.inl (_, (cl.2.set n _).length, _)
    rw [List.length_set]
  · cases h
theorem ze_updL {v : EV} {x : Int64} {l0 : List EV} {f : Nat → Int64} {ad : List Nat} {n : Nat} (hf : ∀ (j : Nat) (u : EV), l0[j]? = some u → ze_V sp ρ ad u (.long (f j))) (hv : ze_V sp ρ ad v (.long x)) : ∀ (j : Nat) (u : EV), (l0.set n v)[j]? = some u → ze_V sp ρ ad u (.long (vp_updL f n x j)) := by
  intro j u hj
  by_cases hjn : n = j
  · subst hjn
    by_cases hl : n < l0.length
    · rw [List.getElem?_set_self hl] at hj
      cases hj
      simpa [vp_updL] using hv
    · rw [List.getElem?_eq_none (by rw [List.length_set]; omega)] at hj
      cases hj
  · rw [List.getElem?_set_ne hjn] at hj
    have := hf j u hj
    simpa [vp_updL, Ne.symm hjn] using this
theorem zs_last (hx : p.tables.exec = Jvm.exec) (hb : c.code = cc) (hKs : ze_K dC dI dA s) (hai : (150, FieldType.long) ∈ ze_arr) (hdg : decode cc pc = .ok (.lastore, 1)) (hK : ze_KK p l e R s m args below meth c Q z0 dC dI dA sp xs A nL V kk) (hn : ze_at V nx (pc + 1)) (h : zo_last nx ca cb cd tl jp kk k cal mc ms ls st w g nc ns = true) (hH : ze_H z0 dC dI dA sp xs A s nL ls st w g ρ ws H locs la vs) : W p l e R s m args below meth c H locs nc ns Q (F0 m pc la vs) := by
  unfold zo_last at h
  split at h
  · obtain ⟨y1, r1, e1, V1, L1⟩ := hH.2.2.2.2.2.2.2.cons
    obtain ⟨y2, r2, e2, V2, L2⟩ := L1.cons
    obtain ⟨y3, r3, e3, V3, L3⟩ := L2.cons
    subst e1; subst e2; subst e3
    obtain ⟨z, ez⟩ := ze_longV V1
    subst ez
    obtain ⟨n, a, cl, e0, ey1, ey2, hn1, hn2, hk1, hw, hC, k9⟩ := zs_put hK hn h (hH.stk L3) V2 V3
    subst ey1; subst ey2
    obtain ⟨f, ef, hf⟩ := hC.longs (by omega) (by omega)
    rw [hk1] at ef
    subst ef
    refine va_last (D := (dC, dI)) hx hb (hKs.k1 hai) hH.2.2.2.1 hH.2.2.2.2.1 hH.2.2.2.2.2.1 _ 0 hw rfl (ze_vin hn1 hn2) hdg (fun H1 locs1 g1 g2 g3 => ?_)
    rw [ze_cln hn1] at g1 g2
    refine k9 _ (Or.inr (Or.inr (Or.inl ⟨(by show 150 ≤ 150; decide), (by show 150 < 200; decide), vp_updL f n _, ?_, ze_updL hf V1⟩))) H1 locs1 g1 g2 g3
    show _ = Sum.inl (_, (cl.2.set n _).length, _)
    rw [List.length_set]
  · cases h
theorem zs_aast (hx : p.tables.exec = Jvm.exec) (hb : c.code = cc) (hKs : ze_K dC dI dA s) (haf : ze_AF) (hcf : ze_CF) (hdg : decode cc pc = .ok (.aastore, 1)) (hK : ze_KK p l e R s m args below meth c Q z0 dC dI dA sp xs A nL V kk) (hn : ze_at V nx (pc + 1)) (h : zo_aast nx ca cb cd tl jp kk k cal mc ms ls st w g nc ns = true) (hH : ze_H z0 dC dI dA sp xs A s nL ls st w g ρ ws H locs la vs) : W p l e R s m args below meth c H locs nc ns Q (F0 m pc la vs) := by
  unfold zo_aast at h
  split at h
  · obtain ⟨y1, r1, e1, V1, L1⟩ := hH.2.2.2.2.2.2.2.cons
    obtain ⟨y2, r2, e2, V2, L2⟩ := L1.cons
    obtain ⟨y3, r3, e3, V3, L3⟩ := L2.cons
    subst e1; subst e2; subst e3
    obtain ⟨o, h1, h2⟩ := ze_g_spec h
    obtain ⟨h3, h4⟩ := ze_condf h2
    obtain ⟨r, hr1, hr2⟩ := haf _ (ze_mem_in _ _ h3)
    have hr3 := (hcf o.1 r.1 r.2.1 r.2.2 hr1).1
    obtain ⟨ao, eo, ey0, hwo, hCo⟩ := hH.2.2.1.ref h1 V1
    subst ey0
    obtain ⟨fs, efs, -⟩ := hCo.obj hr3
    subst efs
    obtain ⟨n, a, cl, e0, ey1, ey2, hn1, hn2, hk1, hw, hC, k9⟩ := zs_put hK hn h4 (hH.stk L3) V2 V3
    subst ey1; subst ey2
    have hk1 : cl.1 = 200 + o.1 := hk1
    obtain ⟨f, ef, hf⟩ := hC.refs (by omega)
    rw [hk1] at ef
    subst ef
    refine va_astq (D := (dC, dI)) hx hb (hKs.k1 hr2) hH.2.2.2.1 hH.2.2.2.2.1 hH.2.2.2.2.2.1 _ 0 _ o.1 hw rfl hwo hr1 (ze_vin hn1 hn2) hdg (fun H1 locs1 g1 g2 g3 => ?_)
    rw [ze_cln hn1] at g1 g2
    refine k9 _ (Or.inr (Or.inr (Or.inr ⟨by show 200 ≤ Nat.add 200 o.1; exact Nat.le_add_right _ _, va_up f n (some ao), ?_, ?_⟩))) H1 locs1 g1 g2 g3
    · show _ = Sum.inl (_, (cl.2.set n _).length, _)
      rw [List.length_set]
      rfl
    · intro j u hj
      have hj : (cl.2.set n _)[j]? = some u := hj
      by_cases hjn : n = j
      · subst hjn
        rw [List.getElem?_set_self hn2] at hj
        cases hj
        simpa [va_up, va_rf] using V1
      · rw [List.getElem?_set_ne hjn] at hj
        simpa [va_up, Ne.symm hjn] using hf j u hj
  · cases h
/-- a new cell -/
theorem zs_mk {c1 : EC} {n : Nat} (hK : ze_KK p l e R s m args below meth c Q z0 dC dI dA sp xs A nL V kk) (hn : ze_at V nx pc2) (h : zo_mk w c1 n nx mc ms kk ls st g nc ns = true) (hH : ze_H z0 dC dI dA sp xs A s nL ls st w g ρ ws H locs la vs) : nc + 1 ≤ mc ∧ ns + n ≤ ms ∧
    ∀ (q : Nat) (e1 : va_E), ze_C dA sp ρ (ws.map (·.1) ++ [q]) c1 e1 → ∀ (H1 : Heap), va_P (dC, dI) vwCl (ws ++ [(q, e1)]) H1 → va_D A (ws ++ [(q, e1)]) → va_S A s.heap H1 locs → W p l e R s m args below meth c H1 locs (nc + 1) (ns + n) Q (F0 m pc2 la (.ref q :: vs)) := by
  unfold zo_mk at h
  obtain ⟨h1, h⟩ := ze_condf h
  obtain ⟨h2, h⟩ := ze_condf h
  refine ⟨ze_ble' h1, ze_ble' h2, fun q e1 hC H1 g1 g2 g3 => ?_⟩
  obtain ⟨w', h3, h4, h5⟩ := ze_wp_spec h
  have em : (ws ++ [(q, e1)]).map (·.1) = ws.map (·.1) ++ [q] := by simp
  have hp : ws.map (·.1) <+: (ws ++ [(q, e1)]).map (·.1) := by rw [em]; exact List.prefix_append _ _
  obtain ⟨lv, hl, hL⟩ := hH.2.2.2.2.2.2.1
  refine hK _ _ _ _ _ _ _ h3 _ hn _ _ _ _ _ _ ⟨hH.1, ⟨hH.2.1.1, hH.2.1.2.1, hH.2.1.2.2.trans hp⟩, hH.2.2.1.push h4 h5 hC, g1, g2, g3, ⟨lv, hl, hL.mono (List.prefix_refl _) hp⟩, ⟨q, ?_, rfl⟩, hH.2.2.2.2.2.2.2.mono (List.prefix_refl _) hp⟩
  rw [em, hH.2.2.1.1]
  simp
theorem ze_rep {α : Type} {n j : Nat} {a b : α} (h : (List.replicate n a)[j]? = some b) : b = a := by
  rw [List.getElem?_replicate] at h
  split at h
  · exact (Option.some.inj h).symm
  · cases h
theorem zs_newi {atype : ArrayType} (hx : p.tables.exec = Jvm.exec) (hb : c.code = cc) (hR : R.cells = mc ∧ R.slots = ms) (hKs : ze_K dC dI dA s) (hA : ∀ q, s.heap.size ≤ q → A q) (hts : ∀ w ∈ zb_T, w.before args s = true) (har : (ca, newarray.typeOf atype) ∈ ze_arr) (hwd : Cond.arrayClass (newarray.typeOf atype) ∈ zb_T) (h1k : 100 ≤ ca) (h2k : ca < 150) (hdf : ze_df cb = eC 0) (hdv : defaultValue (newarray.typeOf atype) = .int 0) (hby : componentBytes (newarray.typeOf atype) ≤ 8) (hra : ∀ cA : ClassId, va_RA s cA (newarray.typeOf atype) → cA = dA ca)
    (hdg : decode cc pc = .ok (.newarray atype, 2)) (hK : ze_KK p l e R s m args below meth c Q z0 dC dI dA sp xs A nL V kk) (hn : ze_at V nx (pc + 2)) (h : zo_newa nx ca cb cd tl jp kk k cal mc ms ls st w g nc ns = true) (hH : ze_H z0 dC dI dA sp xs A s nL ls st w g ρ ws H locs la vs) : W p l e R s m args below meth c H locs nc ns Q (F0 m pc la vs) := by
  unfold zo_newa at h
  split at h
  · obtain ⟨y1, r1, e1, V1, L1⟩ := hH.2.2.2.2.2.2.2.cons
    subst e1
    obtain ⟨h0, h⟩ := ze_condf h
    have h0 := ze_ble' h0
    have ez : y1 = .int (nI _) := V1
    subst ez
    obtain ⟨q1, q2, k9⟩ := zs_mk hK hn h (hH.stk L1)
    refine va_newa (D := (dC, dI)) (tys := []) hx hb (hts _ hwd) rfl hKs.k0 hH.2.2.2.1 hH.2.2.2.2.1 hH.2.2.2.2.2.1 hA (a0 := (_, .inl (fun _ => 0))) (fun cA => by rw [vp_cell_i, hdv]) (nI_pos (by omega)) (ze_cln (by omega)) ?_ (by rw [hR.1]; exact q1) (by rw [hR.2]; exact q2) hdg (fun q cA H1 hK1 g1 g2 g3 => ?_)
    · refine Nat.le_trans (Nat.mul_le_mul h0 hby) (by decide)
    · have hcA : cA = dA ca := hra cA (hK1.2 0 _ rfl).2
      subst hcA
      refine k9 q _ (Or.inr (Or.inl ⟨h1k, h2k, fun _ => 0, ?_, fun j v hv => ?_⟩)) H1 g1 g2 g3
      · show _ = Sum.inl (_, (List.replicate _ _).length, _)
        rw [List.length_replicate]
      · rw [ze_rep hv, hdf]
        rfl
  · cases h
theorem zs_newl (hx : p.tables.exec = Jvm.exec) (hb : c.code = cc) (hR : R.cells = mc ∧ R.slots = ms) (hKs : ze_K dC dI dA s) (hA : ∀ q, s.heap.size ≤ q → A q) (hts : ∀ w ∈ zb_T, w.before args s = true) (hca : ca = 150) (hcb : cb = 3) (har : (150, FieldType.long) ∈ ze_arr) (hwd : Cond.arrayClass .long ∈ zb_T)
    (hdg : decode cc pc = .ok (.newarray .long, 2)) (hK : ze_KK p l e R s m args below meth c Q z0 dC dI dA sp xs A nL V kk) (hn : ze_at V nx (pc + 2)) (h : zo_newa nx ca cb cd tl jp kk k cal mc ms ls st w g nc ns = true) (hH : ze_H z0 dC dI dA sp xs A s nL ls st w g ρ ws H locs la vs) : W p l e R s m args below meth c H locs nc ns Q (F0 m pc la vs) := by
  subst hca; subst hcb
  unfold zo_newa at h
  split at h
  · obtain ⟨y1, r1, e1, V1, L1⟩ := hH.2.2.2.2.2.2.2.cons
    subst e1
    obtain ⟨h0, h⟩ := ze_condf h
    have h0 := ze_ble' h0
    have ez : y1 = .int (nI _) := V1
    subst ez
    obtain ⟨q1, q2, k9⟩ := zs_mk hK hn h (hH.stk L1)
    refine va_newa (D := (dC, dI)) (tys := []) (atype := .long) (ty := .long) hx hb (hts _ hwd) rfl hKs.k0 hH.2.2.2.1 hH.2.2.2.2.1 hH.2.2.2.2.2.1 hA (a0 := (_, .inr (.inl (fun _ => 0)))) (fun cA => by rw [vp_cell_l]; rfl) (nI_pos (by omega)) (ze_cln (by omega)) ?_ (by rw [hR.1]; exact q1) (by rw [hR.2]; exact q2) hdg (fun q cA H1 hK1 g1 g2 g3 => ?_)
    · show _ * 8 ≤ _
      omega
    · have hcA : cA = dA 150 := Option.some.inj ((show s.vm.findClass _ = some cA from (hK1.2 0 _ rfl).2).symm.trans (hKs.2.1 150 .long har).2)
      subst hcA
      refine k9 q _ (Or.inr (Or.inr (Or.inl ⟨(by show 150 ≤ 150; decide), (by show 150 < 200; decide), fun _ => 0, ?_, fun j v hv => ?_⟩))) H1 g1 g2 g3
      · show _ = Sum.inl (_, (List.replicate _ _).length, _)
        rw [List.length_replicate]
      · rw [ze_rep hv]
        rfl
  · cases h
theorem zs_newq {C : String} (hx : p.tables.exec = Jvm.exec) (hb : c.code = cc) (hown : s.vm.findClass own = some m.cls) (hR : R.cells = mc ∧ R.slots = ms) (hKs : ze_K dC dI dA s) (hA : ∀ q, s.heap.size ≤ q → A q) (hts : ∀ w ∈ zb_T, w.before args s = true) (hca : 200 ≤ ca) (hcb : cb = 2) (har : (ca, FieldType.object C) ∈ ze_arr) (hwd : Cond.classLink own idx C ∈ zb_T) (hao : C ∈ ze_ao)
    (hdg : decode cc pc = .ok (.anewarray idx, 3)) (hK : ze_KK p l e R s m args below meth c Q z0 dC dI dA sp xs A nL V kk) (hn : ze_at V nx (pc + 3)) (h : zo_newa nx ca cb cd tl jp kk k cal mc ms ls st w g nc ns = true) (hH : ze_H z0 dC dI dA sp xs A s nL ls st w g ρ ws H locs la vs) : W p l e R s m args below meth c H locs nc ns Q (F0 m pc la vs) := by
  subst hcb
  unfold zo_newa at h
  split at h
  · obtain ⟨y1, r1, e1, V1, L1⟩ := hH.2.2.2.2.2.2.2.cons
    subst e1
    obtain ⟨h0, h⟩ := ze_condf h
    have h0 := ze_ble' h0
    have ez : y1 = .int (nI _) := V1
    subst ez
    obtain ⟨q1, q2, k9⟩ := zs_mk hK hn h (hH.stk L1)
    refine va_newq (D := (dC, dI)) (tys := []) hx hb hown (hts _ hwd) (hKs.2.2.2 _ hao) hKs.k0 hH.2.2.2.1 hH.2.2.2.2.1 hH.2.2.2.2.2.1 hA (nI_pos (by omega)) (ze_cln (by omega)) (by omega) (by rw [hR.1]; exact q1) (by rw [hR.2]; exact q2) hdg (fun q cA H1 hK1 g1 g2 g3 => ?_)
    have hcA : cA = dA ca := by
      obtain ⟨kA, comp, -, -, -, f1⟩ := (hK1.2 0 _ rfl).2
      obtain ⟨kB, comp2, -, -, -, f2⟩ := (hKs.2.1 ca _ har).2
      exact Option.some.inj (f1.symm.trans f2)
    subst hcA
    refine k9 q _ (Or.inr (Or.inr (Or.inr ⟨hca, fun _ => none, ?_, fun j v hv => ?_⟩))) H1 g1 g2 g3
    · show _ = Sum.inl (_, (List.replicate _ _).length, _)
      rw [List.length_replicate]
    · rw [ze_rep hv]
      rfl
  · cases h
theorem zs_new {C : String} {T : u_T} {N : Nat} (hx : p.tables.exec = Jvm.exec) (hb : c.code = cc) (hown : s.vm.findClass own = some m.cls) (hR : R.cells = mc ∧ R.slots = ms) (hKs : ze_K dC dI dA s) (hA : ∀ q, s.heap.size ≤ q → A q) (hts : ∀ w ∈ zb_T, w.before args s = true) (hcf : ze_CF) (hc : vwCl[ca]? = some (C, T, N)) (hN : tl.length = N) (hdf : ∀ j, j < N → ∃ t ty, tl[j]? = some t ∧ parseFieldDescriptor (T j).2.2.1 = some ty ∧ ze_ty t ty) (hw1 : Cond.classLink own idx C ∈ zb_T) (hw2 : Cond.instantiable C N ∈ zb_T) (hw3 : Cond.initialized C ∈ zb_T)
    (hdg : decode cc pc = .ok (.new idx, 3)) (hK : ze_KK p l e R s m args below meth c Q z0 dC dI dA sp xs A nL V kk) (hn : ze_at V nx (pc + 3)) (h : zo_new nx ca cb cd tl jp kk k cal mc ms ls st w g nc ns = true) (hH : ze_H z0 dC dI dA sp xs A s nL ls st w g ρ ws H locs la vs) : W p l e R s m args below meth c H locs nc ns Q (F0 m pc la vs) := by
  unfold zo_new at h
  rw [ze_f_eq, hN] at h
  have hf := hcf ca C T N hc
  obtain ⟨ty0, hty0⟩ := hf.2.2.1
  obtain ⟨q1, q2, k9⟩ := zs_mk hK hn h hH
  have key : ∀ t ty, ze_ty t ty → ∀ (ad : List Nat), ze_V sp ρ ad (ze_df t) (defaultValue ty) := by
    intro t ty ht ad
    rcases ht with ⟨rfl, rfl⟩ | ⟨rfl, rfl⟩ | ⟨rfl, n, rfl⟩ | ⟨rfl, n, rfl⟩ | ⟨rfl, rfl⟩ | ⟨rfl, rfl⟩ <;> rfl
  have hfs : ∀ ad : List Nat, ze_L sp ρ ad (tl.map ze_df) ((List.range N).map (fun j => defaultValue (ty0 j))) := by
    intro ad
    have gen : ∀ (l1 : List EV) (l2 : List Value), l1.length = l2.length → (∀ (j : Nat) (a : EV) (b : Value), l1[j]? = some a → l2[j]? = some b → ze_V sp ρ ad a b) → ze_L sp ρ ad l1 l2 := by
      intro l1
      induction l1 with
      | nil => intro l2 h1 _; cases l2 with
        | nil => trivial
        | cons b l2 => simp at h1
      | cons a l1 ih => intro l2 h1 h2; cases l2 with
        | nil => simp at h1
        | cons b l2 => exact ⟨h2 0 a b rfl rfl, ih l2 (by simpa using h1) (fun j a b ha hb => h2 (j + 1) a b (by simpa using ha) (by simpa using hb))⟩
    refine gen _ _ (by simp [hN]) (fun j a b ha hb => ?_)
    rw [List.getElem?_map] at ha hb
    cases hj : tl[j]? with
    | none => rw [hj] at ha; cases ha
    | some t =>
      rw [hj] at ha
      cases ha
      have hjN : j < N := by rw [← hN]; exact (List.getElem?_eq_some_iff.mp hj).1
      rw [List.getElem?_range hjN] at hb
      cases hb
      obtain ⟨t', ty, ht1, ht2, ht3⟩ := hdf j hjN
      rw [hj] at ht1
      cases ht1
      rw [hty0 j hjN] at ht2
      cases ht2
      exact key _ _ ht3 ad
  refine va_new (D := (dC, dI)) (fs := (List.range N).map (fun j => defaultValue (ty0 j))) hx hb hts hf.2.1 ty0 hty0 hown (hts _ hw1) (hts _ hw2) (hts _ hw3) hKs.k0 hH.2.2.2.1 hH.2.2.2.2.1 hH.2.2.2.2.2.1 hA hc (fun j hj => ?_) (by rw [hR.1]; exact q1) (by rw [hR.2]; exact q2) hdg (fun q H1 g1 g2 g3 => ?_)
  · unfold vp_V
    rw [List.getD_eq_getElem?_getD, List.getElem?_map, List.getElem?_range hj]
    rfl
  · exact k9 q _ (Or.inl ⟨hf.1, _, rfl, hfs _⟩) H1 g1 g2 g3
end ZS4
end
section
/-! THE ENGINE, part 6: calls and ends -/
theorem ze_nest_sh {w : Cond} (h : w ∈ ze_nest) : (∃ a i b n d q, w = .fieldLinkNest a i b n d q) ∨ ∃ a i x q, w = .methodLinkNest a i x q := by
  rcases List.mem_append.mp h with h | h
  · obtain ⟨q, -, rfl⟩ := List.mem_map.mp h
    exact Or.inl ⟨_, _, _, _, _, _, rfl⟩
  · obtain ⟨q, -, rfl⟩ := List.mem_map.mp h
    exact Or.inr ⟨_, _, _, _, rfl⟩
theorem ze_K.vm {dC : Nat → ClassId} {dI : Nat → Nat → Nat} {dA : Nat → ClassId} {u U : State} (hv : u.vm = U.vm) (h : ze_K dC dI dA u) : ze_K dC dI dA U := by
  have ha : u.vm.Alike U.vm := by rw [hv]; exact Vm.Alike.refl _
  refine ⟨fun c q hq => u_Kn_moved ha (h.1 c q hq), fun kd ty hk => ⟨arrOfT_moved ha (h.2.1 kd ty hk).1, (h.2.1 kd ty hk).2.moved ha⟩, fun w hw => ?_, fun C hC => (h.2.2.2 C hC).moved ha⟩
  rcases ze_nest_sh hw with ⟨a, i, b, n, d, q, rfl⟩ | ⟨a, i, x, q, rfl⟩
  · exact va_Nw.same rfl hv (h.2.2.1 _ hw)
  · exact va_Nw.same rfl hv (h.2.2.1 _ hw)
theorem ze_K.warm {dC : Nat → ClassId} {dI : Nat → Nat → Nat} {dA : Nat → ClassId} {s U : State} (hW : s.WarmedH U.vm) (h : ze_K dC dI dA s) : ze_K dC dI dA U := by
  have ha : s.vm.Alike U.vm := hW.alike
  refine ⟨fun c q hq => u_Kn_moved ha (h.1 c q hq), fun kd ty hk => ⟨arrOfT_moved ha (h.2.1 kd ty hk).1, (h.2.1 kd ty hk).2.moved ha⟩, fun w hw => ?_, fun C hC => (h.2.2.2 C hC).moved ha⟩
  rcases ze_nest_sh hw with ⟨a, i, b, n, d, q, rfl⟩ | ⟨a, i, x, q, rfl⟩
  · exact va_Nw.warmF hW (h.2.2.1 _ hw)
  · exact va_Nw.warmM hW (h.2.2.1 _ hw)
def ze_OV (sp : Nat → Nat) (ρ : List Int32) (ad : List Nat) (r : Option EV) (v : Option Value) : Prop := match r, v with
  | none, none => True
  | some e, some x => ze_V sp ρ ad e x
  | none, some _ => False
  | some _, none => False
/-- a callee's end -/
def ze_Qc (dC : Nat → ClassId) (dI : Nat → Nat → Nat) (dA : Nat → ClassId) (sp : Nat → Nat) (A : Nat → Prop) (k : ERt) (ρ : List Int32) (ad : List Nat) : Array Value → State → Outcome → State → Prop := fun _ st oc t =>
  (∃ (r : Option EV) (w' : EW) (g' : EG) (ρ' : List Int32) (ws' : va_W) (v : Option Value), k r w' g' = true ∧ ρ <+: ρ' ∧ ad <+: ws'.map (·.1) ∧ ze_G g' ρ' ∧ ze_W dA sp ρ' w' ws' ∧ va_P (dC, dI) vwCl ws' t.heap ∧ va_D A ws' ∧ ze_OV sp ρ' (ws'.map (·.1)) r v ∧ oc = .returned v) ∧ va_F A st t
/-- a callee's start -/
def ze_Pc (dC : Nat → ClassId) (dI : Nat → Nat → Nat) (dA : Nat → ClassId) (sp : Nat → Nat) (xs : Nat → Int32) (A : Nat → Prop) (ws : va_W) : State → Prop := fun U =>
  va_P (dC, dI) vwCl ws U.heap ∧ ze_K dC dI dA U ∧ va_D A ws ∧ (∀ q, U.heap.size ≤ q → A q) ∧ ze_X sp xs A U
theorem ze_blind {dC : Nat → ClassId} {dI : Nat → Nat → Nat} {dA : Nat → ClassId} {sp : Nat → Nat} {xs : Nat → Int32} {A : Nat → Prop} {ws : va_W} {avs : List Value} : FrameBlind (va_Pc avs (ze_Pc dC dI dA sp xs A ws)) := by
  intro a U g mk q
  obtain ⟨q0, q1, q2, q3, q4, q5, q6, q7⟩ := q
  exact ⟨q0, q1, q2.vm (u := U) (U := U.calling g mk a) rfl, q3, q4, va_X.moved (u := U) (U := U.calling g mk a) (Vm.Alike.refl U.vm) q5, q6, q7⟩
theorem ze_tk_spec : ∀ (n : Nat) (st acc : List EV) (f : List EV → List EV → Bool), ze_tk n st acc f = true → ∃ pop rest, st = pop ++ rest ∧ pop.length = n ∧ f (pop.reverse ++ acc) rest = true := by
  intro n
  induction n with
  | zero => intro st acc f h; exact ⟨[], st, rfl, rfl, h⟩
  | succ n ih =>
    intro st acc f h
    cases st with
    | nil => exact absurd h (by intro q; cases q)
    | cons v r =>
      have h : ze_tk n r (v :: acc) f = true := h
      obtain ⟨pop, rest, h1, h2, h3⟩ := ih r (v :: acc) f h
      exact ⟨v :: pop, rest, by rw [h1]; rfl, by simp [h2], by simpa using h3⟩
theorem ze_L.split {sp : Nat → Nat} {ρ : List Int32} {ad : List Nat} : ∀ {l1 l2 : List EV} {vs : List Value}, ze_L sp ρ ad (l1 ++ l2) vs → ∃ v1 v2, vs = v1 ++ v2 ∧ ze_L sp ρ ad l1 v1 ∧ ze_L sp ρ ad l2 v2 := by
  intro l1
  induction l1 with
  | nil => intro l2 vs h; exact ⟨[], vs, rfl, trivial, h⟩
  | cons a l1 ih =>
    intro l2 vs h
    obtain ⟨y, ys, rfl, h1, h2⟩ := ze_L.cons h
    obtain ⟨v1, v2, rfl, h3, h4⟩ := ih h2
    exact ⟨y :: v1, v2, rfl, ⟨h1, h3⟩, h4⟩
theorem ze_L.app {sp : Nat → Nat} {ρ : List Int32} {ad : List Nat} : ∀ {l1 l2 : List EV} {v1 v2 : List Value}, ze_L sp ρ ad l1 v1 → ze_L sp ρ ad l2 v2 → ze_L sp ρ ad (l1 ++ l2) (v1 ++ v2) := by
  intro l1
  induction l1 with
  | nil => intro l2 v1 v2 h1 h2; rw [h1.nil]; exact h2
  | cons a l1 ih =>
    intro l2 v1 v2 h1 h2
    obtain ⟨y, ys, rfl, h3, h4⟩ := h1.cons
    exact ⟨h3, ih h4 h2⟩
theorem ze_L.rev {sp : Nat → Nat} {ρ : List Int32} {ad : List Nat} : ∀ {l : List EV} {vs : List Value}, ze_L sp ρ ad l vs → ze_L sp ρ ad l.reverse vs.reverse := by
  intro l
  induction l with
  | nil => intro vs h; rw [h.nil]; trivial
  | cons a l ih =>
    intro vs h
    obtain ⟨y, ys, rfl, h1, h2⟩ := h.cons
    rw [List.reverse_cons, List.reverse_cons]
    exact (ih h2).app ⟨h1, trivial⟩
theorem ze_cs_sum {sp : Nat → Nat} {ρ : List Int32} {ad : List Nat} : ∀ {l : List EV} {vs : List Value}, ze_L sp ρ ad l vs → (vs.map fun v => v.category).sum = ze_cs l := by
  intro l
  induction l with
  | nil => intro vs h; rw [h.nil]; rfl
  | cons a l ih =>
    intro vs h
    obtain ⟨y, ys, rfl, h1, h2⟩ := h.cons
    show y.category + (ys.map fun v => v.category).sum = ze_ct a + ze_cs l
    rw [ih h2, ze_cat h1]
section ZC
variable {p : Program} {l : Launch} {e : Env} {R : Room} {s : State} {m : MethodId} {args : Array Value} {below : List Frame} {meth : Method} {c : Code} {Q : State → Prop}
variable {z0 : List Int32 × List Nat} {dC : Nat → ClassId} {dI : Nat → Nat → Nat} {dA : Nat → ClassId} {sp : Nat → Nat} {xs : Nat → Int32} {A : Nat → Prop} {nL : Nat} {V : List ECE → Prop}
variable {kk : EKn} {k : ERt} {cal : ECal} {mc ms pc pc2 ca cb cd nc ns : Nat} {nx : List ECE} {jp : EJp} {tl : List Nat} {ls st : List EV} {w : EW} {g : EG} {ρ : List Int32} {ws : va_W} {H : Heap} {locs : List Loc} {la : Array Slot} {vs : List Value}
variable {cc : ByteArray} {own : String} {idx : Nat}
/-- the callee's start holds at the call -/
theorem ze_pre9 (hKs : ze_K dC dI dA s) (hsc : ze_X sp xs A s) (hA : ∀ q, s.heap.size ≤ q → A q) (hH : ze_H z0 dC dI dA sp xs A s nL ls st w g ρ ws H locs la vs) {avs : List Value} : ∀ U : State, U.heap = H → s.WarmedH U.vm → va_Pc avs (ze_Pc dC dI dA sp xs A ws) avs.toArray U := by
  intro U hU hW
  have hS := hH.2.2.2.2.2.1
  refine ⟨rfl, by rw [hU]; exact hH.2.2.2.1, hKs.warm hW, hH.2.2.2.2.1, fun q hq => hA q (Nat.le_trans hS.1 (by rw [← hU]; exact hq)), ?_, by rw [hU]; exact Nat.lt_of_lt_of_le hsc.2.1 hS.1, hsc.2.2⟩
  rw [hU]
  exact (hsc.1.kept (hS.2.1 _ hsc.2.1 hsc.2.2)).moved hW.alike
/-- behind a call -/
theorem zs_after {r9 : ERt} {cy sy : Nat} {rest : List EV} {vr : List Value} {av : Array Value} (hK : ze_KK p l e R s m args below meth c Q z0 dC dI dA sp xs A nL V kk) (hn : ze_at V nx (pc + 3)) (hH : ze_H z0 dC dI dA sp xs A s nL ls st w g ρ ws H locs la vs) (hrest : ze_L sp ρ (ws.map (·.1)) rest vr)
    (hk9 : ∀ r w' g', r9 r w' g' = true → kk nx ls (ze_pu r rest) w' g' (nc + cy) (ns + sy) = true)
    (hrun : va_Run p l e R s m args below meth c H locs nc ns cy sy (F0 m pc la vs) vr (ze_Qc dC dI dA sp A r9 ρ (ws.map (·.1)) av) A) : W p l e R s m args below meth c H locs nc ns Q (F0 m pc la vs) := by
  intro T hT X
  obtain ⟨v, st₀, t, T', L, h0, X', hL, e1, e2, ⟨⟨r, w', g', ρ', ws', v', hk, hρ, had, hG', hW', hP', hD', hOV, hoc⟩, hz, hkp⟩, hgo⟩ := hrun T hT X
  have hvv : v = v' := Outcome.returned.inj hoc
  subst hvv
  rw [h0] at hz hkp
  obtain ⟨hG, hX5, hW, hP, hD, hS, ⟨lv, hl, hLL⟩, hV⟩ := hH
  have hS' : va_S A s.heap T'.heap (locs ++ L) := ⟨Nat.le_trans hS.1 (by rw [e1]; exact hz), fun q h1 h2 => by rw [e1, hkp q (Nat.lt_of_lt_of_le h1 hS.1) h2]; exact hS.2.1 q h1 h2, fun q hq => by
      rcases List.mem_append.mp hq with h | h
      · exact hS.2.2 q h
      · exact hL q h⟩
  have hr2 := hrest.mono hρ had
  have hst : ze_L sp ρ' (ws'.map (·.1)) (ze_pu r rest) (v.toList ++ vr) := by
    match r, v, hOV with
    | none, none, _ => exact hr2
    | some e9, some x9, h9 => exact ⟨h9, hr2⟩
    | none, some _, h9 => exact absurd h9 (fun q => q)
    | some _, none, h9 => exact absurd h9 (fun q => q)
  obtain ⟨t2, a1, b1⟩ := hK _ _ _ _ _ _ _ (hk9 r w' g' hk) _ hn ρ' ws' T'.heap (locs ++ L) la (v.toList ++ vr) ⟨hG', ⟨fun j hj => ze_pre hρ (hX5.1 j hj), hX5.2.1.trans hρ, hX5.2.2.trans had⟩, hW', by rw [e1]; exact hP', hD', hS', ⟨lv, hl, hLL.mono hρ had⟩, hst⟩ T' rfl X'
  exact ⟨t2, hgo t2 a1, b1⟩
/-- a call: the receiver, the arguments, the contract -/
theorem zs_call {y nb cr cy sy : Nat} {yn : MethodName} {wsy : List Cond} {rmy : Room} (hKs : ze_K dC dI dA s) (hsc : ze_X sp xs A s) (hA : ∀ q, s.heap.size ≤ q → A q)
    (hcal : ∀ (av : List EV) (w : EW) (g : EG) (k' : ERt), cal y av w g k' = true → ∀ (ρ : List Int32) (ws : va_W) (avs : List Value), ze_G g ρ → (∀ j, j < 5 → ρ[j]? = some (xs j)) → ze_W dA sp ρ w ws → ze_L sp ρ (ws.map (·.1)) av avs → Met l yn wsy rmy (va_Pc avs (ze_Pc dC dI dA sp xs A ws)) (ze_Qc dC dI dA sp A k' ρ (ws.map (·.1))) cy sy A)
    (hK : ze_KK p l e R s m args below meth c Q z0 dC dI dA sp xs A nL V kk) (hn : ze_at V nx (pc + 3)) (h : zo_call y nb cr cy sy nx ca cb cd tl jp kk k cal mc ms ls st w g nc ns = true) (hH : ze_H z0 dC dI dA sp xs A s nL ls st w g ρ ws H locs la vs)
    (run : ∀ (avs vr : List Value) (k' : ERt), vs = avs.reverse ++ vr → avs.length = nb → (vr.map fun v => v.category).sum ≤ 8 → nc + cy ≤ mc → ns + sy ≤ ms → (∀ ci, cr = ci + 1 → ∃ (b : Nat) (As : List Value) (q : Nat) (fs : List Value), avs = Value.ref b :: As ∧ ws[q]? = some (b, (Sum.inr (ci, fs) : va_E))) →
      Met l yn wsy rmy (va_Pc avs (ze_Pc dC dI dA sp xs A ws)) (ze_Qc dC dI dA sp A k' ρ (ws.map (·.1))) cy sy A → (∀ U : State, U.heap = H → s.WarmedH U.vm → va_Pc avs (ze_Pc dC dI dA sp xs A ws) avs.toArray U) →
      va_Run p l e R s m args below meth c H locs nc ns cy sy (F0 m pc la vs) vr (ze_Qc dC dI dA sp A k' ρ (ws.map (·.1)) avs.toArray) A)
    (hcr : ∀ ci, cr = ci + 1 → ci < 100) : W p l e R s m args below meth c H locs nc ns Q (F0 m pc la vs) := by
  unfold zo_call at h
  obtain ⟨pop, rest, rfl, e2, hh⟩ := ze_tk_spec _ _ _ _ h
  rw [List.append_nil] at hh
  obtain ⟨h1, hh⟩ := ze_condf hh
  obtain ⟨h2, hh⟩ := ze_condf hh
  obtain ⟨h3, hh⟩ := ze_condf hh
  obtain ⟨h4, hh⟩ := ze_condf hh
  obtain ⟨v1, v2, e3, L1, L2⟩ := hH.2.2.2.2.2.2.2.split
  have hM := hcal _ _ _ _ hh ρ ws v1.reverse hH.1 hH.2.1.1 hH.2.2.1 L1.rev
  have hrn := run v1.reverse v2 _ (by rw [List.reverse_reverse]; exact e3) (by rw [List.length_reverse, ← L1.len]; exact e2) (by rw [ze_cs_sum L2]; exact ze_ble' h2) (ze_ble' h3) (ze_ble' h4) (fun ci hci => by
    subst hci
    rw [ze_rc_eq] at h1
    split at h1
    · rename_i q9 t9 e9
      have L9 := L1.rev
      rw [e9] at L9
      obtain ⟨y9, ys, e10, V9, -⟩ := L9.cons
      obtain ⟨cl, g1, g2⟩ := ze_g_spec h1
      obtain ⟨a, en, ex, hw, hC⟩ := hH.2.2.1.ref g1 V9
      have e11 := ze_beq g2
      obtain ⟨fs, ef, -⟩ := hC.obj (by rw [e11]; exact hcr ci rfl)
      rw [e11] at ef
      subst ef
      exact ⟨a, ys, _, fs, by rw [e10, ex], hw⟩
    · cases h1) hM (ze_pre9 hKs hsc hA hH)
  exact zs_after hK hn hH L2 (fun r w' g' q => q) hrn
/-- ends -/
theorem ze_end_ok {nc ns mc ms : Nat} {x : Bool} (h : ze_end nc ns mc ms x = true) : nc ≤ mc ∧ ns ≤ ms ∧ x = true := by
  unfold ze_end at h
  obtain ⟨h1, h⟩ := ze_condf h
  obtain ⟨h2, h⟩ := ze_condf h
  exact ⟨ze_ble' h1, ze_ble' h2, h⟩
theorem ze_Qc_of {s t : State} {r : Option EV} {v : Option Value} {ρ0 : List Int32} {ad0 : List Nat} {a0 : Array Value} (hH : ze_H z0 dC dI dA sp xs A s nL ls st w g ρ ws H locs la vs) (h1 : ρ0 <+: ρ) (h2 : ad0 <+: ws.map (·.1)) (hk : k r w g = true) (hv : ze_OV sp ρ (ws.map (·.1)) r v) (ht : t.heap = H) : ze_Qc dC dI dA sp A k ρ0 ad0 a0 s (.returned v) t :=
  ⟨⟨r, w, g, ρ, ws, v, hk, h1, h2, hH.1, hH.2.2.1, by rw [ht]; exact hH.2.2.2.1, hH.2.2.2.2.1, hv, rfl⟩, hH.2.2.2.2.2.1.F ht⟩
end ZC
end
section
/-! THE ENGINE, part 7: intervals of results, compares of longs, copies, switches -/
theorem zi_iv {sp : Nat → Nat} {g : EG} {ρ : List Int32} {ad : List Nat} {v : EV} {x : Int32} (hG : ze_G g ρ) (hv : ze_V sp ρ ad v (.int x)) : (zo_iv g v).1 ≤ ze_b x ∧ ze_b x ≤ (zo_iv g v).2 := by
  match v, hv with
  | .inl (.inl n), hv =>
    have e : x = nI n := Value.int.inj hv
    have e2 : zo_iv g (.inl (.inl n)) = (ze_z n, ze_z n) := rfl
    rw [e, e2, ze_z_eq]
    exact ⟨Nat.le_refl _, Nat.le_refl _⟩
  | .inl (.inr i), ⟨z, hz, e⟩ =>
    have e : x = z := Value.int.inj e
    subst e
    show (g.getD i (0, 4294967295)).1 ≤ _ ∧ _ ≤ (g.getD i (0, 4294967295)).2
    rw [List.getD_eq_getElem?_getD]
    cases h : g[i]? with
    | none => exact ⟨Nat.zero_le _, ze_b_top x⟩
    | some p => exact hG.2 i p x h hz
  | .inr u, hv => exact ⟨Nat.zero_le _, ze_b_top x⟩
theorem zi_c {sp : Nat → Nat} {ρ : List Int32} {ad : List Nat} {m : Nat} {y : Int32} (hv : ze_V sp ρ ad (.inl (.inl m)) (.int y)) : y = nI m := Value.int.inj hv
theorem zi_and {sp : Nat → Nat} {g : EG} {ρ : List Int32} {ad : List Nat} (v1 v2 : EV) (x y : Int32) (h1 : ze_V sp ρ ad v1 (.int x)) (h2 : ze_V sp ρ ad v2 (.int y)) : (zo_bnd g v1 v2).1 ≤ ze_b (x &&& y) ∧ ze_b (x &&& y) ≤ (zo_bnd g v1 v2).2 := by
  unfold zo_bnd
  split
  · rename_i m
    have e := zi_c h2
    cases hc : Nat.ble m 2147483647 with
    | false => exact ⟨Nat.zero_le _, ze_b_top _⟩
    | true =>
      have hm := ze_ble' hc
      have ht : (x &&& y).toBitVec.toNat ≤ m := by
        have e2 : (x &&& y).toBitVec = x.toBitVec &&& y.toBitVec := rfl
        rw [e2, BitVec.toNat_and, e, ze_tn]
        exact Nat.le_trans Nat.and_le_right (Nat.mod_le _ _)
      show 2147483648 ≤ ze_b (x &&& y) ∧ ze_b (x &&& y) ≤ 2147483648 + m
      unfold ze_b
      omega
  · exact ⟨Nat.zero_le _, ze_b_top _⟩
theorem zi_nn {x : Int32} (h : 2147483648 ≤ ze_b x) : x = nI (ze_b x - 2147483648) ∧ ze_b x - 2147483648 < 2147483648 := by
  have h2 := ze_b_top x
  refine ⟨?_, by omega⟩
  have h3 := ze_unb (x := x) (b := ze_b x) rfl
  have h4 : (ze_b x + 2147483648) % 4294967296 = ze_b x - 2147483648 := by omega
  rw [h4] at h3
  exact h3.symm
theorem zi_rem {sp : Nat → Nat} {g : EG} {ρ : List Int32} {ad : List Nat} (hG : ze_G g ρ) (v1 v2 : EV) (x y : Int32) (h1 : ze_V sp ρ ad v1 (.int x)) (h2 : ze_V sp ρ ad v2 (.int y)) : (zo_brem g v1 v2).1 ≤ ze_b (x - x / y * y) ∧ ze_b (x - x / y * y) ≤ (zo_brem g v1 v2).2 := by
  unfold zo_brem
  split
  · rename_i m
    have e := zi_c h2
    cases hc : (cond (Nat.ble 1 m) (Nat.ble m 1073741824) false) with
    | false => exact ⟨Nat.zero_le _, ze_b_top _⟩
    | true =>
      obtain ⟨c1, c2⟩ := ze_condf hc
      have c1 := ze_ble' c1
      have c2 := ze_ble' c2
      cases hd : Nat.ble 2147483648 (zo_iv g v1).1 with
      | false => exact ⟨Nat.zero_le _, ze_b_top _⟩
      | true =>
        have c3 := ze_ble' hd
        have c4 := zi_iv hG h1
        obtain ⟨e1, e2⟩ := zi_nn (x := x) (by omega)
        rw [e, e1, pk_rem (by omega) (by omega) (by omega), ze_b_nI]
        have hl := Nat.mod_lt (ze_b x - 2147483648) (show 0 < m by omega)
        show 2147483648 ≤ _ ∧ _ ≤ Nat.pred (2147483648 + m)
        rw [Nat.pred_eq_sub_one]
        omega
  · exact ⟨Nat.zero_le _, ze_b_top _⟩
theorem zi_ush {sp : Nat → Nat} {g : EG} {ρ : List Int32} {ad : List Nat} (v1 v2 : EV) (x y : Int32) (h1 : ze_V sp ρ ad v1 (.int x)) (h2 : ze_V sp ρ ad v2 (.int y)) : (zo_bush g v1 v2).1 ≤ ze_b ((x.toUInt32 >>> (y.toUInt32 &&& Int32.toUInt32 31)).toInt32) ∧ ze_b ((x.toUInt32 >>> (y.toUInt32 &&& Int32.toUInt32 31)).toInt32) ≤ (zo_bush g v1 v2).2 := by
  unfold zo_bush
  split
  · rename_i m
    have e := zi_c h2
    cases hc : Nat.beq m 16 with
    | false => exact ⟨Nat.zero_le _, ze_b_top _⟩
    | true =>
      have hm := ze_beq hc
      rw [e, hm]
      have h := pk_ushr x (nI 16) 16 (by decide +kernel)
      have hl := x.toBitVec.isLt
      show 2147483648 ≤ ze_b _ ∧ ze_b _ ≤ 2147549183
      unfold ze_b
      rw [h]
      omega
  · exact ⟨Nat.zero_le _, ze_b_top _⟩
theorem zi_sub {sp : Nat → Nat} {g : EG} {ρ : List Int32} {ad : List Nat} (hG : ze_G g ρ) (v1 v2 : EV) (x y : Int32) (h1 : ze_V sp ρ ad v1 (.int x)) (h2 : ze_V sp ρ ad v2 (.int y)) : (zo_bsub g v1 v2).1 ≤ ze_b (x - y) ∧ ze_b (x - y) ≤ (zo_bsub g v1 v2).2 := by
  unfold zo_bsub
  split
  · rename_i m
    have e := zi_c h2
    cases hc : (cond (Nat.ble m 1073741824) (Nat.ble m (zo_iv g v1).1) false) with
    | false => exact ⟨Nat.zero_le _, ze_b_top _⟩
    | true =>
      obtain ⟨c1, c2⟩ := ze_condf hc
      have c1 := ze_ble' c1
      have c2 := ze_ble' c2
      have c4 := zi_iv hG h1
      have ht : (x - y).toBitVec.toNat = (x.toBitVec.toNat + (4294967296 - m)) % 4294967296 := by
        have e2 : (x - y).toBitVec = x.toBitVec - y.toBitVec := rfl
        rw [e2, BitVec.toNat_sub, e, ze_tn]
        have : m % 4294967296 = m := by omega
        rw [this]
        omega
      have hx : ze_b x = (x.toBitVec.toNat + 2147483648) % 4294967296 := rfl
      have hl := x.toBitVec.isLt
      have key : ze_b (x - y) = ze_b x - m := by
        show ((x - y).toBitVec.toNat + 2147483648) % 4294967296 = _
        rw [ht]
        omega
      rw [key]
      show (zo_iv g v1).1 - m ≤ _ ∧ _ ≤ (zo_iv g v1).2 - m
      omega
  · exact ⟨Nat.zero_le _, ze_b_top _⟩
theorem zi_shr {sp : Nat → Nat} {g : EG} {ρ : List Int32} {ad : List Nat} (v1 v2 : EV) (x y : Int32) (h1 : ze_V sp ρ ad v1 (.int x)) (h2 : ze_V sp ρ ad v2 (.int y)) : (zo_bshr g v1 v2).1 ≤ ze_b (x >>> (y &&& 31)) ∧ ze_b (x >>> (y &&& 31)) ≤ (zo_bshr g v1 v2).2 := by
  unfold zo_bshr
  split
  · have e := zi_c h1
    have h := pk_shr x (y &&& 31) _ rfl
    have h0 : x.toInt = 0 := by rw [e, nI_0]; rfl
    rw [h0, Int.zero_shiftRight] at h
    have hb := ze_b_int (x >>> (y &&& 31))
    rw [h] at hb
    show 2147483648 ≤ _ ∧ _ ≤ 2147483648
    omega
  · exact ⟨Nat.zero_le _, ze_b_top _⟩
/-- a long that is an int -/
theorem zi_long (n : Nat) (h : (n + 2147483648) % 18446744073709551616 ≤ 4294967295) : lN n = (nI (n % 4294967296)).toInt64 := by
  apply Int64.toInt_inj.mp
  rw [Int32.toInt_toInt64]
  have e1 : (lN n).toInt = (BitVec.ofNat 64 n).toInt := rfl
  have e2 : (nI (n % 4294967296)).toInt = (BitVec.ofNat 32 (n % 4294967296)).toInt := rfl
  rw [e1, e2, BitVec.toInt_eq_toNat_cond, BitVec.toInt_eq_toNat_cond, BitVec.toNat_ofNat, BitVec.toNat_ofNat]
  split <;> split <;> omega
theorem zi_li {sp : Nat → Nat} {ρ : List Int32} {ad : List Nat} {ck : Nat → Bool} {cv : Nat → Nat} {v : Nat ⊕ Nat} {f : EV → Bool} {d : Bool} {X : Value} (hck : ∀ n, ck n = true → lN n = (nI (cv n)).toInt64) (h : ze_li ck cv v f d = true) (hv : ze_V sp ρ ad (.inr (.inl (.inr v))) X) : (∃ (x : Int32) (v2 : EV), X = .long x.toInt64 ∧ ze_V sp ρ ad v2 (.int x) ∧ f v2 = true) ∨ d = true := by
  cases v with
  | inl n =>
    have h : cond (ck n) (f (.inl (.inl (cv n)))) d = true := h
    have hv : X = .long (lN n) := hv
    rcases ze_cond h with ⟨c1, c2⟩ | ⟨_, c2⟩
    · refine Or.inl ⟨nI (cv n), _, ?_, ?_, c2⟩
      · rw [hv, hck n c1]
      · rfl
    · exact Or.inr c2
  | inr i =>
    obtain ⟨z, hz, e⟩ := hv
    exact Or.inl ⟨z, eU i, e, ⟨z, hz, rfl⟩, h⟩
theorem zi_lr : ∀ n, ze_lr n = true → lN n = (nI (ze_l32 n)).toInt64 := fun n h => by rw [ze_l32_eq]; exact zi_long n (ze_lr_eq h)
section ZM
variable {p : Program} {l : Launch} {e : Env} {R : Room} {s : State} {m : MethodId} {args : Array Value} {below : List Frame} {meth : Method} {c : Code} {Q : State → Prop}
variable {z0 : List Int32 × List Nat} {dC : Nat → ClassId} {dI : Nat → Nat → Nat} {dA : Nat → ClassId} {sp : Nat → Nat} {xs : Nat → Int32} {A : Nat → Prop} {nL : Nat} {V : List ECE → Prop}
variable {kk : EKn} {k : ERt} {cal : ECal} {mc ms pc pc2 ca cb cd nc ns : Nat} {nx : List ECE} {jp : EJp} {tl : List Nat} {ls st : List EV} {w : EW} {g : EG} {ρ : List Int32} {ws : va_W} {H : Heap} {locs : List Loc} {la : Array Slot} {vs : List Value}
variable {cc : ByteArray} {own : String} {idx : Nat}
theorem zi_lcc {x y : Nat ⊕ Nat} {rest : List EV} {vr : List Value} {X Y : Int64} (hK : ze_KK p l e R s m args below meth c Q z0 dC dI dA sp xs A nL V kk) (hn : ze_at V nx pc2) (hH : ze_H z0 dC dI dA sp xs A s nL ls rest w g ρ ws H locs la vr) (h : zo_lcc x y nx kk ls rest w g nc ns = true) (hx : ze_V sp ρ (ws.map (·.1)) (.inr (.inl (.inr x))) (.long X)) (hy : ze_V sp ρ (ws.map (·.1)) (.inr (.inl (.inr y))) (.long Y)) : W p l e R s m args below meth c H locs nc ns Q (F0 m pc2 la (.int (lg_cmp X Y) :: vr)) := by
  unfold zo_lcc at h
  split at h
  · rename_i n1 n2
    have ex : X = lN n1 := Value.long.inj hx
    have ey : Y = lN n2 := Value.long.inj hy
    rcases ze_cond h with ⟨c1, c2⟩ | ⟨c1, c2⟩
    · have c1 := of_decide_eq_true c1
      have e9 : lg_cmp X Y = nI 4294967295 := by
        unfold lg_cmp
        rw [ex, ey, if_neg (by intro q; exact absurd c1 (Int64.not_lt.mpr (Int64.le_of_lt q))), if_neg (by intro q; rw [q] at c1; exact Int64.lt_irrefl c1)]
        decide +kernel
      rw [e9]
      exact hK _ _ _ _ _ _ _ c2 _ hn _ _ _ _ _ _ (hH.stk ⟨rfl, hH.2.2.2.2.2.2.2⟩)
    · have c1 := of_decide_eq_false c1
      rcases ze_cond c2 with ⟨c3, c4⟩ | ⟨c3, c4⟩
      · have c3 := of_decide_eq_true c3
        have e9 : lg_cmp X Y = nI 1 := by
          unfold lg_cmp
          rw [ex, ey, if_pos c3]
          decide +kernel
        rw [e9]
        exact hK _ _ _ _ _ _ _ c4 _ hn _ _ _ _ _ _ (hH.stk ⟨rfl, hH.2.2.2.2.2.2.2⟩)
      · have c3 := of_decide_eq_false c3
        have e9 : lg_cmp X Y = nI 0 := by
          unfold lg_cmp
          rw [ex, ey, if_neg c3, if_pos (Int64.le_antisymm (Int64.not_lt.mp c3) (Int64.not_lt.mp c1))]
          decide +kernel
        rw [e9]
        exact hK _ _ _ _ _ _ _ c4 _ hn _ _ _ _ _ _ (hH.stk ⟨rfl, hH.2.2.2.2.2.2.2⟩)
  · cases h
theorem zi_l64 {x y : Int32} : x.toInt64 < y.toInt64 ↔ x < y := by
  rw [Int64.lt_iff_toInt_lt, Int32.toInt_toInt64, Int32.toInt_toInt64, Int32.lt_iff_toInt_lt]
theorem zs_lcmp (hx : p.tables.exec = Jvm.exec) (hb : c.code = cc) (hdg : decode cc pc = .ok (.lcmp, 1)) (hK : ze_KK p l e R s m args below meth c Q z0 dC dI dA sp xs A nL V kk) (hn : ze_at V nx (pc + 1)) (h : zo_lcmp nx ca cb cd tl jp kk k cal mc ms ls st w g nc ns = true) (hH : ze_H z0 dC dI dA sp xs A s nL ls st w g ρ ws H locs la vs) : W p l e R s m args below meth c H locs nc ns Q (F0 m pc la vs) := by
  unfold zo_lcmp at h
  split at h
  · rename_i y x rest
    obtain ⟨y2, r1, e1, V2, L1⟩ := hH.2.2.2.2.2.2.2.cons
    obtain ⟨y1, r2, e2, V1, L2⟩ := L1.cons
    subst e1; subst e2
    obtain ⟨X, eX⟩ := ze_longV V1
    obtain ⟨Y, eY⟩ := ze_longV V2
    subst eX; subst eY
    refine W.lcmp hx hb hdg ?_
    have hH2 := hH.stk L2
    have slow : zo_lcc x y nx kk ls rest w g nc ns = true → W p l e R s m args below meth c H locs nc ns Q (F0 m (pc + 1) la (.int (lg_cmp X Y) :: r2)) := fun q => zi_lcc hK hn hH2 q V1 V2
    rcases zi_li zi_lr h V1 with ⟨x9, vx, ex, hvx, hf⟩ | hd
    · rcases zi_li zi_lr hf V2 with ⟨y9, vy, ey, hvy, hf2⟩ | hd
      · have ex : X = x9.toInt64 := Value.long.inj ex
        have ey : Y = y9.toInt64 := Value.long.inj ey
        obtain ⟨x8, y8, q1, q2, q3, q4⟩ := ze_lt_spec hf2 hH.1 hvx hvy
        cases q1; cases q2
        by_cases hlt : x9 < y9
        · obtain ⟨g', hG, q⟩ := q3 hlt
          have e9 : lg_cmp X Y = nI 4294967295 := by
            unfold lg_cmp
            rw [ex, ey, if_neg (fun q => Int32.lt_irrefl (Int32.lt_trans hlt (zi_l64.mp q))), if_neg (fun q => by
              have h9 := zi_l64.mpr hlt
              rw [q] at h9
              exact Int64.lt_irrefl h9)]
            decide +kernel
          rw [e9]
          exact hK _ _ _ _ _ _ _ q _ hn _ _ _ _ _ _ ((hH2.gs hG).stk ⟨rfl, L2⟩)
        · obtain ⟨g', hG, q⟩ := q4 hlt
          obtain ⟨y7, x7, q5, q6, q7, q8⟩ := ze_lt_spec q hG hvy hvx
          cases q5; cases q6
          by_cases hlt2 : y9 < x9
          · obtain ⟨g2, hG2, q⟩ := q7 hlt2
            have e9 : lg_cmp X Y = nI 1 := by
              unfold lg_cmp
              rw [ex, ey, if_pos (zi_l64.mpr hlt2)]
              decide +kernel
            rw [e9]
            exact hK _ _ _ _ _ _ _ q _ hn _ _ _ _ _ _ ((hH2.gs hG2).stk ⟨rfl, L2⟩)
          · obtain ⟨g2, hG2, q⟩ := q8 hlt2
            have e9 : lg_cmp X Y = nI 0 := by
              unfold lg_cmp
              rw [ex, ey, if_neg (fun q => hlt2 (zi_l64.mp q)), if_pos (by rw [Int32.le_antisymm (Int32.not_lt.mp hlt2) (Int32.not_lt.mp hlt)])]
              decide +kernel
            rw [e9]
            exact hK _ _ _ _ _ _ _ q _ hn _ _ _ _ _ _ ((hH2.gs hG2).stk ⟨rfl, L2⟩)
      · exact slow hd
    · exact slow hd
  · cases h
theorem ze_cp_spec {s0 : List EV} : ∀ (n : Nat) (d : List EV) (i j : Nat) (f : List EV → Bool), ze_cp s0 d i j n f = true → ∃ l, f l = true ∧ l.length = d.length ∧ (0 < n → i + n ≤ s0.length ∧ j + n ≤ d.length) ∧ ∀ q : Nat, l[q]? = if j ≤ q ∧ q < j + n then s0[i + (q - j)]? else d[q]? := by
  intro n
  induction n with
  | zero => intro d i j f h; exact ⟨d, h, rfl, fun q => absurd q (Nat.lt_irrefl 0), fun q => by rw [if_neg (by omega)]⟩
  | succ n ih =>
    intro d i j f h
    have h : ze_n s0 i (fun v => ze_n d j (fun _ => ze_cp s0 (ze_s v d j) (Nat.succ i) (Nat.succ j) n f)) = true := h
    obtain ⟨v, h1, h2⟩ := ze_n_spec _ _ _ h
    obtain ⟨u, h3, h4⟩ := ze_n_spec _ _ _ h2
    rw [ze_s_eq] at h4
    obtain ⟨l, q1, q2, q3, q4⟩ := ih _ _ _ _ h4
    have hi := (List.getElem?_eq_some_iff.mp h1).1
    have hj := (List.getElem?_eq_some_iff.mp h3).1
    rw [List.length_set] at q2 q3
    refine ⟨l, q1, q2, fun _ => ?_, fun q => ?_⟩
    · by_cases hz : 0 < n
      · have := q3 hz
        omega
      · omega
    · rw [q4 q]
      by_cases hq : q = j
      · subst hq
        rw [if_neg (by omega), List.getElem?_set_self hj, if_pos (by omega), Nat.sub_self, Nat.add_zero, h1]
      · rw [List.getElem?_set_ne (Ne.symm hq)]
        by_cases hr : Nat.succ j ≤ q ∧ q < Nat.succ j + n
        · rw [if_pos hr, if_pos (by omega), show Nat.succ i + (q - Nat.succ j) = i + (q - j) by omega]
        · rw [if_neg hr, if_neg (by omega)]
theorem zs_copy (hx : p.tables.exec = Jvm.exec) (hb : c.code = cc) (hml : c.maxLocals = nL) (hown : s.vm.findClass own = some m.cls) (hKs : ze_K dC dI dA s) (hts : ∀ w ∈ zb_T, w.before args s = true) (hai : (100, FieldType.int) ∈ ze_arr) (hR : 1 ≤ R.frames ∧ 40 ≤ R.locals) (hw1 : Cond.methodLink own idx arraycopyName ∈ zb_T) (hw2 : Cond.native arraycopyName ∈ zb_T) (hw3 : Cond.static arraycopyName ∈ zb_T) (hw4 : Cond.initialized "java/lang/System" ∈ zb_T)
    (hdg : decode cc pc = .ok (.invokestatic idx, 3)) (hK : ze_KK p l e R s m args below meth c Q z0 dC dI dA sp xs A nL V kk) (hn : ze_at V nx (pc + 3)) (h : zo_stat nx ca cb cd [] jp kk k cal mc ms ls st w g nc ns = true) (hH : ze_H z0 dC dI dA sp xs A s nL ls st w g ρ ws H locs la vs) : W p l e R s m args below meth c H locs nc ns Q (F0 m pc la vs) := by
  have h : zo_copy nx ca cb cd [] jp kk k cal mc ms ls st w g nc ns = true := h
  unfold zo_copy at h
  split at h
  · rename_i n dp d p0 s0 rest x99
    obtain ⟨v1, r1, e1, V1, L1⟩ := hH.2.2.2.2.2.2.2.cons
    obtain ⟨v2, r2, e2, V2, L2⟩ := L1.cons
    obtain ⟨v3, r3, e3, V3, L3⟩ := L2.cons
    obtain ⟨v4, r4, e4, V4, L4⟩ := L3.cons
    obtain ⟨v5, r5, e5, V5, L5⟩ := L4.cons
    subst e1; subst e2; subst e3; subst e4; subst e5
    obtain ⟨h1, h⟩ := ze_condf h
    obtain ⟨h0, h1⟩ := ze_condf h1
    obtain ⟨h2, h⟩ := ze_condf h
    obtain ⟨h3, h⟩ := ze_condf h
    have h0 := ze_ble' h0
    have h1 := ze_ble' h1
    have h2 := ze_ble' h2
    have h3 := ze_ble' h3
    obtain ⟨h4, h⟩ := ze_condf h
    obtain ⟨cs, g1, h⟩ := ze_g_spec h
    obtain ⟨k1, h⟩ := ze_condf h
    obtain ⟨c2, g2, h⟩ := ze_g_spec h
    obtain ⟨k2, h⟩ := ze_condf h
    obtain ⟨l9, q1, q2, q3, q4⟩ := ze_cp_spec _ _ _ _ _ h
    have k1 := ze_beq k1
    have k2 := ze_beq k2
    obtain ⟨a5, e05, ex5, hw5, hC5⟩ := hH.2.2.1.ref g1 V5
    obtain ⟨a3, e03, ex3, hw3', hC3⟩ := hH.2.2.1.ref g2 V3
    obtain ⟨f5, ef5, hf5⟩ := hC5.ints (by omega) (by omega)
    obtain ⟨f3, ef3, hf3⟩ := hC3.ints (by omega) (by omega)
    rw [k1] at ef5
    rw [k2] at ef3
    subst ef5; subst ef3; subst ex5; subst ex3
    have z1 : v1 = .int (nI n) := V1
    have z2 : v2 = .int (nI dp) := V2
    have z4 : v4 = .int (nI p0) := V4
    subst z1; subst z2; subst z4
    · have hle := q3 (by omega)
      obtain ⟨lv, hl, hLL⟩ := hH.2.2.2.2.2.2.1
      refine va_copyi (D := (dC, dI)) hx hb (by rw [hml]; exact hl.1.symm) hown (hts _ hw1) (hts _ hw2) (hts _ hw3) (hts _ hw4) (hKs.k1 hai) hH.2.2.2.1 hH.2.2.2.2.1 hH.2.2.2.2.2.1 _ _ 0 0 hw5 hw3' rfl rfl rfl (nI_pos (by omega)) (nI_pos (by omega)) (nI_pos (by omega)) (by rw [ze_cln (by omega), ze_cln (by omega)]; exact hle.1) (by rw [ze_cln (by omega), ze_cln (by omega)]; exact hle.2) (fun _ _ => rfl) hR.1 ?_ hdg (fun H1 locs1 g1 g2 g3 => ?_)
      · rw [ze_cs_sum L5]
        have := ze_ble' h4
        show ze_cs rest + (7 + 11) ≤ R.locals
        omega
      · rw [ze_cln (by omega), ze_cln (by omega), ze_cln (by omega)] at g1 g2
        refine hK _ _ _ _ _ _ _ q1 _ hn _ _ _ _ _ _ (hH.put hw3' (c1 := (100, l9)) (Or.inr (Or.inl ⟨(by show 100 ≤ 100; decide), (by show 100 < 150; decide), va_cpy f5 f3 p0 dp n, ?_, fun j v hj => ?_⟩)) g1 g2 g3 L5)
        · show _ = Sum.inl (_, l9.length, _)
          rw [q2]
        · have hj : l9[j]? = some v := hj
          rw [q4 j] at hj
          unfold va_cpy
          by_cases hr : dp ≤ j ∧ j < dp + n
          · rw [if_pos hr] at hj ⊢
            exact hf5 _ _ hj
          · rw [if_neg hr] at hj ⊢
            exact hf3 _ _ hj
  · cases h
end ZM
end
section
/-! THE ENGINE, part 8: the kinds of calls -/
theorem zg_in {ws : List Cond} (h : ∀ w ∈ ws, w ∈ zb_T) : GoodIn zb_T ws := fun w hw => ⟨h w hw, good_of_word (zb_good w (h w hw)).2⟩
theorem zg_code {w0 : Cond} (h : w0 ∈ zb_T) : ∀ w ∈ w0 :: zb_T, w ∈ zb_T := fun w hw => (List.mem_cons.mp hw).elim (fun e => e ▸ h) (fun q => q)
/-- what the engine's rows say of a callee -/
def ze_rm (d cy sy : Nat) : Room := { frames := d, cells := cy, slots := sy, locals := 70 * d }
section ZI
variable {p : Program} {l : Launch} {e : Env} {R : Room} {s : State} {m : MethodId} {args : Array Value} {below : List Frame} {meth : Method} {c : Code} {Q : State → Prop}
variable {z0 : List Int32 × List Nat} {dC : Nat → ClassId} {dI : Nat → Nat → Nat} {dA : Nat → ClassId} {sp : Nat → Nat} {xs : Nat → Int32} {A : Nat → Prop} {nL : Nat} {V : List ECE → Prop}
variable {kk : EKn} {k : ERt} {cal : ECal} {mc ms pc pc2 ca cb cd nc ns : Nat} {nx : List ECE} {jp : EJp} {tl : List Nat} {ls st : List EV} {w : EW} {g : EG} {ρ : List Int32} {ws : va_W} {H : Heap} {locs : List Loc} {la : Array Slot} {vs : List Value}
variable {cc : ByteArray} {own : String} {idx : Nat}
variable {yn : MethodName} {yb : ByteArray} {yL cy sy d nb : Nat} {yr : Option FieldType}
/-- the callee's contract, as the engine gives it -/
def ze_Cal (l : Launch) (dC : Nat → ClassId) (dI : Nat → Nat → Nat) (dA : Nat → ClassId) (sp : Nat → Nat) (xs : Nat → Int32) (A : Nat → Prop) (cal : ECal) (y d : Nat) (yn : MethodName) (yb : ByteArray) (yL : Nat) (yr : Option FieldType) (cy sy : Nat) : Prop :=
  ∀ (av : List EV) (w : EW) (g : EG) (k' : ERt), cal y av w g k' = true → ∀ (ρ : List Int32) (ws : va_W) (avs : List Value), ze_G g ρ → (∀ j, j < 5 → ρ[j]? = some (xs j)) → ze_W dA sp ρ w ws → ze_L sp ρ (ws.map (·.1)) av avs → Met l yn (.code yn yb yL yr :: zb_T) (ze_rm d cy sy) (va_Pc avs (ze_Pc dC dI dA sp xs A ws)) (ze_Qc dC dI dA sp A k' ρ (ws.map (·.1))) cy sy A
theorem ze_room {yL d : Nat} (hd : d + 1 ≤ R.frames ∧ 70 * (d + 1) ≤ R.locals) (hL : yL ≤ 51) : (ze_rm d cy sy).frames + 1 ≤ R.frames ∧ 8 + (yL + 11) + (ze_rm d cy sy).locals ≤ R.locals := by
  show d + 1 ≤ R.frames ∧ 8 + (yL + 11) + 70 * d ≤ R.locals
  omega
theorem zs_invV {y ci : Nat} {T : u_T} {N : Nat} (hx : p.tables.exec = Jvm.exec) (hb : c.code = cc) (hml : c.maxLocals = nL) (hown : s.vm.findClass own = some m.cls) (hKs : ze_K dC dI dA s) (hsc : ze_X sp xs A s) (hA : ∀ q, s.heap.size ≤ q → A q) (hts : ∀ w ∈ zb_T, w.before args s = true) (hcf : ze_CF) (hR : R.cells = mc ∧ R.slots = ms) (hRd : d + 1 ≤ R.frames ∧ 70 * (d + 1) ≤ R.locals) (hcal : ze_Cal l dC dI dA sp xs A cal y d yn yb yL yr cy sy)
    (hci : vwCl[ci]? = some (yn.cls, T, N)) (hyL : yL ≤ 51) (hcode : Cond.code yn yb yL yr ∈ zb_T) (hins : Cond.instanceMethod yn ∈ zb_T) (hsel : Cond.selects yn.cls yn yn ∈ zb_T) (hini : Cond.initialized yn.cls ∈ zb_T) (hpar : yn.cls ≠ "java/lang/invoke/MethodHandle" ∧ yn.cls ≠ "java/lang/invoke/VarHandle" ∧ (parseMethodDescriptor yn.desc).map (fun d => d.parameters.length) = some nb)
    (hlk : Cond.methodLink own idx yn ∈ zb_T ∨ ∃ host, Cond.methodLinkNest own idx yn host ∈ ze_nest)
    (hdg : decode cc pc = .ok (.invokevirtual idx, 3)) (hK : ze_KK p l e R s m args below meth c Q z0 dC dI dA sp xs A nL V kk) (hn : ze_at V nx (pc + 3)) (h : zo_call y (nb + 1) (ci + 1) cy sy nx ca cb cd tl jp kk k cal mc ms ls st w g nc ns = true) (hH : ze_H z0 dC dI dA sp xs A s nL ls st w g ρ ws H locs la vs) : W p l e R s m args below meth c H locs nc ns Q (F0 m pc la vs) := by
  refine zs_call hKs hsc hA hcal hK hn h hH (fun avs vr k' e1 e2 e3 e4 e5 hrc hM hpre => ?_) (fun ci' hc => by cases hc; exact (hcf ci _ _ _ hci).1)
  obtain ⟨b, As, q, fs, e6, hq⟩ := hrc ci rfl
  subst e6
  have hlen : As.length = nb := by simpa using e2
  obtain ⟨lv, hl, -⟩ := hH.2.2.2.2.2.2.1
  have hst : vs = As.reverse ++ .ref b :: vr := by rw [e1]; simp
  have hrm := ze_room (cy := cy) (sy := sy) hRd hyL
  have hPv : PreV s H yn.cls b (va_Pc (.ref b :: As) (ze_Pc dC dI dA sp xs A ws)) As := ⟨ze_blind, va_recv hKs.k0 hH.2.2.2.1 hci hq, hpre⟩
  rcases hlk with hlk | ⟨host, hlk⟩
  · refine va_runV (As := As) (rest := vr) (C := yn.cls) ⟨hx, hb, hml, hown, hts⟩ hM (cwV nb hts (zg_in ?_) rfl rfl rfl ⟨rfl, hpar⟩ hrm) hPv rfl hlen hl.1 hst (lv_room e3) hdg ⟨by rw [hR.1]; exact e4, by rw [hR.2]; exact e5⟩
    intro w' hw'
    rcases List.mem_append.mp hw' with h9 | h9
    · simp only [List.mem_cons, List.not_mem_nil, or_false] at h9
      rcases h9 with rfl | rfl | rfl | rfl
      · exact hlk
      · exact hins
      · exact hsel
      · exact hini
    · exact zg_code hcode w' h9
  · exact va_runVN (As := As) (rest := vr) (C := yn.cls) ⟨hx, hb, hml, hown, hts⟩ hM ⟨va_cnB nb hts (zg_in (zg_code hcode)) rfl rfl rfl (hKs.2.2.1 _ hlk) (hts _ hini) hpar hrm, hts _ hins, hts _ hsel⟩ hPv rfl hlen hl.1 hst (lv_room e3) hdg ⟨by rw [hR.1]; exact e4, by rw [hR.2]; exact e5⟩
theorem zs_invS {y : Nat} (hx : p.tables.exec = Jvm.exec) (hb : c.code = cc) (hml : c.maxLocals = nL) (hown : s.vm.findClass own = some m.cls) (hKs : ze_K dC dI dA s) (hsc : ze_X sp xs A s) (hA : ∀ q, s.heap.size ≤ q → A q) (hts : ∀ w ∈ zb_T, w.before args s = true) (hR : R.cells = mc ∧ R.slots = ms) (hRd : d + 1 ≤ R.frames ∧ 70 * (d + 1) ≤ R.locals) (hcal : ze_Cal l dC dI dA sp xs A cal y d yn yb yL yr cy sy)
    (hyL : yL ≤ 51) (hcode : Cond.code yn yb yL yr ∈ zb_T) (hsta : Cond.static yn ∈ zb_T) (hini : Cond.initialized yn.cls ∈ zb_T) (hpar : yn.cls ≠ "java/lang/invoke/MethodHandle" ∧ yn.cls ≠ "java/lang/invoke/VarHandle" ∧ (parseMethodDescriptor yn.desc).map (fun d => d.parameters.length) = some nb)
    (hlk : Cond.methodLink own idx yn ∈ zb_T ∨ ∃ host, Cond.methodLinkNest own idx yn host ∈ ze_nest)
    (hdg : decode cc pc = .ok (.invokestatic idx, 3)) (hK : ze_KK p l e R s m args below meth c Q z0 dC dI dA sp xs A nL V kk) (hn : ze_at V nx (pc + 3)) (h : zo_call y nb 0 cy sy nx ca cb cd tl jp kk k cal mc ms ls st w g nc ns = true) (hH : ze_H z0 dC dI dA sp xs A s nL ls st w g ρ ws H locs la vs) : W p l e R s m args below meth c H locs nc ns Q (F0 m pc la vs) := by
  refine zs_call hKs hsc hA hcal hK hn h hH (fun avs vr k' e1 e2 e3 e4 e5 hrc hM hpre => ?_) (fun ci' hc => by cases hc)
  obtain ⟨lv, hl, -⟩ := hH.2.2.2.2.2.2.1
  have hrm := ze_room (cy := cy) (sy := sy) hRd hyL
  have hPs : PreS s H (va_Pc avs (ze_Pc dC dI dA sp xs A ws)) avs := ⟨ze_blind, hpre⟩
  rcases hlk with hlk | ⟨host, hlk⟩
  · exact va_runS (As := avs) (rest := vr) ⟨hx, hb, hml, hown, hts⟩ hM ⟨callB_of nb hts (zg_in (zg_code hcode)) rfl rfl rfl (hts _ hini) (hts _ hlk) hpar hrm, hts _ hsta⟩ hPs rfl e2 hl.1 e1 (lv_room e3) hdg ⟨by rw [hR.1]; exact e4, by rw [hR.2]; exact e5⟩
  · exact va_runSN (As := avs) (rest := vr) ⟨hx, hb, hml, hown, hts⟩ hM ⟨va_cnB nb hts (zg_in (zg_code hcode)) rfl rfl rfl (hKs.2.2.1 _ hlk) (hts _ hini) hpar hrm, hts _ hsta, trivial⟩ hPs rfl e2 hl.1 e1 (lv_room e3) hdg ⟨by rw [hR.1]; exact e4, by rw [hR.2]; exact e5⟩
theorem zs_invI {y : Nat} (hx : p.tables.exec = Jvm.exec) (hb : c.code = cc) (hml : c.maxLocals = nL) (hown : s.vm.findClass own = some m.cls) (hKs : ze_K dC dI dA s) (hsc : ze_X sp xs A s) (hA : ∀ q, s.heap.size ≤ q → A q) (hts : ∀ w ∈ zb_T, w.before args s = true) (hR : R.cells = mc ∧ R.slots = ms) (hRd : d + 1 ≤ R.frames ∧ 70 * (d + 1) ≤ R.locals) (hcal : ze_Cal l dC dI dA sp xs A cal y d yn yb yL none cy sy)
    (hyL : yL ≤ 51) (hcode : Cond.code yn yb yL none ∈ zb_T) (hins : Cond.instanceMethod yn ∈ zb_T) (hini : Cond.initialized yn.cls ∈ zb_T) (hnm : yn.name = "<init>") (hpar : yn.cls ≠ "java/lang/invoke/MethodHandle" ∧ yn.cls ≠ "java/lang/invoke/VarHandle" ∧ (parseMethodDescriptor yn.desc).map (fun d => d.parameters.length) = some nb)
    (hlk : Cond.methodLink own idx yn ∈ zb_T ∨ ∃ host, Cond.methodLinkNest own idx yn host ∈ ze_nest)
    (hdg : decode cc pc = .ok (.invokespecial idx, 3)) (hK : ze_KK p l e R s m args below meth c Q z0 dC dI dA sp xs A nL V kk) (hn : ze_at V nx (pc + 3)) (h : zo_call y (nb + 1) 0 cy sy nx ca cb cd tl jp kk k cal mc ms ls st w g nc ns = true) (hq0 : ∀ (pop rest : List EV), st = pop ++ rest → pop.length = nb + 1 → ∃ q, pop.reverse.head? = some (eR q)) (hH : ze_H z0 dC dI dA sp xs A s nL ls st w g ρ ws H locs la vs) : W p l e R s m args below meth c H locs nc ns Q (F0 m pc la vs) := by
  refine zs_call hKs hsc hA hcal hK hn h hH (fun avs vr k' e1 e2 e3 e4 e5 hrc hM hpre => ?_) (fun ci' hc => by cases hc)
  obtain ⟨lv, hl, -⟩ := hH.2.2.2.2.2.2.1
  have hrm := ze_room (cy := cy) (sy := sy) hRd hyL
  have hav : ∃ b As, avs = Value.ref b :: As := by
    have hV := hH.2.2.2.2.2.2.2
    obtain ⟨pop, rest, e7, e8⟩ : ∃ pop rest, st = pop ++ rest ∧ pop.length = nb + 1 := by
      refine ⟨st.take (nb + 1), st.drop (nb + 1), (List.take_append_drop _ _).symm, ?_⟩
      rw [List.length_take, hV.len, e1]
      simp
      omega
    obtain ⟨q, hq⟩ := hq0 pop rest e7 e8
    rw [e7] at hV
    obtain ⟨v1, v2, e9, M1, M2⟩ := hV.split
    have e10 : avs.reverse = v1 ∧ vr = v2 := by
      rw [e1] at e9
      exact List.append_inj e9 (by rw [List.length_reverse, ← M1.len, e2, e8])
    have M3 := M1.rev
    rw [← e10.1, List.reverse_reverse] at M3
    cases hp : pop.reverse with
    | nil => rw [hp] at hq; cases hq
    | cons a t =>
      rw [hp] at hq M3
      cases hq
      obtain ⟨y9, ys, e11, ⟨z, -, hz⟩, -⟩ := M3.cons
      exact ⟨z, ys, by rw [e11, hz]⟩
  obtain ⟨b, As, e6⟩ := hav
  subst e6
  have hlen : As.length = nb := by simpa using e2
  have hst : vs = As.reverse ++ .ref b :: vr := by rw [e1]; simp
  have hPs : PreS s H (va_Pc (.ref b :: As) (ze_Pc dC dI dA sp xs A ws)) (.ref b :: As) := ⟨ze_blind, hpre⟩
  rcases hlk with hlk | ⟨host, hlk⟩
  · exact va_runI (As := As) (rest := vr) ⟨hx, hb, hml, hown, hts⟩ hM ⟨callB_of nb hts (zg_in (zg_code hcode)) rfl rfl rfl (hts _ hini) (hts _ hlk) hpar hrm, hnm, hts _ hins⟩ hPs rfl hlen hl.1 hst (lv_room e3) hdg ⟨by rw [hR.1]; exact e4, by rw [hR.2]; exact e5⟩
  · exact va_runIN (As := As) (rest := vr) ⟨hx, hb, hml, hown, hts⟩ hM ⟨va_cnB nb hts (zg_in (zg_code hcode)) rfl rfl rfl (hKs.2.2.1 _ hlk) (hts _ hini) hpar hrm, hnm, hts _ hins⟩ hPs rfl hlen hl.1 hst (lv_room e3) hdg ⟨by rw [hR.1]; exact e4, by rw [hR.2]; exact e5⟩
theorem zs_objInit (hx : p.tables.exec = Jvm.exec) (hb : c.code = cc) (hml : c.maxLocals = nL) (hown : s.vm.findClass own = some m.cls) (hts : ∀ w ∈ zb_T, w.before args s = true) (hR : 1 ≤ R.frames ∧ 40 ≤ R.locals) (hw1 : Cond.methodLink own idx Lib.objectInit ∈ zb_T) (hw2 : Cond.instanceMethod Lib.objectInit ∈ zb_T) (hw3 : Cond.code Lib.objectInit ⟨#[0xb1]⟩ 1 none ∈ zb_T)
    (hdg : decode cc pc = .ok (.invokespecial idx, 3)) (hK : ze_KK p l e R s m args below meth c Q z0 dC dI dA sp xs A nL V kk) (hn : ze_at V nx (pc + 3)) (h : zl_ st (fun v rest => zv_r v (fun _ => cond (Nat.ble (ze_cs rest) 8) (kk nx ls rest w g nc ns) false)) = true) (hH : ze_H z0 dC dI dA sp xs A s nL ls st w g ρ ws H locs la vs) : W p l e R s m args below meth c H locs nc ns Q (F0 m pc la vs) := by
  rcases st with _ | ⟨v, rest⟩
  · cases h
  · rcases v with (n | i) | ((q | (n | u)) | x)
    · cases h
    · cases h
    · obtain ⟨h1, h2⟩ := ze_condf (show cond (Nat.ble (ze_cs rest) 8) (kk nx ls rest w g nc ns) false = true from h)
      obtain ⟨y1, r1, e1, ⟨a, ha, e2⟩, L1⟩ := hH.2.2.2.2.2.2.2.cons
      subst e1; subst e2
      obtain ⟨lv, hl, -⟩ := hH.2.2.2.2.2.2.1
      refine W.objInit hx hb hown (hts _ hw1) (hts _ hw2) (hts _ hw3) rfl (by rw [hml]; exact hl.1) rfl hdg hR.1 ?_ (W.eq (g2 := F0 m (pc + 3) la r1) rfl (hK _ _ _ _ _ _ _ h2 _ hn _ _ _ _ _ _ (hH.stk L1)))
      have := lv_room (m := m) (pc := pc) (ls := la) (rest := .ref a :: r1) (st := r1) (by rw [ze_cs_sum L1]; exact ze_ble' h1)
      omega
    · cases h
    · cases h
    · cases h
end ZI
end
section
/-! THE ENGINE, part 9: what a row of code must be; what a run of rows says -/
/-- own class, code, locals, answer's type, is it a constructor, the rows from each sixteenth on; pc a b c list; the rows behind -/
abbrev EKC : Type := Nat → ByteArray → Nat → Option FieldType → Bool → List (List ECE) → Nat → Nat → Nat → Nat → List Nat → List ECE → Bool
def zk_no : EKC := fun _ _ _ _ _ _ _ _ _ _ _ _ => true
def zk_d (cc : ByteArray) (pc : Nat) (i : Jvm.ClassFile.Instr) (len : Nat) : Bool := decide (decode cc pc = .ok (i, len))
def zk_n (r : List ECE) (pc : Nat) : Bool := match r with
  | [] => false
  | e :: _ => Nat.beq e.2.1 pc
/-- the rows at a target -/
def ze_drop : Nat → List ECE → Option (List ECE)
  | 0, cs => some cs
  | _ + 1, [] => none
  | n + 1, _ :: r => ze_drop n r
def ze_tgt (jt : List (List ECE)) (a : Nat) : Option (List ECE) := (jt[a / 16]?).bind (ze_drop (a % 16))
def zk_jm (jt : List (List ECE)) (pc : Nat) (off : Int) (a : Nat) : Bool := match ze_tgt jt a with
  | some (e :: _) => decide ((pc : Int) + off = (e.2.1 : Int))
  | _ => false
def zk_s (i : Jvm.ClassFile.Instr) : EKC := fun _ cc _ _ _ _ pc _ _ _ _ r => zk_d cc pc i 1 && zk_n r (pc + 1)
def zk_ic (n : Int) : EKC := fun _ cc _ _ _ _ pc a _ _ _ r => zk_d cc pc (.iconst n) 1 && zk_n r (pc + 1) && decide (Int32.ofInt n = nI a)
def zk_bi (n : Int) : EKC := fun _ cc _ _ _ _ pc a _ _ _ r => zk_d cc pc (.bipush n) 2 && zk_n r (pc + 2) && decide ((Int8.ofInt n).toInt32 = nI a)
def zk_si (n : Int) : EKC := fun _ cc _ _ _ _ pc a _ _ _ r => zk_d cc pc (.sipush n) 3 && zk_n r (pc + 3) && decide ((Int16.ofInt n).toInt32 = nI a)
def zk_lc (n : Fin 2) : EKC := fun _ cc _ _ _ _ pc a _ _ _ r => zk_d cc pc (.lconst n) 1 && zk_n r (pc + 1) && decide (Int64.ofNat n.val = lN a)
def zk_ld (n : Nat) : EKC := fun o cc _ _ _ _ pc a _ _ _ r => zk_d cc pc (.ldc n) 2 && zk_n r (pc + 2) && decide ((n, a) ∈ zl_k.getD o [])
def zk_ldw (n : Nat) : EKC := fun o cc _ _ _ _ pc a _ _ _ r => zk_d cc pc (.ldc_w n) 3 && zk_n r (pc + 3) && decide ((n, a) ∈ zl_k.getD o [])
def zk_ld2 (n : Nat) : EKC := fun o cc _ _ _ _ pc a _ _ _ r => zk_d cc pc (.ldc2_w n) 3 && zk_n r (pc + 3) && decide ((n, a) ∈ zl_kl.getD o [])
def zk_x (i : Jvm.ClassFile.Instr) (len n : Nat) : EKC := fun _ cc _ _ _ _ pc a _ _ _ r => zk_d cc pc i len && zk_n r (pc + len) && decide (n = a)
def zk_y (i : Jvm.ClassFile.Instr) (len n wd : Nat) : EKC := fun _ cc nL _ _ _ pc a _ _ _ r => zk_d cc pc i len && zk_n r (pc + len) && decide (n = a) && decide (a + wd ≤ nL)
def zk_ii (i : Nat) (n : Int) : EKC := fun _ cc nL _ _ _ pc a b _ _ r => zk_d cc pc (.iinc i n) 3 && zk_n r (pc + 3) && decide (i = a) && decide (a + 1 ≤ nL) && decide (Int32.ofInt n = nI b)
def zk_go (f : Int) : EKC := fun _ cc _ _ _ jt pc a _ _ _ _ => zk_d cc pc (.goto f) 3 && zk_jm jt pc f a
def zk_j (i : Jvm.ClassFile.Instr) (f : Int) : EKC := fun _ cc _ _ _ jt pc a _ _ _ r => zk_d cc pc i 3 && zk_n r (pc + 3) && zk_jm jt pc f a
def zk_de (cc : ByteArray) (pc : Nat) (i : Jvm.ClassFile.Instr) : Bool := match decode cc pc with
  | .ok q => decide (q.1 = i)
  | .error _ => false
def zk_tt (jt : List (List ECE)) (pc : Nat) : Int → List Int → List Nat → Bool
  | _, [], [] => true
  | lo, o :: os, z :: t :: ts => decide ((z : Int) = lo + 2147483648) && zk_jm jt pc o t && zk_tt jt pc (lo + 1) os ts
  | _, _, _ => false
def zk_ts (d lo hi : Int) (offs : Array Int) : EKC := fun _ cc _ _ _ jt pc a _ _ tl _ => zk_de cc pc (.tableswitch d lo hi offs) && zk_jm jt pc d a && decide (lo + (offs.toList.length : Int) = hi + 1) && zk_tt jt pc lo offs.toList tl
def zk_lt (jt : List (List ECE)) (pc : Nat) : List (Int × Int) → List Nat → Bool
  | [], [] => true
  | q :: ps, z :: t :: ts => decide ((z : Int) = q.1 + 2147483648) && zk_jm jt pc q.2 t && zk_lt jt pc ps ts
  | _, _ => false
def zk_ls (d : Int) (ps : Array (Int × Int)) : EKC := fun _ cc _ _ _ jt pc a _ _ tl _ => zk_de cc pc (.lookupswitch d ps) && zk_jm jt pc d a && (ps.toList.zip (ps.toList.drop 1)).all (fun (a, next) => a.1 < next.1) && zk_lt jt pc ps.toList tl
def zk_gf (n : Nat) : EKC := fun o cc _ _ _ _ pc a b _ _ r => zk_d cc pc (.getfield n) 3 && zk_n r (pc + 3) && decide ((n, a, b) ∈ zl_f.getD o [])
def zk_pf (n : Nat) : EKC := fun o cc _ _ ini _ pc a b c _ r => zk_d cc pc (.putfield n) 3 && zk_n r (pc + 3) && (decide ((n, a, b, c, 0) ∈ zl_p.getD o []) || (ini && decide ((n, a, b, c, 1) ∈ zl_p.getD o [])))
def zk_nw (n : Nat) : EKC := fun o cc _ _ _ _ pc a _ _ tl r => zk_d cc pc (.new n) 3 && zk_n r (pc + 3) && decide ((n, a, tl) ∈ zl_n.getD o [])
def zk_na (t : ArrayType) : EKC := fun _ cc _ _ _ _ pc a b _ _ r => zk_d cc pc (.newarray t) 2 && zk_n r (pc + 2) && (match t with
  | .int => decide (a = 100) && decide (b = 0)
  | .char => decide (a = 101) && decide (b = 0)
  | .boolean => decide (a = 104) && decide (b = 0)
  | .long => decide (a = 150) && decide (b = 3)
  | _ => false)
def zk_aa (n : Nat) : EKC := fun o cc _ _ _ _ pc a b _ _ r => zk_d cc pc (.anewarray n) 3 && zk_n r (pc + 3) && decide ((n, a) ∈ zl_a.getD o []) && decide (b = 2)
def zk_iv (n : Nat) : EKC := fun o cc _ _ _ _ pc a b c tl r => zk_d cc pc (.invokevirtual n) 3 && zk_n r (pc + 3) && decide ((n, a, b, c, tl) ∈ zl_v.getD o [])
def zk_is (n : Nat) : EKC := fun o cc _ _ _ _ pc a b c tl r => zk_d cc pc (.invokestatic n) 3 && zk_n r (pc + 3) && (decide ((n, a, b, c, tl) ∈ zl_s.getD o []) || (decide (tl = []) && decide (n ∈ zl_y.getD o [])))
def zk_ip (n : Nat) : EKC := fun o cc _ _ _ _ pc a b c tl r => zk_d cc pc (.invokespecial n) 3 && zk_n r (pc + 3) && (decide ((n, a, b, c, tl) ∈ zl_i.getD o []) || (decide (tl = []) && decide (n ∈ zl_o.getD o [])))
def zk_rt (rt : Option FieldType) (a : Nat) : Bool := match rt with
  | some .int => decide (a = 0)
  | some .boolean => decide (a = 1)
  | some .char => decide (a = 4)
  | _ => false
def zk_ir : EKC := fun _ cc _ rt _ _ pc a _ _ _ _ => zk_d cc pc .ireturn 1 && zk_rt rt a
def zk_lr : EKC := fun _ cc _ rt _ _ pc _ _ _ _ _ => zk_d cc pc .lreturn 1 && decide (rt = some .long)
def zk_ar : EKC := fun _ cc _ rt _ _ pc _ _ _ _ _ => zk_d cc pc .areturn 1 && (match rt with
  | some (.object _) => true
  | some (.array _) => true
  | _ => false)
def zk_vr : EKC := fun _ cc _ rt _ _ pc _ _ _ _ _ => zk_d cc pc .return_ 1 && decide (rt = none)
noncomputable def zk_do (i : Jvm.ClassFile.Instr) : EKC := Jvm.ClassFile.Instr.rec (motive := fun _ => EKC)
  (zk_s .aaload) (zk_s .aastore) (zk_s .aconst_null) (fun n => zk_x (.aload n) 2 n) (fun n => zk_x (.aload_n n) 1 n.val) (fun n => zk_aa n) zk_ar (zk_s .arraylength) (fun n => zk_y (.astore n) 2 n 1) (fun n => zk_y (.astore_n n) 1 n.val 1) zk_no (zk_s .baload) (zk_s .bastore) (fun n => zk_bi n) (zk_s .caload) (zk_s .castore) (fun _ => zk_no) zk_no zk_no zk_no zk_no zk_no zk_no (fun _ => zk_no) (fun _ => zk_no) zk_no (fun _ => zk_no) (fun _ => zk_no) zk_no zk_no zk_no zk_no (fun _ => zk_no) (fun _ => zk_no) zk_no (zk_s .dup) (zk_s .dup_x1) (zk_s .dup_x2) (zk_s .dup2) zk_no zk_no zk_no zk_no zk_no zk_no zk_no zk_no (fun _ => zk_no) (fun _ => zk_no) zk_no (fun _ => zk_no) (fun _ => zk_no) zk_no zk_no zk_no zk_no (fun _ => zk_no) (fun _ => zk_no) zk_no (fun n => zk_gf n) (fun _ => zk_no) (fun f => zk_go f) (fun _ => zk_no) (zk_s .i2b) (zk_s .i2c) zk_no zk_no (zk_s .i2l) (zk_s .i2s) (zk_s .iadd) (zk_s .iaload) (zk_s .iand) (zk_s .iastore) (fun n => zk_ic n) (zk_s .idiv) (fun _ _ => zk_no) (fun c f => zk_j (.if_icmp c f) f) (fun c f => zk_j (.ifCond c f) f) (fun f => zk_j (.ifnonnull f) f) (fun f => zk_j (.ifnull f) f) (fun i n => zk_ii i n) (fun n => zk_x (.iload n) 2 n) (fun n => zk_x (.iload_n n) 1 n.val) (zk_s .imul) (zk_s .ineg) (fun _ => zk_no) (fun _ => zk_no) (fun _ _ => zk_no) (fun n => zk_ip n) (fun n => zk_is n) (fun n => zk_iv n) (zk_s .ior) (zk_s .irem) zk_ir (zk_s .ishl) (zk_s .ishr) (fun n => zk_y (.istore n) 2 n 1) (fun n => zk_y (.istore_n n) 1 n.val 1) (zk_s .isub) (zk_s .iushr) (zk_s .ixor) (fun _ => zk_no) (fun _ => zk_no) zk_no zk_no (zk_s .l2i) (zk_s .ladd) (zk_s .laload) (zk_s .land) (zk_s .lastore) (zk_s .lcmp) (fun n => zk_lc n) (fun n => zk_ld n) (fun n => zk_ldw n) (fun n => zk_ld2 n) (zk_s .ldiv) (fun n => zk_x (.lload n) 2 n) (fun n => zk_x (.lload_n n) 1 n.val) (zk_s .lmul) zk_no (fun d ps => zk_ls d ps) (zk_s .lor) (zk_s .lrem) zk_lr (zk_s .lshl) (zk_s .lshr) (fun n => zk_y (.lstore n) 2 n 2) (fun n => zk_y (.lstore_n n) 1 n.val 2) (zk_s .lsub) zk_no zk_no zk_no zk_no (fun _ _ => zk_no) (fun n => zk_nw n) (fun t => zk_na t) zk_no (zk_s .pop) zk_no (fun n => zk_pf n) (fun _ => zk_no) (fun _ => zk_no) zk_vr zk_no zk_no (fun n => zk_si n) zk_no (fun d lo hi offs => zk_ts d lo hi offs) i
noncomputable def zk_code (o : Nat) (cc : ByteArray) (nL : Nat) (rt : Option FieldType) (ini : Bool) (jt : List (List ECE)) (cs : List ECE) : Bool := List.rec (motive := fun _ => Bool) true (fun e r ih => cond (zk_do e.1 o cc nL rt ini jt e.2.1 e.2.2.1 e.2.2.2.1 e.2.2.2.2.1 e.2.2.2.2.2 r) ih false) cs
end
section
/-! THE ENGINE, part 10: what the links say; a run of rows -/
def ZF_f : Prop := ∀ (o n a b : Nat), (n, a, b) ∈ zl_f.getD o [] → ∃ (C : String) (T : u_T) (N : Nat), vwCl[a]? = some (C, T, N) ∧ b < N ∧ ze_FL (zn o) n T b
def ZF_p : Prop := ∀ (o n a b c f : Nat), (n, a, b, c, f) ∈ zl_p.getD o [] → ∃ (C : String) (T : u_T) (N : Nat) (ty : FieldType), vwCl[a]? = some (C, T, N) ∧ b < N ∧ parseFieldDescriptor (T b).2.2.1 = some ty ∧ ze_ty c ty ∧ ((f = 0 ∧ (T b).2.2.2 = false ∧ ze_FL (zn o) n T b) ∨ (f = 1 ∧ (T b).2.2.2 = true ∧ (T b).1 = zn o ∧ Cond.fieldLink (zn o) n (T b).1 (T b).2.1 (T b).2.2.1 ∈ zb_T))
def ZF_n : Prop := ∀ (o n a : Nat) (tl : List Nat), (n, a, tl) ∈ zl_n.getD o [] → ∃ (C : String) (T : u_T) (N : Nat), vwCl[a]? = some (C, T, N) ∧ tl.length = N ∧ (∀ j, j < N → ∃ t ty, tl[j]? = some t ∧ parseFieldDescriptor (T j).2.2.1 = some ty ∧ ze_ty t ty) ∧ Cond.classLink (zn o) n C ∈ zb_T ∧ Cond.instantiable C N ∈ zb_T ∧ Cond.initialized C ∈ zb_T
def ZF_a : Prop := ∀ (o n a : Nat), (n, a) ∈ zl_a.getD o [] → a = 209 ∧ Cond.classLink (zn o) n "ConfettiMinutes$Town" ∈ zb_T
def ZF_k : Prop := ∀ (o n a : Nat), (n, a) ∈ zl_k.getD o [] → Jvm.Cond.constant (zn o) n (nI a) ∈ zb_T
def ZF_kl : Prop := ∀ (o n a : Nat), (n, a) ∈ zl_kl.getD o [] → Jvm.Cond.constantLong (zn o) n (lN a) ∈ zb_T
/-- a method that may be called -/
def ZF_q (q : ZMt) (nb : Nat) : Prop := q.2.2.1 ≤ 51 ∧ Cond.code q.1 q.2.1 q.2.2.1 q.2.2.2.1 ∈ zb_T ∧ Cond.initialized q.1.cls ∈ zb_T ∧ q.1.cls ≠ "java/lang/invoke/MethodHandle" ∧ q.1.cls ≠ "java/lang/invoke/VarHandle" ∧ (parseMethodDescriptor q.1.desc).map (fun d => d.parameters.length) = some nb
def ZF_l (o n : Nat) (yn : MethodName) : Prop := Cond.methodLink (zn o) n yn ∈ zb_T ∨ ∃ host, Cond.methodLinkNest (zn o) n yn host ∈ ze_nest
def ZF_v : Prop := ∀ (o n a b c : Nat) (tl : List Nat), (n, a, b, c, tl) ∈ zl_v.getD o [] → ∃ (q : ZMt) (ci : Nat) (T : u_T) (N nb : Nat), zm a = some q ∧ tl = [q.2.2.2.2.2.1, q.2.2.2.2.2.2] ∧ b = nb + 1 ∧ c = ci + 1 ∧ vwCl[ci]? = some (q.1.cls, T, N) ∧ ZF_q q nb ∧ Cond.instanceMethod q.1 ∈ zb_T ∧ Cond.selects q.1.cls q.1 q.1 ∈ zb_T ∧ ZF_l o n q.1
def ZF_s : Prop := ∀ (o n a b c : Nat) (tl : List Nat), (n, a, b, c, tl) ∈ zl_s.getD o [] → ∃ (q : ZMt), zm a = some q ∧ tl = [q.2.2.2.2.2.1, q.2.2.2.2.2.2] ∧ c = 0 ∧ ZF_q q b ∧ Cond.static q.1 ∈ zb_T ∧ ZF_l o n q.1
def ZF_i : Prop := ∀ (o n a b c : Nat) (tl : List Nat), (n, a, b, c, tl) ∈ zl_i.getD o [] → ∃ (q : ZMt) (nb : Nat), zm a = some q ∧ tl = [q.2.2.2.2.2.1, q.2.2.2.2.2.2] ∧ b = nb + 1 ∧ c = 0 ∧ ZF_q q nb ∧ q.2.2.2.1 = none ∧ q.1.name = "<init>" ∧ Cond.instanceMethod q.1 ∈ zb_T ∧ ZF_l o n q.1
def ZF_o : Prop := (∀ (o n : Nat), n ∈ zl_o.getD o [] → Cond.methodLink (zn o) n Lib.objectInit ∈ zb_T) ∧ Cond.instanceMethod Lib.objectInit ∈ zb_T ∧ Cond.code Lib.objectInit ⟨#[0xb1]⟩ 1 none ∈ zb_T
def ZF_y : Prop := (∀ (o n : Nat), n ∈ zl_y.getD o [] → Cond.methodLink (zn o) n arraycopyName ∈ zb_T) ∧ Cond.native arraycopyName ∈ zb_T ∧ Cond.static arraycopyName ∈ zb_T ∧ Cond.initialized "java/lang/System" ∈ zb_T
def ZF_r : Prop := Cond.arrayClass .int ∈ zb_T ∧ Cond.arrayClass .char ∈ zb_T ∧ Cond.arrayClass .boolean ∈ zb_T ∧ Cond.arrayClass .long ∈ zb_T
def ZF : Prop := ze_CF ∧ ze_AF ∧ ZF_f ∧ ZF_p ∧ ZF_n ∧ ZF_a ∧ ZF_k ∧ ZF_kl ∧ ZF_v ∧ ZF_s ∧ ZF_i ∧ ZF_o ∧ ZF_y ∧ ZF_r
theorem ze_a0 : (100, FieldType.int) ∈ ze_arr := by decide +kernel
theorem ze_a1 : (101, FieldType.char) ∈ ze_arr := by decide +kernel
theorem ze_a4 : (104, FieldType.boolean) ∈ ze_arr := by decide +kernel
theorem ze_a5 : (150, FieldType.long) ∈ ze_arr := by decide +kernel
theorem ze_a9 : (209, FieldType.object "ConfettiMinutes$Town") ∈ ze_arr := by decide +kernel
theorem ze_aa : ∀ kd ∈ ze_ka, 100 ≤ kd ∧ ∃ ty, (kd, ty) ∈ ze_arr := by
  intro kd h
  have h : kd ∈ [100, 101, 104, 150, 209] := h
  simp only [List.mem_cons, List.not_mem_nil, or_false] at h
  rcases h with rfl | rfl | rfl | rfl | rfl
  · exact ⟨by decide, _, ze_a0⟩
  · exact ⟨by decide, _, ze_a1⟩
  · exact ⟨by decide, _, ze_a4⟩
  · exact ⟨by decide, _, ze_a5⟩
  · exact ⟨by decide, _, ze_a9⟩
theorem zk_and {a b : Bool} (h : (a && b) = true) : a = true ∧ b = true := by
  cases a <;> cases b <;> first | exact ⟨rfl, rfl⟩ | cases h
theorem zk_or {a b : Bool} (h : (a || b) = true) : a = true ∨ b = true := by
  cases a <;> cases b <;> first | exact Or.inl rfl | exact Or.inr rfl | cases h
theorem ze_dr_spec {f : List ECE → Bool} : ∀ (n : Nat) (cs : List ECE), ze_dr f n cs = true → ∃ r, ze_drop n cs = some r ∧ f r = true := by
  intro n
  induction n with
  | zero => intro cs h; exact ⟨cs, rfl, h⟩
  | succ n ih =>
    intro cs h
    cases cs with
    | nil => cases h
    | cons e r => exact ih r h
theorem ze_jp_spec {jt : List (List ECE)} {a : Nat} {f : List ECE → Bool} (h : ze_jp jt a f = true) : ∃ cs, ze_tgt jt a = some cs ∧ f cs = true := by
  obtain ⟨c0, h1, h2⟩ := ze_n_spec _ _ _ h
  obtain ⟨r, h3, h4⟩ := ze_dr_spec _ _ h2
  have h1 : jt[a / 16]? = some c0 := h1
  refine ⟨r, ?_, h4⟩
  unfold ze_tgt
  rw [h1]
  exact h3
section ZV
variable {o nL : Nat} {cc : ByteArray} {rt : Option FieldType} {ini : Bool} {jt : List (List ECE)}
theorem zk_tail {e9 : ECE} {r : List ECE} (h : zk_code o cc nL rt ini jt (e9 :: r) = true) : zk_do e9.1 o cc nL rt ini jt e9.2.1 e9.2.2.1 e9.2.2.2.1 e9.2.2.2.2.1 e9.2.2.2.2.2 r = true ∧ zk_code o cc nL rt ini jt r = true := ze_condf h
theorem zk_drop : ∀ (n : Nat) (cs r : List ECE), zk_code o cc nL rt ini jt cs = true → ze_drop n cs = some r → zk_code o cc nL rt ini jt r = true := by
  intro n
  induction n with
  | zero => intro cs r h e9; cases e9; exact h
  | succ n ih =>
    intro cs r h e9
    cases cs with
    | nil => cases e9
    | cons e8 t => exact ih t r (zk_tail h).2 e9
theorem zk_nx {r : List ECE} {pc : Nat} (hV : zk_code o cc nL rt ini jt r = true) (h : zk_n r pc = true) : ze_at (fun cs => zk_code o cc nL rt ini jt cs = true) r pc := by
  cases r with
  | nil => cases h
  | cons e9 t => exact ⟨hV, e9, t, rfl, ze_beq h⟩
theorem zk_to (hjt : ∀ cs ∈ jt, zk_code o cc nL rt ini jt cs = true) {a pc : Nat} {off : Int} (h : zk_jm jt pc off a = true) : ∃ tgt : Nat, (pc : Int) + off = (tgt : Int) ∧ ∀ f : List ECE → Bool, ze_jp jt a f = true → ∃ cs, f cs = true ∧ ze_at (fun cs => zk_code o cc nL rt ini jt cs = true) cs tgt := by
  unfold zk_jm at h
  split at h
  · rename_i e9 t9 ht
    refine ⟨e9.2.1, of_decide_eq_true h, fun f hf => ?_⟩
    obtain ⟨cs, h1, h2⟩ := ze_jp_spec hf
    have hcs : cs = e9 :: t9 := by rw [ht] at h1; exact (Option.some.inj h1).symm
    subst hcs
    refine ⟨_, h2, ?_, e9, t9, rfl, rfl⟩
    unfold ze_tgt at ht
    cases hj : jt[a / 16]? with
    | none => rw [hj] at ht; cases ht
    | some c0 =>
      rw [hj] at ht
      exact zk_drop _ c0 _ (hjt c0 (List.mem_of_getElem? hj)) ht
  · cases h
end ZV
theorem zk_dec {cc : ByteArray} {pc len : Nat} {i : Jvm.ClassFile.Instr} (h : zk_d cc pc i len = true) : decode cc pc = .ok (i, len) := of_decide_eq_true h
theorem zk_dex {cc : ByteArray} {pc : Nat} {i : Jvm.ClassFile.Instr} (h : zk_de cc pc i = true) : ∃ len, decode cc pc = .ok (i, len) := by
  unfold zk_de at h
  split at h
  · rename_i q hq
    have := of_decide_eq_true h
    subst this
    exact ⟨q.2, hq⟩
  · cases h
theorem zi_div0 {y0 : Nat} (h : Nat.beq (Nat.mod y0 4294967296) 0 = false) : ¬ nI y0 = 0 := by
  intro q
  have h2 := ze_nbeq h
  have h3 := ze_tn y0
  rw [q] at h3
  exact h2 (show y0 % 4294967296 = 0 by rw [← h3]; rfl)
theorem zi_ldiv0 {y0 : Nat} (h : Nat.beq (Nat.mod y0 18446744073709551616) 0 = false) : ¬ lN y0 = 0 := by
  intro q
  have h2 := ze_nbeq h
  have h3 : (lN y0).toBitVec.toNat = y0 % 18446744073709551616 := by
    show (BitVec.ofNat 64 y0).toNat = _
    rw [BitVec.toNat_ofNat]
  rw [q] at h3
  exact h2 (show y0 % 18446744073709551616 = 0 by rw [← h3]; rfl)
/-- a switch's target -/
theorem zk_ttok {o nL : Nat} {cc : ByteArray} {rt : Option FieldType} {ini : Bool} {jt : List (List ECE)} (hjt : ∀ cs ∈ jt, zk_code o cc nL rt ini jt cs = true) {pc a : Nat} {z : Nat} : ∀ (offs : List Int) (lo : Int) (tl : List Nat), zk_tt jt pc lo offs tl = true →
    ((z : Int) - 2147483648 < lo ∨ lo + offs.length ≤ (z : Int) - 2147483648 → ze_tg z a tl false 0 = a) ∧ (lo ≤ (z : Int) - 2147483648 → (z : Int) - 2147483648 < lo + offs.length → ∃ off, offs[((z : Int) - 2147483648 - lo).toNat]? = some off ∧ zk_jm jt pc off (ze_tg z a tl false 0) = true) := by
  intro offs
  induction offs with
  | nil =>
    intro lo tl h
    cases tl with
    | nil => exact ⟨fun _ => rfl, fun h1 h2 => by simp at h2; omega⟩
    | cons x t => cases h
  | cons f os ih =>
    intro lo tl h
    match tl, h with
    | [], h => cases h
    | [x], h => cases h
    | x :: t :: ts, h =>
      obtain ⟨h1, h3⟩ := zk_and (show (decide ((x : Int) = lo + 2147483648) && zk_jm jt pc f t && zk_tt jt pc (lo + 1) os ts) = true from h)
      obtain ⟨h1, h2⟩ := zk_and h1
      have h1 := of_decide_eq_true h1
      obtain ⟨i1, i2⟩ := ih (lo + 1) ts h3
      have et : ze_tg z a (x :: t :: ts) false 0 = cond (Nat.beq x z) t (ze_tg z a ts false 0) := rfl
      rw [et]
      cases hb : Nat.beq x z with
      | true =>
        have hb := ze_beq hb
        refine ⟨fun h9 => ?_, fun h8 h9 => ?_⟩
        · simp at h9; omega
        · refine ⟨f, ?_, h2⟩
          rw [show ((z : Int) - 2147483648 - lo).toNat = 0 by omega]
          rfl
      | false =>
        have hb := ze_nbeq hb
        refine ⟨fun h9 => i1 ?_, fun h8 h9 => ?_⟩
        · simp at h9; omega
        · obtain ⟨off, j1, j2⟩ := i2 (by omega) (by simp at h9; omega)
          refine ⟨off, ?_, j2⟩
          rw [show ((z : Int) - 2147483648 - lo).toNat = ((z : Int) - 2147483648 - (lo + 1)).toNat + 1 by omega]
          exact j1
theorem zk_ltok {jt : List (List ECE)} {pc a : Nat} {x : Int32} {d : Int} (hd : zk_jm jt pc d a = true) : ∀ (ps : List (Int × Int)) (tl : List Nat), zk_lt jt pc ps tl = true → zk_jm jt pc (Op.lookupswitch.offset ps d x.toInt) (ze_tg (ze_b x) a tl false 0) = true := by
  intro ps
  induction ps with
  | nil =>
    intro tl h
    cases tl with
    | nil => exact hd
    | cons y t => cases h
  | cons q ps ih =>
    intro tl h
    match tl, h with
    | [], h => cases h
    | [y], h => cases h
    | y :: t :: ts, h =>
      obtain ⟨h1, h3⟩ := zk_and (show (decide ((y : Int) = q.1 + 2147483648) && zk_jm jt pc q.2 t && zk_lt jt pc ps ts) = true from h)
      obtain ⟨h1, h2⟩ := zk_and h1
      have h1 := of_decide_eq_true h1
      have hb9 := ze_b_int x
      have et : ze_tg (ze_b x) a (y :: t :: ts) false 0 = cond (Nat.beq y (ze_b x)) t (ze_tg (ze_b x) a ts false 0) := rfl
      obtain ⟨qa, qo⟩ := q
      rw [et, Op.lookupswitch.offset_cons]
      cases hb : Nat.beq y (ze_b x) with
      | true =>
        have hb := ze_beq hb
        rw [if_pos (by show qa = x.toInt; have h1 : (y : Int) = qa + 2147483648 := h1; omega)]
        exact h2
      | false =>
        have hb := ze_nbeq hb
        rw [if_neg (by show ¬ qa = x.toInt; have h1 : (y : Int) = qa + 2147483648 := h1; omega)]
        exact ih ts h3
end
section
theorem ze_rr_spec : ∀ (n : Nat) (st pop rest : List EV), ze_rr n st = true → st = pop ++ rest → pop.length = n + 1 → ∃ q, pop.reverse.head? = some (eR q) := by
  intro n
  induction n with
  | zero =>
    intro st pop rest h e1 e2
    subst e1
    rcases pop with _ | ⟨v, t⟩
    · simp at e2
    rcases t with _ | ⟨v2, t⟩
    · rcases v with u | ((q | u) | x)
      · cases h
      · exact ⟨q, rfl⟩
      · cases h
      · cases h
    · simp at e2
  | succ n ih =>
    intro st pop rest h e1 e2
    subst e1
    rcases pop with _ | ⟨v, t⟩
    · simp at e2
    obtain ⟨q, hq⟩ := ih (t ++ rest) t rest h rfl (by simpa using e2)
    refine ⟨q, ?_⟩
    rw [List.reverse_cons]
    cases ht : t.reverse with
    | nil => rw [ht] at hq; cases hq
    | cons a b => rw [ht] at hq; exact hq
section ZZ
variable {p : Program} {l : Launch} {e : Env} {R : Room} {s : State} {m : MethodId} {args : Array Value} {below : List Frame} {meth : Method} {c : Code} {Q : State → Prop}
variable {z0 : List Int32 × List Nat} {dC : Nat → ClassId} {dI : Nat → Nat → Nat} {dA : Nat → ClassId} {sp : Nat → Nat} {xs : Nat → Int32} {A : Nat → Prop} {o nL d : Nat} {cc : ByteArray} {rt : Option FieldType} {ini : Bool} {jt : List (List ECE)}
variable {kk : EKn} {k : ERt} {cal : ECal} {mc ms pc ca cb cd nc ns : Nat} {r : List ECE} {tl : List Nat} {ls st : List EV} {w : EW} {g : EG} {ρ : List Int32} {ws : va_W} {H : Heap} {locs : List Loc} {la : Array Slot} {vs : List Value}
/-- what holds in a method while its rows run -/
def ze_Fx (p : Program) (l : Launch) (R : Room) (s : State) (m : MethodId) (args : Array Value) (meth : Method) (c : Code) (dC : Nat → ClassId) (dI : Nat → Nat → Nat) (dA : Nat → ClassId) (sp : Nat → Nat) (xs : Nat → Int32) (A : Nat → Prop) (o nL d : Nat) (cc : ByteArray) (rt : Option FieldType) (ini : Bool) (jt : List (List ECE)) (cal : ECal) (mc ms : Nat) : Prop :=
  ZF ∧ p.tables.exec = Jvm.exec ∧ c.code = cc ∧ c.maxLocals = nL ∧ s.vm.findClass (zn o) = some m.cls ∧ ze_K dC dI dA s ∧ ze_X sp xs A s ∧ (∀ q, s.heap.size ≤ q → A q) ∧ (∀ w ∈ zb_T, w.before args s = true) ∧ (R.cells = mc ∧ R.slots = ms) ∧ (d + 1 ≤ R.frames ∧ 70 * (d + 1) ≤ R.locals) ∧ (ini = true → meth.name = "<init>") ∧
  (∀ y q, zm y = some q → ze_Cal l dC dI dA sp xs A cal y d q.1 q.2.1 q.2.2.1 q.2.2.2.1 q.2.2.2.2.2.1 q.2.2.2.2.2.2) ∧ ∀ cs ∈ jt, zk_code o cc nL rt ini jt cs = true
/-- what holds at its ends -/
def ze_Re (p : Program) (l : Launch) (e : Env) (R : Room) (s : State) (m : MethodId) (args : Array Value) (below : List Frame) (meth : Method) (c : Code) (Q : State → Prop) (z0 : List Int32 × List Nat) (dC : Nat → ClassId) (dI : Nat → Nat → Nat) (dA : Nat → ClassId) (sp : Nat → Nat) (xs : Nat → Int32) (A : Nat → Prop) (nL : Nat) (cc : ByteArray) (rt : Option FieldType) (k : ERt) (mc ms : Nat) : Prop :=
  ∀ (pc nc ns : Nat) (ls st : List EV) (w : EW) (g : EG) (ρ : List Int32) (ws : va_W) (H : Heap) (locs : List Loc) (la : Array Slot) (vs : List Value), ze_H z0 dC dI dA sp xs A s nL ls st w g ρ ws H locs la vs → nc ≤ mc → ns ≤ ms →
    (∀ (u : Nat ⊕ Nat) (x : Int32) (ty : FieldType), st = [.inl u] → vs = [.int x] → k (some (.inl u)) w g = true → decode cc pc = .ok (.ireturn, 1) → rt = some ty → narrow ty (.int x) = .int x → W p l e R s m args below meth c H locs nc ns Q (F0 m pc la vs)) ∧
    (∀ (u : Nat ⊕ Nat) (x : Int64), st = [.inr (.inl (.inr u))] → vs = [.long x] → k (some (.inr (.inl (.inr u)))) w g = true → decode cc pc = .ok (.lreturn, 1) → rt = some .long → W p l e R s m args below meth c H locs nc ns Q (F0 m pc la vs)) ∧
    (∀ (u a : Nat) (ty : FieldType), st = [.inr (.inl (.inl u))] → vs = [.ref a] → k (some (.inr (.inl (.inl u)))) w g = true → decode cc pc = .ok (.areturn, 1) → rt = some ty → ((∃ n, ty = .object n) ∨ ∃ t, ty = .array t) → W p l e R s m args below meth c H locs nc ns Q (F0 m pc la vs)) ∧
    (st = [] → vs = [] → k none w g = true → decode cc pc = .ok (.return_, 1) → rt = none → W p l e R s m args below meth c H locs nc ns Q (F0 m pc la vs))

theorem zz_iadd  (hF : ze_Fx p l R s m args meth c dC dI dA sp xs A o nL d cc rt ini jt cal mc ms) (hK : ze_KK p l e R s m args below meth c Q z0 dC dI dA sp xs A nL (fun cs => zk_code o cc nL rt ini jt cs = true) kk) (hV : zk_code o cc nL rt ini jt r = true) (hH : ze_H z0 dC dI dA sp xs A s nL ls st w g ρ ws H locs la vs) (hr : zk_s .iadd o cc nL rt ini jt pc ca cb cd tl r = true) (h : zo_iadd r ca cb cd tl (ze_jp jt) kk k cal mc ms ls st w g nc ns = true) : W p l e R s m args below meth c H locs nc ns Q (F0 m pc la vs) := by
  obtain ⟨hZ, hx, hb, hml, hown, hKs, hsc, hA, hts, hR, hRd, hin, hcal, hjt⟩ := hF
  obtain ⟨h1, h2⟩ := zk_and hr
  have hd := zk_dec h1
  have hn := zk_nx hV h2
  exact zs_bin (fun x y => x + y) hK (fun a b => ze_add a b) (fun v1 v2 x y _ _ => zs_top v1 v2 _) hn h hH (fun x y rest _ k9 => lv_iadd hx hb hd k9)

theorem zz_isub  (hF : ze_Fx p l R s m args meth c dC dI dA sp xs A o nL d cc rt ini jt cal mc ms) (hK : ze_KK p l e R s m args below meth c Q z0 dC dI dA sp xs A nL (fun cs => zk_code o cc nL rt ini jt cs = true) kk) (hV : zk_code o cc nL rt ini jt r = true) (hH : ze_H z0 dC dI dA sp xs A s nL ls st w g ρ ws H locs la vs) (hr : zk_s .isub o cc nL rt ini jt pc ca cb cd tl r = true) (h : zo_isub r ca cb cd tl (ze_jp jt) kk k cal mc ms ls st w g nc ns = true) : W p l e R s m args below meth c H locs nc ns Q (F0 m pc la vs) := by
  obtain ⟨hZ, hx, hb, hml, hown, hKs, hsc, hA, hts, hR, hRd, hin, hcal, hjt⟩ := hF
  obtain ⟨h1, h2⟩ := zk_and hr
  have hd := zk_dec h1
  have hn := zk_nx hV h2
  exact zs_bin (fun x y => x - y) hK (fun a b => ze_sub a b) (fun v1 v2 x y a b => zi_sub hH.1 v1 v2 x y a b) hn h hH (fun x y rest _ k9 => lv_isub hx hb hd k9)

theorem zz_imul  (hF : ze_Fx p l R s m args meth c dC dI dA sp xs A o nL d cc rt ini jt cal mc ms) (hK : ze_KK p l e R s m args below meth c Q z0 dC dI dA sp xs A nL (fun cs => zk_code o cc nL rt ini jt cs = true) kk) (hV : zk_code o cc nL rt ini jt r = true) (hH : ze_H z0 dC dI dA sp xs A s nL ls st w g ρ ws H locs la vs) (hr : zk_s .imul o cc nL rt ini jt pc ca cb cd tl r = true) (h : zo_imul r ca cb cd tl (ze_jp jt) kk k cal mc ms ls st w g nc ns = true) : W p l e R s m args below meth c H locs nc ns Q (F0 m pc la vs) := by
  obtain ⟨hZ, hx, hb, hml, hown, hKs, hsc, hA, hts, hR, hRd, hin, hcal, hjt⟩ := hF
  obtain ⟨h1, h2⟩ := zk_and hr
  have hd := zk_dec h1
  have hn := zk_nx hV h2
  exact zs_bin (fun x y => x * y) hK (fun a b => ze_mul a b) (fun v1 v2 x y _ _ => zs_top v1 v2 _) hn h hH (fun x y rest _ k9 => lv_imul hx hb hd k9)

theorem zz_iand  (hF : ze_Fx p l R s m args meth c dC dI dA sp xs A o nL d cc rt ini jt cal mc ms) (hK : ze_KK p l e R s m args below meth c Q z0 dC dI dA sp xs A nL (fun cs => zk_code o cc nL rt ini jt cs = true) kk) (hV : zk_code o cc nL rt ini jt r = true) (hH : ze_H z0 dC dI dA sp xs A s nL ls st w g ρ ws H locs la vs) (hr : zk_s .iand o cc nL rt ini jt pc ca cb cd tl r = true) (h : zo_iand r ca cb cd tl (ze_jp jt) kk k cal mc ms ls st w g nc ns = true) : W p l e R s m args below meth c H locs nc ns Q (F0 m pc la vs) := by
  obtain ⟨hZ, hx, hb, hml, hown, hKs, hsc, hA, hts, hR, hRd, hin, hcal, hjt⟩ := hF
  obtain ⟨h1, h2⟩ := zk_and hr
  have hd := zk_dec h1
  have hn := zk_nx hV h2
  exact zs_bin (fun x y => x &&& y) hK (fun a b => zs_c2 (fun x y => x &&& y) a b) (fun v1 v2 x y a b => zi_and v1 v2 x y a b) hn h hH (fun x y rest _ k9 => lv_iand hx hb hd k9)

theorem zz_ior  (hF : ze_Fx p l R s m args meth c dC dI dA sp xs A o nL d cc rt ini jt cal mc ms) (hK : ze_KK p l e R s m args below meth c Q z0 dC dI dA sp xs A nL (fun cs => zk_code o cc nL rt ini jt cs = true) kk) (hV : zk_code o cc nL rt ini jt r = true) (hH : ze_H z0 dC dI dA sp xs A s nL ls st w g ρ ws H locs la vs) (hr : zk_s .ior o cc nL rt ini jt pc ca cb cd tl r = true) (h : zo_ior r ca cb cd tl (ze_jp jt) kk k cal mc ms ls st w g nc ns = true) : W p l e R s m args below meth c H locs nc ns Q (F0 m pc la vs) := by
  obtain ⟨hZ, hx, hb, hml, hown, hKs, hsc, hA, hts, hR, hRd, hin, hcal, hjt⟩ := hF
  obtain ⟨h1, h2⟩ := zk_and hr
  have hd := zk_dec h1
  have hn := zk_nx hV h2
  exact zs_bin (fun x y => x ||| y) hK (fun a b => zs_c2 (fun x y => x ||| y) a b) (fun v1 v2 x y _ _ => zs_top v1 v2 _) hn h hH (fun x y rest _ k9 => lv_ior hx hb hd k9)

theorem zz_ixor  (hF : ze_Fx p l R s m args meth c dC dI dA sp xs A o nL d cc rt ini jt cal mc ms) (hK : ze_KK p l e R s m args below meth c Q z0 dC dI dA sp xs A nL (fun cs => zk_code o cc nL rt ini jt cs = true) kk) (hV : zk_code o cc nL rt ini jt r = true) (hH : ze_H z0 dC dI dA sp xs A s nL ls st w g ρ ws H locs la vs) (hr : zk_s .ixor o cc nL rt ini jt pc ca cb cd tl r = true) (h : zo_ixor r ca cb cd tl (ze_jp jt) kk k cal mc ms ls st w g nc ns = true) : W p l e R s m args below meth c H locs nc ns Q (F0 m pc la vs) := by
  obtain ⟨hZ, hx, hb, hml, hown, hKs, hsc, hA, hts, hR, hRd, hin, hcal, hjt⟩ := hF
  obtain ⟨h1, h2⟩ := zk_and hr
  have hd := zk_dec h1
  have hn := zk_nx hV h2
  exact zs_bin (fun x y => x ^^^ y) hK (fun a b => zs_c2 (fun x y => x ^^^ y) a b) (fun v1 v2 x y _ _ => zs_top v1 v2 _) hn h hH (fun x y rest _ k9 => lv_ixor hx hb hd k9)

theorem zz_ishl  (hF : ze_Fx p l R s m args meth c dC dI dA sp xs A o nL d cc rt ini jt cal mc ms) (hK : ze_KK p l e R s m args below meth c Q z0 dC dI dA sp xs A nL (fun cs => zk_code o cc nL rt ini jt cs = true) kk) (hV : zk_code o cc nL rt ini jt r = true) (hH : ze_H z0 dC dI dA sp xs A s nL ls st w g ρ ws H locs la vs) (hr : zk_s .ishl o cc nL rt ini jt pc ca cb cd tl r = true) (h : zo_ishl r ca cb cd tl (ze_jp jt) kk k cal mc ms ls st w g nc ns = true) : W p l e R s m args below meth c H locs nc ns Q (F0 m pc la vs) := by
  obtain ⟨hZ, hx, hb, hml, hown, hKs, hsc, hA, hts, hR, hRd, hin, hcal, hjt⟩ := hF
  obtain ⟨h1, h2⟩ := zk_and hr
  have hd := zk_dec h1
  have hn := zk_nx hV h2
  exact zs_bin (fun x y => x <<< (y &&& 31)) hK (fun a b => zs_c2 (fun x y => x <<< (y &&& 31)) a b) (fun v1 v2 x y _ _ => zs_top v1 v2 _) hn h hH (fun x y rest _ k9 => lv_ishl hx hb hd k9)

theorem zz_ishr  (hF : ze_Fx p l R s m args meth c dC dI dA sp xs A o nL d cc rt ini jt cal mc ms) (hK : ze_KK p l e R s m args below meth c Q z0 dC dI dA sp xs A nL (fun cs => zk_code o cc nL rt ini jt cs = true) kk) (hV : zk_code o cc nL rt ini jt r = true) (hH : ze_H z0 dC dI dA sp xs A s nL ls st w g ρ ws H locs la vs) (hr : zk_s .ishr o cc nL rt ini jt pc ca cb cd tl r = true) (h : zo_ishr r ca cb cd tl (ze_jp jt) kk k cal mc ms ls st w g nc ns = true) : W p l e R s m args below meth c H locs nc ns Q (F0 m pc la vs) := by
  obtain ⟨hZ, hx, hb, hml, hown, hKs, hsc, hA, hts, hR, hRd, hin, hcal, hjt⟩ := hF
  obtain ⟨h1, h2⟩ := zk_and hr
  have hd := zk_dec h1
  have hn := zk_nx hV h2
  exact zs_bin (fun x y => x >>> (y &&& 31)) hK (fun a b => zs_c2 (fun x y => x >>> (y &&& 31)) a b) (fun v1 v2 x y a b => zi_shr v1 v2 x y a b) hn h hH (fun x y rest _ k9 => lv_ishr hx hb hd k9)

theorem zz_iushr  (hF : ze_Fx p l R s m args meth c dC dI dA sp xs A o nL d cc rt ini jt cal mc ms) (hK : ze_KK p l e R s m args below meth c Q z0 dC dI dA sp xs A nL (fun cs => zk_code o cc nL rt ini jt cs = true) kk) (hV : zk_code o cc nL rt ini jt r = true) (hH : ze_H z0 dC dI dA sp xs A s nL ls st w g ρ ws H locs la vs) (hr : zk_s .iushr o cc nL rt ini jt pc ca cb cd tl r = true) (h : zo_iushr r ca cb cd tl (ze_jp jt) kk k cal mc ms ls st w g nc ns = true) : W p l e R s m args below meth c H locs nc ns Q (F0 m pc la vs) := by
  obtain ⟨hZ, hx, hb, hml, hown, hKs, hsc, hA, hts, hR, hRd, hin, hcal, hjt⟩ := hF
  obtain ⟨h1, h2⟩ := zk_and hr
  have hd := zk_dec h1
  have hn := zk_nx hV h2
  exact zs_bin (fun x y => (x.toUInt32 >>> (y.toUInt32 &&& Int32.toUInt32 31)).toInt32) hK (fun a b => zs_c2 (fun x y => (x.toUInt32 >>> (y.toUInt32 &&& Int32.toUInt32 31)).toInt32) a b) (fun v1 v2 x y a b => zi_ush v1 v2 x y a b) hn h hH (fun x y rest _ k9 => lv_iushr hx hb hd rfl k9)

theorem zz_idiv  (hF : ze_Fx p l R s m args meth c dC dI dA sp xs A o nL d cc rt ini jt cal mc ms) (hK : ze_KK p l e R s m args below meth c Q z0 dC dI dA sp xs A nL (fun cs => zk_code o cc nL rt ini jt cs = true) kk) (hV : zk_code o cc nL rt ini jt r = true) (hH : ze_H z0 dC dI dA sp xs A s nL ls st w g ρ ws H locs la vs) (hr : zk_s .idiv o cc nL rt ini jt pc ca cb cd tl r = true) (h : zo_idiv r ca cb cd tl (ze_jp jt) kk k cal mc ms ls st w g nc ns = true) : W p l e R s m args below meth c H locs nc ns Q (F0 m pc la vs) := by
  obtain ⟨hZ, hx, hb, hml, hown, hKs, hsc, hA, hts, hR, hRd, hin, hcal, hjt⟩ := hF
  obtain ⟨h1, h2⟩ := zk_and hr
  have hd := zk_dec h1
  have hn := zk_nx hV h2
  rcases st with _ | ⟨v2, rest⟩
  · cases h
  · obtain ⟨y1, r1, e1, V1, -⟩ := hH.2.2.2.2.2.2.2.cons
    obtain ⟨x1, ex, hy⟩ := ze_rs_spec (show ze_rs g v2 _ _ = true from h) hH.1 V1
    rcases hy with ⟨y0, ey, hy⟩ | ⟨_, _, _, hy⟩
    · rcases ze_cond hy with ⟨_, q⟩ | ⟨q1, q2⟩
      · cases q
      · refine zs_bin (fun x y => x / y) hK (fun a b => zs_c2 (fun x y => x / y) a b) (fun v1 v2 x y _ _ => zs_top v1 v2 _) hn q2 hH (fun x y rest e9 k9 => lv_idiv hx hb hd ?_ k9)
        have e8 : y = x1 := by
          rw [e1] at e9
          have := (List.cons.inj e9).1
          rw [ex] at this
          exact (Value.int.inj this).symm
        rw [e8, ey]
        exact zi_div0 q1
    · cases hy

theorem zz_irem  (hF : ze_Fx p l R s m args meth c dC dI dA sp xs A o nL d cc rt ini jt cal mc ms) (hK : ze_KK p l e R s m args below meth c Q z0 dC dI dA sp xs A nL (fun cs => zk_code o cc nL rt ini jt cs = true) kk) (hV : zk_code o cc nL rt ini jt r = true) (hH : ze_H z0 dC dI dA sp xs A s nL ls st w g ρ ws H locs la vs) (hr : zk_s .irem o cc nL rt ini jt pc ca cb cd tl r = true) (h : zo_irem r ca cb cd tl (ze_jp jt) kk k cal mc ms ls st w g nc ns = true) : W p l e R s m args below meth c H locs nc ns Q (F0 m pc la vs) := by
  obtain ⟨hZ, hx, hb, hml, hown, hKs, hsc, hA, hts, hR, hRd, hin, hcal, hjt⟩ := hF
  obtain ⟨h1, h2⟩ := zk_and hr
  have hd := zk_dec h1
  have hn := zk_nx hV h2
  rcases st with _ | ⟨v2, rest⟩
  · cases h
  · obtain ⟨y1, r1, e1, V1, -⟩ := hH.2.2.2.2.2.2.2.cons
    obtain ⟨x1, ex, hy⟩ := ze_rs_spec (show ze_rs g v2 _ _ = true from h) hH.1 V1
    rcases hy with ⟨y0, ey, hy⟩ | ⟨_, _, _, hy⟩
    · rcases ze_cond hy with ⟨_, q⟩ | ⟨q1, q2⟩
      · cases q
      · refine zs_bin (fun x y => x - x / y * y) hK (fun a b => zs_c2 (fun x y => x - x / y * y) a b) (fun v1 v2 x y a b => zi_rem hH.1 v1 v2 x y a b) hn q2 hH (fun x y rest e9 k9 => lv_irem hx hb hd ?_ k9)
        have e8 : y = x1 := by
          rw [e1] at e9
          have := (List.cons.inj e9).1
          rw [ex] at this
          exact (Value.int.inj this).symm
        rw [e8, ey]
        exact zi_div0 q1
    · cases hy

theorem zz_ineg  (hF : ze_Fx p l R s m args meth c dC dI dA sp xs A o nL d cc rt ini jt cal mc ms) (hK : ze_KK p l e R s m args below meth c Q z0 dC dI dA sp xs A nL (fun cs => zk_code o cc nL rt ini jt cs = true) kk) (hV : zk_code o cc nL rt ini jt r = true) (hH : ze_H z0 dC dI dA sp xs A s nL ls st w g ρ ws H locs la vs) (hr : zk_s .ineg o cc nL rt ini jt pc ca cb cd tl r = true) (h : zo_ineg r ca cb cd tl (ze_jp jt) kk k cal mc ms ls st w g nc ns = true) : W p l e R s m args below meth c H locs nc ns Q (F0 m pc la vs) := by
  obtain ⟨hZ, hx, hb, hml, hown, hKs, hsc, hA, hts, hR, hRd, hin, hcal, hjt⟩ := hF
  obtain ⟨h1, h2⟩ := zk_and hr
  have hd := zk_dec h1
  have hn := zk_nx hV h2
  exact zs_un (fun x => -x) hK (fun a => (ze_e_eq _).symm) (fun x => ⟨Nat.zero_le _, ze_b_top _⟩) hn h hH (fun x rest k9 => lv_ineg hx hb hd k9)

theorem zz_i2b  (hF : ze_Fx p l R s m args meth c dC dI dA sp xs A o nL d cc rt ini jt cal mc ms) (hK : ze_KK p l e R s m args below meth c Q z0 dC dI dA sp xs A nL (fun cs => zk_code o cc nL rt ini jt cs = true) kk) (hV : zk_code o cc nL rt ini jt r = true) (hH : ze_H z0 dC dI dA sp xs A s nL ls st w g ρ ws H locs la vs) (hr : zk_s .i2b o cc nL rt ini jt pc ca cb cd tl r = true) (h : zo_i2b r ca cb cd tl (ze_jp jt) kk k cal mc ms ls st w g nc ns = true) : W p l e R s m args below meth c H locs nc ns Q (F0 m pc la vs) := by
  obtain ⟨hZ, hx, hb, hml, hown, hKs, hsc, hA, hts, hR, hRd, hin, hcal, hjt⟩ := hF
  obtain ⟨h1, h2⟩ := zk_and hr
  have hd := zk_dec h1
  have hn := zk_nx hV h2
  exact zs_un (fun x => x.toInt8.toInt32) hK (fun a => (ze_e_eq _).symm) (fun x => ⟨Nat.zero_le _, ze_b_top _⟩) hn h hH (fun x rest k9 => lv_i2b hx hb hd rfl k9)

theorem zz_i2s  (hF : ze_Fx p l R s m args meth c dC dI dA sp xs A o nL d cc rt ini jt cal mc ms) (hK : ze_KK p l e R s m args below meth c Q z0 dC dI dA sp xs A nL (fun cs => zk_code o cc nL rt ini jt cs = true) kk) (hV : zk_code o cc nL rt ini jt r = true) (hH : ze_H z0 dC dI dA sp xs A s nL ls st w g ρ ws H locs la vs) (hr : zk_s .i2s o cc nL rt ini jt pc ca cb cd tl r = true) (h : zo_i2s r ca cb cd tl (ze_jp jt) kk k cal mc ms ls st w g nc ns = true) : W p l e R s m args below meth c H locs nc ns Q (F0 m pc la vs) := by
  obtain ⟨hZ, hx, hb, hml, hown, hKs, hsc, hA, hts, hR, hRd, hin, hcal, hjt⟩ := hF
  obtain ⟨h1, h2⟩ := zk_and hr
  have hd := zk_dec h1
  have hn := zk_nx hV h2
  exact zs_un (fun x => x.toInt16.toInt32) hK (fun a => (ze_e_eq _).symm) (fun x => ⟨Nat.zero_le _, ze_b_top _⟩) hn h hH (fun x rest k9 => lv_i2s hx hb hd rfl k9)

theorem zz_i2c  (hF : ze_Fx p l R s m args meth c dC dI dA sp xs A o nL d cc rt ini jt cal mc ms) (hK : ze_KK p l e R s m args below meth c Q z0 dC dI dA sp xs A nL (fun cs => zk_code o cc nL rt ini jt cs = true) kk) (hV : zk_code o cc nL rt ini jt r = true) (hH : ze_H z0 dC dI dA sp xs A s nL ls st w g ρ ws H locs la vs) (hr : zk_s .i2c o cc nL rt ini jt pc ca cb cd tl r = true) (h : zo_i2c r ca cb cd tl (ze_jp jt) kk k cal mc ms ls st w g nc ns = true) : W p l e R s m args below meth c H locs nc ns Q (F0 m pc la vs) := by
  obtain ⟨hZ, hx, hb, hml, hown, hKs, hsc, hA, hts, hR, hRd, hin, hcal, hjt⟩ := hF
  obtain ⟨h1, h2⟩ := zk_and hr
  have hd := zk_dec h1
  have hn := zk_nx hV h2
  exact zs_un (fun x => (x.toUInt32 % 65536).toInt32) hK (fun a => (ze_e_eq _).symm) (fun x => ⟨Nat.zero_le _, ze_b_top _⟩) hn h hH (fun x rest k9 => lv_i2c hx hb hd rfl k9)

theorem zz_i2l  (hF : ze_Fx p l R s m args meth c dC dI dA sp xs A o nL d cc rt ini jt cal mc ms) (hK : ze_KK p l e R s m args below meth c Q z0 dC dI dA sp xs A nL (fun cs => zk_code o cc nL rt ini jt cs = true) kk) (hV : zk_code o cc nL rt ini jt r = true) (hH : ze_H z0 dC dI dA sp xs A s nL ls st w g ρ ws H locs la vs) (hr : zk_s .i2l o cc nL rt ini jt pc ca cb cd tl r = true) (h : zo_i2l r ca cb cd tl (ze_jp jt) kk k cal mc ms ls st w g nc ns = true) : W p l e R s m args below meth c H locs nc ns Q (F0 m pc la vs) := by
  obtain ⟨hZ, hx, hb, hml, hown, hKs, hsc, hA, hts, hR, hRd, hin, hcal, hjt⟩ := hF
  obtain ⟨h1, h2⟩ := zk_and hr
  have hd := zk_dec h1
  have hn := zk_nx hV h2
  exact zs_i2l hK hn h hH (fun x rest k9 => lv_i2l hx hb hd rfl k9)

theorem zz_l2i  (hF : ze_Fx p l R s m args meth c dC dI dA sp xs A o nL d cc rt ini jt cal mc ms) (hK : ze_KK p l e R s m args below meth c Q z0 dC dI dA sp xs A nL (fun cs => zk_code o cc nL rt ini jt cs = true) kk) (hV : zk_code o cc nL rt ini jt r = true) (hH : ze_H z0 dC dI dA sp xs A s nL ls st w g ρ ws H locs la vs) (hr : zk_s .l2i o cc nL rt ini jt pc ca cb cd tl r = true) (h : zo_l2i r ca cb cd tl (ze_jp jt) kk k cal mc ms ls st w g nc ns = true) : W p l e R s m args below meth c H locs nc ns Q (F0 m pc la vs) := by
  obtain ⟨hZ, hx, hb, hml, hown, hKs, hsc, hA, hts, hR, hRd, hin, hcal, hjt⟩ := hF
  obtain ⟨h1, h2⟩ := zk_and hr
  have hd := zk_dec h1
  have hn := zk_nx hV h2
  exact zs_l2i hK hn h hH (fun x rest k9 => lv_l2i hx hb hd rfl k9)

theorem zz_ladd  (hF : ze_Fx p l R s m args meth c dC dI dA sp xs A o nL d cc rt ini jt cal mc ms) (hK : ze_KK p l e R s m args below meth c Q z0 dC dI dA sp xs A nL (fun cs => zk_code o cc nL rt ini jt cs = true) kk) (hV : zk_code o cc nL rt ini jt r = true) (hH : ze_H z0 dC dI dA sp xs A s nL ls st w g ρ ws H locs la vs) (hr : zk_s .ladd o cc nL rt ini jt pc ca cb cd tl r = true) (h : zo_ladd r ca cb cd tl (ze_jp jt) kk k cal mc ms ls st w g nc ns = true) : W p l e R s m args below meth c H locs nc ns Q (F0 m pc la vs) := by
  obtain ⟨hZ, hx, hb, hml, hown, hKs, hsc, hA, hts, hR, hRd, hin, hcal, hjt⟩ := hF
  obtain ⟨h1, h2⟩ := zk_and hr
  have hd := zk_dec h1
  have hn := zk_nx hV h2
  exact zs_lb (fun x y => x + y) hK hn h hH (fun x y rest _ k9 => lv_ladd hx hb hd k9)

theorem zz_lsub  (hF : ze_Fx p l R s m args meth c dC dI dA sp xs A o nL d cc rt ini jt cal mc ms) (hK : ze_KK p l e R s m args below meth c Q z0 dC dI dA sp xs A nL (fun cs => zk_code o cc nL rt ini jt cs = true) kk) (hV : zk_code o cc nL rt ini jt r = true) (hH : ze_H z0 dC dI dA sp xs A s nL ls st w g ρ ws H locs la vs) (hr : zk_s .lsub o cc nL rt ini jt pc ca cb cd tl r = true) (h : zo_lsub r ca cb cd tl (ze_jp jt) kk k cal mc ms ls st w g nc ns = true) : W p l e R s m args below meth c H locs nc ns Q (F0 m pc la vs) := by
  obtain ⟨hZ, hx, hb, hml, hown, hKs, hsc, hA, hts, hR, hRd, hin, hcal, hjt⟩ := hF
  obtain ⟨h1, h2⟩ := zk_and hr
  have hd := zk_dec h1
  have hn := zk_nx hV h2
  exact zs_lb (fun x y => x - y) hK hn h hH (fun x y rest _ k9 => lv_lsub hx hb hd k9)

theorem zz_lmul  (hF : ze_Fx p l R s m args meth c dC dI dA sp xs A o nL d cc rt ini jt cal mc ms) (hK : ze_KK p l e R s m args below meth c Q z0 dC dI dA sp xs A nL (fun cs => zk_code o cc nL rt ini jt cs = true) kk) (hV : zk_code o cc nL rt ini jt r = true) (hH : ze_H z0 dC dI dA sp xs A s nL ls st w g ρ ws H locs la vs) (hr : zk_s .lmul o cc nL rt ini jt pc ca cb cd tl r = true) (h : zo_lmul r ca cb cd tl (ze_jp jt) kk k cal mc ms ls st w g nc ns = true) : W p l e R s m args below meth c H locs nc ns Q (F0 m pc la vs) := by
  obtain ⟨hZ, hx, hb, hml, hown, hKs, hsc, hA, hts, hR, hRd, hin, hcal, hjt⟩ := hF
  obtain ⟨h1, h2⟩ := zk_and hr
  have hd := zk_dec h1
  have hn := zk_nx hV h2
  exact zs_lb (fun x y => x * y) hK hn h hH (fun x y rest _ k9 => lv_lmul hx hb hd k9)

theorem zz_land  (hF : ze_Fx p l R s m args meth c dC dI dA sp xs A o nL d cc rt ini jt cal mc ms) (hK : ze_KK p l e R s m args below meth c Q z0 dC dI dA sp xs A nL (fun cs => zk_code o cc nL rt ini jt cs = true) kk) (hV : zk_code o cc nL rt ini jt r = true) (hH : ze_H z0 dC dI dA sp xs A s nL ls st w g ρ ws H locs la vs) (hr : zk_s .land o cc nL rt ini jt pc ca cb cd tl r = true) (h : zo_land r ca cb cd tl (ze_jp jt) kk k cal mc ms ls st w g nc ns = true) : W p l e R s m args below meth c H locs nc ns Q (F0 m pc la vs) := by
  obtain ⟨hZ, hx, hb, hml, hown, hKs, hsc, hA, hts, hR, hRd, hin, hcal, hjt⟩ := hF
  obtain ⟨h1, h2⟩ := zk_and hr
  have hd := zk_dec h1
  have hn := zk_nx hV h2
  exact zs_lb (fun x y => x &&& y) hK hn h hH (fun x y rest _ k9 => lv_land hx hb hd k9)

theorem zz_lor  (hF : ze_Fx p l R s m args meth c dC dI dA sp xs A o nL d cc rt ini jt cal mc ms) (hK : ze_KK p l e R s m args below meth c Q z0 dC dI dA sp xs A nL (fun cs => zk_code o cc nL rt ini jt cs = true) kk) (hV : zk_code o cc nL rt ini jt r = true) (hH : ze_H z0 dC dI dA sp xs A s nL ls st w g ρ ws H locs la vs) (hr : zk_s .lor o cc nL rt ini jt pc ca cb cd tl r = true) (h : zo_lor r ca cb cd tl (ze_jp jt) kk k cal mc ms ls st w g nc ns = true) : W p l e R s m args below meth c H locs nc ns Q (F0 m pc la vs) := by
  obtain ⟨hZ, hx, hb, hml, hown, hKs, hsc, hA, hts, hR, hRd, hin, hcal, hjt⟩ := hF
  obtain ⟨h1, h2⟩ := zk_and hr
  have hd := zk_dec h1
  have hn := zk_nx hV h2
  exact zs_lb (fun x y => x ||| y) hK hn h hH (fun x y rest _ k9 => lv_lor hx hb hd k9)

theorem zz_ldiv  (hF : ze_Fx p l R s m args meth c dC dI dA sp xs A o nL d cc rt ini jt cal mc ms) (hK : ze_KK p l e R s m args below meth c Q z0 dC dI dA sp xs A nL (fun cs => zk_code o cc nL rt ini jt cs = true) kk) (hV : zk_code o cc nL rt ini jt r = true) (hH : ze_H z0 dC dI dA sp xs A s nL ls st w g ρ ws H locs la vs) (hr : zk_s .ldiv o cc nL rt ini jt pc ca cb cd tl r = true) (h : zo_ldiv r ca cb cd tl (ze_jp jt) kk k cal mc ms ls st w g nc ns = true) : W p l e R s m args below meth c H locs nc ns Q (F0 m pc la vs) := by
  obtain ⟨hZ, hx, hb, hml, hown, hKs, hsc, hA, hts, hR, hRd, hin, hcal, hjt⟩ := hF
  obtain ⟨h1, h2⟩ := zk_and hr
  have hd := zk_dec h1
  have hn := zk_nx hV h2
  have h : (zo_ldv (zo_lb (fun x y => x / y))) r ca cb cd tl (ze_jp jt) kk k cal mc ms ls st w g nc ns = true := h
  unfold zo_ldv at h
  split at h
  · rename_i y0 rest0 hh0
    obtain ⟨y1, r1, e1, V1, -⟩ := hH.2.2.2.2.2.2.2.cons
    rcases ze_cond h with ⟨_, q⟩ | ⟨q1, q2⟩
    · cases q
    · refine zs_lb (fun x y => x / y) hK hn q2 hH (fun x y rest e9 k9 => lv_ldiv hx hb hd ?_ k9)
      have e8 : y = lN y0 := by
        rw [e1] at e9
        have := (List.cons.inj e9).1
        rw [show y1 = .long (lN y0) from V1] at this
        exact (Value.long.inj this).symm
      rw [e8]
      exact zi_ldiv0 q1
  · cases h

theorem zz_lrem  (hF : ze_Fx p l R s m args meth c dC dI dA sp xs A o nL d cc rt ini jt cal mc ms) (hK : ze_KK p l e R s m args below meth c Q z0 dC dI dA sp xs A nL (fun cs => zk_code o cc nL rt ini jt cs = true) kk) (hV : zk_code o cc nL rt ini jt r = true) (hH : ze_H z0 dC dI dA sp xs A s nL ls st w g ρ ws H locs la vs) (hr : zk_s .lrem o cc nL rt ini jt pc ca cb cd tl r = true) (h : zo_lrem r ca cb cd tl (ze_jp jt) kk k cal mc ms ls st w g nc ns = true) : W p l e R s m args below meth c H locs nc ns Q (F0 m pc la vs) := by
  obtain ⟨hZ, hx, hb, hml, hown, hKs, hsc, hA, hts, hR, hRd, hin, hcal, hjt⟩ := hF
  obtain ⟨h1, h2⟩ := zk_and hr
  have hd := zk_dec h1
  have hn := zk_nx hV h2
  have h : (zo_ldv (zo_lb (fun x y => x - x / y * y))) r ca cb cd tl (ze_jp jt) kk k cal mc ms ls st w g nc ns = true := h
  unfold zo_ldv at h
  split at h
  · rename_i y0 rest0 hh0
    obtain ⟨y1, r1, e1, V1, -⟩ := hH.2.2.2.2.2.2.2.cons
    rcases ze_cond h with ⟨_, q⟩ | ⟨q1, q2⟩
    · cases q
    · refine zs_lb (fun x y => x - x / y * y) hK hn q2 hH (fun x y rest e9 k9 => lv_lrem hx hb hd ?_ k9)
      have e8 : y = lN y0 := by
        rw [e1] at e9
        have := (List.cons.inj e9).1
        rw [show y1 = .long (lN y0) from V1] at this
        exact (Value.long.inj this).symm
      rw [e8]
      exact zi_ldiv0 q1
  · cases h

theorem zz_lshl  (hF : ze_Fx p l R s m args meth c dC dI dA sp xs A o nL d cc rt ini jt cal mc ms) (hK : ze_KK p l e R s m args below meth c Q z0 dC dI dA sp xs A nL (fun cs => zk_code o cc nL rt ini jt cs = true) kk) (hV : zk_code o cc nL rt ini jt r = true) (hH : ze_H z0 dC dI dA sp xs A s nL ls st w g ρ ws H locs la vs) (hr : zk_s .lshl o cc nL rt ini jt pc ca cb cd tl r = true) (h : zo_lshl r ca cb cd tl (ze_jp jt) kk k cal mc ms ls st w g nc ns = true) : W p l e R s m args below meth c H locs nc ns Q (F0 m pc la vs) := by
  obtain ⟨hZ, hx, hb, hml, hown, hKs, hsc, hA, hts, hR, hRd, hin, hcal, hjt⟩ := hF
  obtain ⟨h1, h2⟩ := zk_and hr
  have hd := zk_dec h1
  have hn := zk_nx hV h2
  exact zs_lsf (fun x y => x <<< (y.toInt64 &&& 63)) hK hn h hH (fun x y rest k9 => lv_lshl hx hb hd rfl k9)

theorem zz_lshr  (hF : ze_Fx p l R s m args meth c dC dI dA sp xs A o nL d cc rt ini jt cal mc ms) (hK : ze_KK p l e R s m args below meth c Q z0 dC dI dA sp xs A nL (fun cs => zk_code o cc nL rt ini jt cs = true) kk) (hV : zk_code o cc nL rt ini jt r = true) (hH : ze_H z0 dC dI dA sp xs A s nL ls st w g ρ ws H locs la vs) (hr : zk_s .lshr o cc nL rt ini jt pc ca cb cd tl r = true) (h : zo_lshr r ca cb cd tl (ze_jp jt) kk k cal mc ms ls st w g nc ns = true) : W p l e R s m args below meth c H locs nc ns Q (F0 m pc la vs) := by
  obtain ⟨hZ, hx, hb, hml, hown, hKs, hsc, hA, hts, hR, hRd, hin, hcal, hjt⟩ := hF
  obtain ⟨h1, h2⟩ := zk_and hr
  have hd := zk_dec h1
  have hn := zk_nx hV h2
  exact zs_lsf (fun x y => x >>> (y.toInt64 &&& 63)) hK hn h hH (fun x y rest k9 => lv_lshr hx hb hd rfl k9)

theorem zz_lcmp  (hF : ze_Fx p l R s m args meth c dC dI dA sp xs A o nL d cc rt ini jt cal mc ms) (hK : ze_KK p l e R s m args below meth c Q z0 dC dI dA sp xs A nL (fun cs => zk_code o cc nL rt ini jt cs = true) kk) (hV : zk_code o cc nL rt ini jt r = true) (hH : ze_H z0 dC dI dA sp xs A s nL ls st w g ρ ws H locs la vs) (hr : zk_s .lcmp o cc nL rt ini jt pc ca cb cd tl r = true) (h : zo_lcmp r ca cb cd tl (ze_jp jt) kk k cal mc ms ls st w g nc ns = true) : W p l e R s m args below meth c H locs nc ns Q (F0 m pc la vs) := by
  obtain ⟨hZ, hx, hb, hml, hown, hKs, hsc, hA, hts, hR, hRd, hin, hcal, hjt⟩ := hF
  obtain ⟨h1, h2⟩ := zk_and hr
  have hd := zk_dec h1
  have hn := zk_nx hV h2
  exact zs_lcmp hx hb hd hK hn h hH

theorem zz_dup  (hF : ze_Fx p l R s m args meth c dC dI dA sp xs A o nL d cc rt ini jt cal mc ms) (hK : ze_KK p l e R s m args below meth c Q z0 dC dI dA sp xs A nL (fun cs => zk_code o cc nL rt ini jt cs = true) kk) (hV : zk_code o cc nL rt ini jt r = true) (hH : ze_H z0 dC dI dA sp xs A s nL ls st w g ρ ws H locs la vs) (hr : zk_s .dup o cc nL rt ini jt pc ca cb cd tl r = true) (h : zo_dup r ca cb cd tl (ze_jp jt) kk k cal mc ms ls st w g nc ns = true) : W p l e R s m args below meth c H locs nc ns Q (F0 m pc la vs) := by
  obtain ⟨hZ, hx, hb, hml, hown, hKs, hsc, hA, hts, hR, hRd, hin, hcal, hjt⟩ := hF
  obtain ⟨h1, h2⟩ := zk_and hr
  have hd := zk_dec h1
  have hn := zk_nx hV h2
  exact zs_dup hK hn h hH (fun va rest q k9 => lv_dup hx hb hd q k9)

theorem zz_pop  (hF : ze_Fx p l R s m args meth c dC dI dA sp xs A o nL d cc rt ini jt cal mc ms) (hK : ze_KK p l e R s m args below meth c Q z0 dC dI dA sp xs A nL (fun cs => zk_code o cc nL rt ini jt cs = true) kk) (hV : zk_code o cc nL rt ini jt r = true) (hH : ze_H z0 dC dI dA sp xs A s nL ls st w g ρ ws H locs la vs) (hr : zk_s .pop o cc nL rt ini jt pc ca cb cd tl r = true) (h : zo_pop r ca cb cd tl (ze_jp jt) kk k cal mc ms ls st w g nc ns = true) : W p l e R s m args below meth c H locs nc ns Q (F0 m pc la vs) := by
  obtain ⟨hZ, hx, hb, hml, hown, hKs, hsc, hA, hts, hR, hRd, hin, hcal, hjt⟩ := hF
  obtain ⟨h1, h2⟩ := zk_and hr
  have hd := zk_dec h1
  have hn := zk_nx hV h2
  exact zs_pop hK hn h hH (fun va rest q k9 => lv_pop hx hb hd q k9)

theorem zz_dup_x1  (hF : ze_Fx p l R s m args meth c dC dI dA sp xs A o nL d cc rt ini jt cal mc ms) (hK : ze_KK p l e R s m args below meth c Q z0 dC dI dA sp xs A nL (fun cs => zk_code o cc nL rt ini jt cs = true) kk) (hV : zk_code o cc nL rt ini jt r = true) (hH : ze_H z0 dC dI dA sp xs A s nL ls st w g ρ ws H locs la vs) (hr : zk_s .dup_x1 o cc nL rt ini jt pc ca cb cd tl r = true) (h : zo_dup_x1 r ca cb cd tl (ze_jp jt) kk k cal mc ms ls st w g nc ns = true) : W p l e R s m args below meth c H locs nc ns Q (F0 m pc la vs) := by
  obtain ⟨hZ, hx, hb, hml, hown, hKs, hsc, hA, hts, hR, hRd, hin, hcal, hjt⟩ := hF
  obtain ⟨h1, h2⟩ := zk_and hr
  have hd := zk_dec h1
  have hn := zk_nx hV h2
  exact zs_dup_x1 hK hn h hH (fun va vb rest q1 q2 k9 => lv_dup_x1 hx hb hd q1 q2 k9)

theorem zz_dup_x2  (hF : ze_Fx p l R s m args meth c dC dI dA sp xs A o nL d cc rt ini jt cal mc ms) (hK : ze_KK p l e R s m args below meth c Q z0 dC dI dA sp xs A nL (fun cs => zk_code o cc nL rt ini jt cs = true) kk) (hV : zk_code o cc nL rt ini jt r = true) (hH : ze_H z0 dC dI dA sp xs A s nL ls st w g ρ ws H locs la vs) (hr : zk_s .dup_x2 o cc nL rt ini jt pc ca cb cd tl r = true) (h : zo_dup_x2 r ca cb cd tl (ze_jp jt) kk k cal mc ms ls st w g nc ns = true) : W p l e R s m args below meth c H locs nc ns Q (F0 m pc la vs) := by
  obtain ⟨hZ, hx, hb, hml, hown, hKs, hsc, hA, hts, hR, hRd, hin, hcal, hjt⟩ := hF
  obtain ⟨h1, h2⟩ := zk_and hr
  have hd := zk_dec h1
  have hn := zk_nx hV h2
  exact zs_dup_x2 hK hn h hH (fun va vb vd rest q1 q2 q3 k9 => lv_dup_x2 hx hb hd q1 q2 q3 k9)

theorem zz_dup2  (hF : ze_Fx p l R s m args meth c dC dI dA sp xs A o nL d cc rt ini jt cal mc ms) (hK : ze_KK p l e R s m args below meth c Q z0 dC dI dA sp xs A nL (fun cs => zk_code o cc nL rt ini jt cs = true) kk) (hV : zk_code o cc nL rt ini jt r = true) (hH : ze_H z0 dC dI dA sp xs A s nL ls st w g ρ ws H locs la vs) (hr : zk_s .dup2 o cc nL rt ini jt pc ca cb cd tl r = true) (h : zo_dup2 r ca cb cd tl (ze_jp jt) kk k cal mc ms ls st w g nc ns = true) : W p l e R s m args below meth c H locs nc ns Q (F0 m pc la vs) := by
  obtain ⟨hZ, hx, hb, hml, hown, hKs, hsc, hA, hts, hR, hRd, hin, hcal, hjt⟩ := hF
  obtain ⟨h1, h2⟩ := zk_and hr
  have hd := zk_dec h1
  have hn := zk_nx hV h2
  exact zs_dup2 hK hn h hH (fun va vb rest q1 q2 k9 => lv_dup2_11 hx hb hd q1 q2 k9)

theorem zz_aconst_null  (hF : ze_Fx p l R s m args meth c dC dI dA sp xs A o nL d cc rt ini jt cal mc ms) (hK : ze_KK p l e R s m args below meth c Q z0 dC dI dA sp xs A nL (fun cs => zk_code o cc nL rt ini jt cs = true) kk) (hV : zk_code o cc nL rt ini jt r = true) (hH : ze_H z0 dC dI dA sp xs A s nL ls st w g ρ ws H locs la vs) (hr : zk_s .aconst_null o cc nL rt ini jt pc ca cb cd tl r = true) (h : zo_null r ca cb cd tl (ze_jp jt) kk k cal mc ms ls st w g nc ns = true) : W p l e R s m args below meth c H locs nc ns Q (F0 m pc la vs) := by
  obtain ⟨hZ, hx, hb, hml, hown, hKs, hsc, hA, hts, hR, hRd, hin, hcal, hjt⟩ := hF
  obtain ⟨h1, h2⟩ := zk_and hr
  have hd := zk_dec h1
  have hn := zk_nx hV h2
  exact zs_null hK hn h hH (fun k9 => lv_null hx hb hd k9)

theorem zz_iaload  (hF : ze_Fx p l R s m args meth c dC dI dA sp xs A o nL d cc rt ini jt cal mc ms) (hK : ze_KK p l e R s m args below meth c Q z0 dC dI dA sp xs A nL (fun cs => zk_code o cc nL rt ini jt cs = true) kk) (hV : zk_code o cc nL rt ini jt r = true) (hH : ze_H z0 dC dI dA sp xs A s nL ls st w g ρ ws H locs la vs) (hr : zk_s .iaload o cc nL rt ini jt pc ca cb cd tl r = true) (h : zo_iald r ca cb cd tl (ze_jp jt) kk k cal mc ms ls st w g nc ns = true) : W p l e R s m args below meth c H locs nc ns Q (F0 m pc la vs) := by
  obtain ⟨hZ, hx, hb, hml, hown, hKs, hsc, hA, hts, hR, hRd, hin, hcal, hjt⟩ := hF
  obtain ⟨h1, h2⟩ := zk_and hr
  have hd := zk_dec h1
  have hn := zk_nx hV h2
  exact zs_iald hx hb hKs hsc ze_a0 hd hK hn h hH

theorem zz_caload  (hF : ze_Fx p l R s m args meth c dC dI dA sp xs A o nL d cc rt ini jt cal mc ms) (hK : ze_KK p l e R s m args below meth c Q z0 dC dI dA sp xs A nL (fun cs => zk_code o cc nL rt ini jt cs = true) kk) (hV : zk_code o cc nL rt ini jt r = true) (hH : ze_H z0 dC dI dA sp xs A s nL ls st w g ρ ws H locs la vs) (hr : zk_s .caload o cc nL rt ini jt pc ca cb cd tl r = true) (h : zo_ald 101 r ca cb cd tl (ze_jp jt) kk k cal mc ms ls st w g nc ns = true) : W p l e R s m args below meth c H locs nc ns Q (F0 m pc la vs) := by
  obtain ⟨hZ, hx, hb, hml, hown, hKs, hsc, hA, hts, hR, hRd, hin, hcal, hjt⟩ := hF
  obtain ⟨h1, h2⟩ := zk_and hr
  have hd := zk_dec h1
  have hn := zk_nx hV h2
  exact zs_ald (by decide) (by decide) hK hn h hH (fun q a n f i rest hw hin k9 => va_cald (D := (dC, dI)) hx hb (hKs.k1 ze_a1) hH.2.2.2.1 q 0 hw rfl hin hd k9)

theorem zz_baload  (hF : ze_Fx p l R s m args meth c dC dI dA sp xs A o nL d cc rt ini jt cal mc ms) (hK : ze_KK p l e R s m args below meth c Q z0 dC dI dA sp xs A nL (fun cs => zk_code o cc nL rt ini jt cs = true) kk) (hV : zk_code o cc nL rt ini jt r = true) (hH : ze_H z0 dC dI dA sp xs A s nL ls st w g ρ ws H locs la vs) (hr : zk_s .baload o cc nL rt ini jt pc ca cb cd tl r = true) (h : zo_ald 104 r ca cb cd tl (ze_jp jt) kk k cal mc ms ls st w g nc ns = true) : W p l e R s m args below meth c H locs nc ns Q (F0 m pc la vs) := by
  obtain ⟨hZ, hx, hb, hml, hown, hKs, hsc, hA, hts, hR, hRd, hin, hcal, hjt⟩ := hF
  obtain ⟨h1, h2⟩ := zk_and hr
  have hd := zk_dec h1
  have hn := zk_nx hV h2
  exact zs_ald (by decide) (by decide) hK hn h hH (fun q a n f i rest hw hin k9 => va_zald (D := (dC, dI)) hx hb (hKs.k1 ze_a4) hH.2.2.2.1 q 0 hw rfl hin hd k9)

theorem zz_laload  (hF : ze_Fx p l R s m args meth c dC dI dA sp xs A o nL d cc rt ini jt cal mc ms) (hK : ze_KK p l e R s m args below meth c Q z0 dC dI dA sp xs A nL (fun cs => zk_code o cc nL rt ini jt cs = true) kk) (hV : zk_code o cc nL rt ini jt r = true) (hH : ze_H z0 dC dI dA sp xs A s nL ls st w g ρ ws H locs la vs) (hr : zk_s .laload o cc nL rt ini jt pc ca cb cd tl r = true) (h : zo_ald 150 r ca cb cd tl (ze_jp jt) kk k cal mc ms ls st w g nc ns = true) : W p l e R s m args below meth c H locs nc ns Q (F0 m pc la vs) := by
  obtain ⟨hZ, hx, hb, hml, hown, hKs, hsc, hA, hts, hR, hRd, hin, hcal, hjt⟩ := hF
  obtain ⟨h1, h2⟩ := zk_and hr
  have hd := zk_dec h1
  have hn := zk_nx hV h2
  exact zs_lald hK hn h hH (fun q a n f i rest hw hin k9 => va_lald (D := (dC, dI)) hx hb (hKs.k1 ze_a5) hH.2.2.2.1 q 0 hw rfl hin hd k9)

theorem zz_aaload  (hF : ze_Fx p l R s m args meth c dC dI dA sp xs A o nL d cc rt ini jt cal mc ms) (hK : ze_KK p l e R s m args below meth c Q z0 dC dI dA sp xs A nL (fun cs => zk_code o cc nL rt ini jt cs = true) kk) (hV : zk_code o cc nL rt ini jt r = true) (hH : ze_H z0 dC dI dA sp xs A s nL ls st w g ρ ws H locs la vs) (hr : zk_s .aaload o cc nL rt ini jt pc ca cb cd tl r = true) (h : zo_aald r ca cb cd tl (ze_jp jt) kk k cal mc ms ls st w g nc ns = true) : W p l e R s m args below meth c H locs nc ns Q (F0 m pc la vs) := by
  obtain ⟨hZ, hx, hb, hml, hown, hKs, hsc, hA, hts, hR, hRd, hin, hcal, hjt⟩ := hF
  obtain ⟨h1, h2⟩ := zk_and hr
  have hd := zk_dec h1
  have hn := zk_nx hV h2
  exact zs_aald hx hb hKs hZ.2.1 hd hK hn h hH

theorem zz_iastore  (hF : ze_Fx p l R s m args meth c dC dI dA sp xs A o nL d cc rt ini jt cal mc ms) (hK : ze_KK p l e R s m args below meth c Q z0 dC dI dA sp xs A nL (fun cs => zk_code o cc nL rt ini jt cs = true) kk) (hV : zk_code o cc nL rt ini jt r = true) (hH : ze_H z0 dC dI dA sp xs A s nL ls st w g ρ ws H locs la vs) (hr : zk_s .iastore o cc nL rt ini jt pc ca cb cd tl r = true) (h : zo_iast r ca cb cd tl (ze_jp jt) kk k cal mc ms ls st w g nc ns = true) : W p l e R s m args below meth c H locs nc ns Q (F0 m pc la vs) := by
  obtain ⟨hZ, hx, hb, hml, hown, hKs, hsc, hA, hts, hR, hRd, hin, hcal, hjt⟩ := hF
  obtain ⟨h1, h2⟩ := zk_and hr
  have hd := zk_dec h1
  have hn := zk_nx hV h2
  exact zs_iast hx hb hKs ze_a0 hd hK hn h hH

theorem zz_castore  (hF : ze_Fx p l R s m args meth c dC dI dA sp xs A o nL d cc rt ini jt cal mc ms) (hK : ze_KK p l e R s m args below meth c Q z0 dC dI dA sp xs A nL (fun cs => zk_code o cc nL rt ini jt cs = true) kk) (hV : zk_code o cc nL rt ini jt r = true) (hH : ze_H z0 dC dI dA sp xs A s nL ls st w g ρ ws H locs la vs) (hr : zk_s .castore o cc nL rt ini jt pc ca cb cd tl r = true) (h : zo_cast r ca cb cd tl (ze_jp jt) kk k cal mc ms ls st w g nc ns = true) : W p l e R s m args below meth c H locs nc ns Q (F0 m pc la vs) := by
  obtain ⟨hZ, hx, hb, hml, hown, hKs, hsc, hA, hts, hR, hRd, hin, hcal, hjt⟩ := hF
  obtain ⟨h1, h2⟩ := zk_and hr
  have hd := zk_dec h1
  have hn := zk_nx hV h2
  exact zs_cast hx hb hKs ze_a1 hd hK hn h hH

theorem zz_bastore  (hF : ze_Fx p l R s m args meth c dC dI dA sp xs A o nL d cc rt ini jt cal mc ms) (hK : ze_KK p l e R s m args below meth c Q z0 dC dI dA sp xs A nL (fun cs => zk_code o cc nL rt ini jt cs = true) kk) (hV : zk_code o cc nL rt ini jt r = true) (hH : ze_H z0 dC dI dA sp xs A s nL ls st w g ρ ws H locs la vs) (hr : zk_s .bastore o cc nL rt ini jt pc ca cb cd tl r = true) (h : zo_bast r ca cb cd tl (ze_jp jt) kk k cal mc ms ls st w g nc ns = true) : W p l e R s m args below meth c H locs nc ns Q (F0 m pc la vs) := by
  obtain ⟨hZ, hx, hb, hml, hown, hKs, hsc, hA, hts, hR, hRd, hin, hcal, hjt⟩ := hF
  obtain ⟨h1, h2⟩ := zk_and hr
  have hd := zk_dec h1
  have hn := zk_nx hV h2
  exact zs_bast hx hb hKs ze_a4 hd hK hn h hH

theorem zz_lastore  (hF : ze_Fx p l R s m args meth c dC dI dA sp xs A o nL d cc rt ini jt cal mc ms) (hK : ze_KK p l e R s m args below meth c Q z0 dC dI dA sp xs A nL (fun cs => zk_code o cc nL rt ini jt cs = true) kk) (hV : zk_code o cc nL rt ini jt r = true) (hH : ze_H z0 dC dI dA sp xs A s nL ls st w g ρ ws H locs la vs) (hr : zk_s .lastore o cc nL rt ini jt pc ca cb cd tl r = true) (h : zo_last r ca cb cd tl (ze_jp jt) kk k cal mc ms ls st w g nc ns = true) : W p l e R s m args below meth c H locs nc ns Q (F0 m pc la vs) := by
  obtain ⟨hZ, hx, hb, hml, hown, hKs, hsc, hA, hts, hR, hRd, hin, hcal, hjt⟩ := hF
  obtain ⟨h1, h2⟩ := zk_and hr
  have hd := zk_dec h1
  have hn := zk_nx hV h2
  exact zs_last hx hb hKs ze_a5 hd hK hn h hH

theorem zz_aastore  (hF : ze_Fx p l R s m args meth c dC dI dA sp xs A o nL d cc rt ini jt cal mc ms) (hK : ze_KK p l e R s m args below meth c Q z0 dC dI dA sp xs A nL (fun cs => zk_code o cc nL rt ini jt cs = true) kk) (hV : zk_code o cc nL rt ini jt r = true) (hH : ze_H z0 dC dI dA sp xs A s nL ls st w g ρ ws H locs la vs) (hr : zk_s .aastore o cc nL rt ini jt pc ca cb cd tl r = true) (h : zo_aast r ca cb cd tl (ze_jp jt) kk k cal mc ms ls st w g nc ns = true) : W p l e R s m args below meth c H locs nc ns Q (F0 m pc la vs) := by
  obtain ⟨hZ, hx, hb, hml, hown, hKs, hsc, hA, hts, hR, hRd, hin, hcal, hjt⟩ := hF
  obtain ⟨h1, h2⟩ := zk_and hr
  have hd := zk_dec h1
  have hn := zk_nx hV h2
  exact zs_aast hx hb hKs hZ.2.1 hZ.1 hd hK hn h hH

theorem zz_arraylength  (hF : ze_Fx p l R s m args meth c dC dI dA sp xs A o nL d cc rt ini jt cal mc ms) (hK : ze_KK p l e R s m args below meth c Q z0 dC dI dA sp xs A nL (fun cs => zk_code o cc nL rt ini jt cs = true) kk) (hV : zk_code o cc nL rt ini jt r = true) (hH : ze_H z0 dC dI dA sp xs A s nL ls st w g ρ ws H locs la vs) (hr : zk_s .arraylength o cc nL rt ini jt pc ca cb cd tl r = true) (h : zo_alen r ca cb cd tl (ze_jp jt) kk k cal mc ms ls st w g nc ns = true) : W p l e R s m args below meth c H locs nc ns Q (F0 m pc la vs) := by
  obtain ⟨hZ, hx, hb, hml, hown, hKs, hsc, hA, hts, hR, hRd, hin, hcal, hjt⟩ := hF
  obtain ⟨h1, h2⟩ := zk_and hr
  have hd := zk_dec h1
  have hn := zk_nx hV h2
  exact zs_alen hx hb hKs hsc ze_aa hd hK hn h hH

theorem zz_iconst {n9 : Int} (hF : ze_Fx p l R s m args meth c dC dI dA sp xs A o nL d cc rt ini jt cal mc ms) (hK : ze_KK p l e R s m args below meth c Q z0 dC dI dA sp xs A nL (fun cs => zk_code o cc nL rt ini jt cs = true) kk) (hV : zk_code o cc nL rt ini jt r = true) (hH : ze_H z0 dC dI dA sp xs A s nL ls st w g ρ ws H locs la vs) (hr : zk_ic n9 o cc nL rt ini jt pc ca cb cd tl r = true) (h : zo_cst r ca cb cd tl (ze_jp jt) kk k cal mc ms ls st w g nc ns = true) : W p l e R s m args below meth c H locs nc ns Q (F0 m pc la vs) := by
  obtain ⟨hZ, hx, hb, hml, hown, hKs, hsc, hA, hts, hR, hRd, hin, hcal, hjt⟩ := hF
  obtain ⟨h1, h3⟩ := zk_and hr
  obtain ⟨h1, h2⟩ := zk_and h1
  have hd := zk_dec h1
  have hn := zk_nx hV h2
  have h3 := of_decide_eq_true h3
  exact zs_cst hK hn h hH (fun k9 => lv_iconst hx hb hd h3 k9)

theorem zz_bipush {n9 : Int} (hF : ze_Fx p l R s m args meth c dC dI dA sp xs A o nL d cc rt ini jt cal mc ms) (hK : ze_KK p l e R s m args below meth c Q z0 dC dI dA sp xs A nL (fun cs => zk_code o cc nL rt ini jt cs = true) kk) (hV : zk_code o cc nL rt ini jt r = true) (hH : ze_H z0 dC dI dA sp xs A s nL ls st w g ρ ws H locs la vs) (hr : zk_bi n9 o cc nL rt ini jt pc ca cb cd tl r = true) (h : zo_cst r ca cb cd tl (ze_jp jt) kk k cal mc ms ls st w g nc ns = true) : W p l e R s m args below meth c H locs nc ns Q (F0 m pc la vs) := by
  obtain ⟨hZ, hx, hb, hml, hown, hKs, hsc, hA, hts, hR, hRd, hin, hcal, hjt⟩ := hF
  obtain ⟨h1, h3⟩ := zk_and hr
  obtain ⟨h1, h2⟩ := zk_and h1
  have hd := zk_dec h1
  have hn := zk_nx hV h2
  have h3 := of_decide_eq_true h3
  exact zs_cst hK hn h hH (fun k9 => lv_bipush hx hb hd h3 k9)

theorem zz_sipush {n9 : Int} (hF : ze_Fx p l R s m args meth c dC dI dA sp xs A o nL d cc rt ini jt cal mc ms) (hK : ze_KK p l e R s m args below meth c Q z0 dC dI dA sp xs A nL (fun cs => zk_code o cc nL rt ini jt cs = true) kk) (hV : zk_code o cc nL rt ini jt r = true) (hH : ze_H z0 dC dI dA sp xs A s nL ls st w g ρ ws H locs la vs) (hr : zk_si n9 o cc nL rt ini jt pc ca cb cd tl r = true) (h : zo_cst r ca cb cd tl (ze_jp jt) kk k cal mc ms ls st w g nc ns = true) : W p l e R s m args below meth c H locs nc ns Q (F0 m pc la vs) := by
  obtain ⟨hZ, hx, hb, hml, hown, hKs, hsc, hA, hts, hR, hRd, hin, hcal, hjt⟩ := hF
  obtain ⟨h1, h3⟩ := zk_and hr
  obtain ⟨h1, h2⟩ := zk_and h1
  have hd := zk_dec h1
  have hn := zk_nx hV h2
  have h3 := of_decide_eq_true h3
  exact zs_cst hK hn h hH (fun k9 => lv_sipush hx hb hd h3 k9)

theorem zz_lconst {n9 : Fin 2} (hF : ze_Fx p l R s m args meth c dC dI dA sp xs A o nL d cc rt ini jt cal mc ms) (hK : ze_KK p l e R s m args below meth c Q z0 dC dI dA sp xs A nL (fun cs => zk_code o cc nL rt ini jt cs = true) kk) (hV : zk_code o cc nL rt ini jt r = true) (hH : ze_H z0 dC dI dA sp xs A s nL ls st w g ρ ws H locs la vs) (hr : zk_lc n9 o cc nL rt ini jt pc ca cb cd tl r = true) (h : zo_lcst r ca cb cd tl (ze_jp jt) kk k cal mc ms ls st w g nc ns = true) : W p l e R s m args below meth c H locs nc ns Q (F0 m pc la vs) := by
  obtain ⟨hZ, hx, hb, hml, hown, hKs, hsc, hA, hts, hR, hRd, hin, hcal, hjt⟩ := hF
  obtain ⟨h1, h3⟩ := zk_and hr
  obtain ⟨h1, h2⟩ := zk_and h1
  have hd := zk_dec h1
  have hn := zk_nx hV h2
  have h3 := of_decide_eq_true h3
  exact zs_lcst hK hn h hH (fun k9 => lv_lconst hx hb hd h3 k9)

theorem zz_ldc {n9 : Nat} (hF : ze_Fx p l R s m args meth c dC dI dA sp xs A o nL d cc rt ini jt cal mc ms) (hK : ze_KK p l e R s m args below meth c Q z0 dC dI dA sp xs A nL (fun cs => zk_code o cc nL rt ini jt cs = true) kk) (hV : zk_code o cc nL rt ini jt r = true) (hH : ze_H z0 dC dI dA sp xs A s nL ls st w g ρ ws H locs la vs) (hr : zk_ld n9 o cc nL rt ini jt pc ca cb cd tl r = true) (h : zo_cst r ca cb cd tl (ze_jp jt) kk k cal mc ms ls st w g nc ns = true) : W p l e R s m args below meth c H locs nc ns Q (F0 m pc la vs) := by
  obtain ⟨hZ, hx, hb, hml, hown, hKs, hsc, hA, hts, hR, hRd, hin, hcal, hjt⟩ := hF
  obtain ⟨h1, h3⟩ := zk_and hr
  obtain ⟨h1, h2⟩ := zk_and h1
  have hd := zk_dec h1
  have hn := zk_nx hV h2
  have h3 := of_decide_eq_true h3
  exact zs_cst hK hn h hH (fun k9 => lv_ldc hx hb hown (hts _ (hZ.2.2.2.2.2.2.1 o n9 ca h3)) hd k9)

theorem zz_ldc_w {n9 : Nat} (hF : ze_Fx p l R s m args meth c dC dI dA sp xs A o nL d cc rt ini jt cal mc ms) (hK : ze_KK p l e R s m args below meth c Q z0 dC dI dA sp xs A nL (fun cs => zk_code o cc nL rt ini jt cs = true) kk) (hV : zk_code o cc nL rt ini jt r = true) (hH : ze_H z0 dC dI dA sp xs A s nL ls st w g ρ ws H locs la vs) (hr : zk_ldw n9 o cc nL rt ini jt pc ca cb cd tl r = true) (h : zo_cst r ca cb cd tl (ze_jp jt) kk k cal mc ms ls st w g nc ns = true) : W p l e R s m args below meth c H locs nc ns Q (F0 m pc la vs) := by
  obtain ⟨hZ, hx, hb, hml, hown, hKs, hsc, hA, hts, hR, hRd, hin, hcal, hjt⟩ := hF
  obtain ⟨h1, h3⟩ := zk_and hr
  obtain ⟨h1, h2⟩ := zk_and h1
  have hd := zk_dec h1
  have hn := zk_nx hV h2
  have h3 := of_decide_eq_true h3
  exact zs_cst hK hn h hH (fun k9 => lv_ldcw hx hb hown (hts _ (hZ.2.2.2.2.2.2.1 o n9 ca h3)) hd k9)

theorem zz_ldc2_w {n9 : Nat} (hF : ze_Fx p l R s m args meth c dC dI dA sp xs A o nL d cc rt ini jt cal mc ms) (hK : ze_KK p l e R s m args below meth c Q z0 dC dI dA sp xs A nL (fun cs => zk_code o cc nL rt ini jt cs = true) kk) (hV : zk_code o cc nL rt ini jt r = true) (hH : ze_H z0 dC dI dA sp xs A s nL ls st w g ρ ws H locs la vs) (hr : zk_ld2 n9 o cc nL rt ini jt pc ca cb cd tl r = true) (h : zo_lcst r ca cb cd tl (ze_jp jt) kk k cal mc ms ls st w g nc ns = true) : W p l e R s m args below meth c H locs nc ns Q (F0 m pc la vs) := by
  obtain ⟨hZ, hx, hb, hml, hown, hKs, hsc, hA, hts, hR, hRd, hin, hcal, hjt⟩ := hF
  obtain ⟨h1, h3⟩ := zk_and hr
  obtain ⟨h1, h2⟩ := zk_and h1
  have hd := zk_dec h1
  have hn := zk_nx hV h2
  have h3 := of_decide_eq_true h3
  exact zs_lcst hK hn h hH (fun k9 => lv_ldc2 hx hb hown (hts _ (hZ.2.2.2.2.2.2.2.1 o n9 ca h3)) hd k9)

theorem zz_iload_n {n9 : Fin 4} (hF : ze_Fx p l R s m args meth c dC dI dA sp xs A o nL d cc rt ini jt cal mc ms) (hK : ze_KK p l e R s m args below meth c Q z0 dC dI dA sp xs A nL (fun cs => zk_code o cc nL rt ini jt cs = true) kk) (hV : zk_code o cc nL rt ini jt r = true) (hH : ze_H z0 dC dI dA sp xs A s nL ls st w g ρ ws H locs la vs) (hr : zk_x (.iload_n n9) 1 n9.val o cc nL rt ini jt pc ca cb cd tl r = true) (h : zo_iload r ca cb cd tl (ze_jp jt) kk k cal mc ms ls st w g nc ns = true) : W p l e R s m args below meth c H locs nc ns Q (F0 m pc la vs) := by
  obtain ⟨hZ, hx, hb, hml, hown, hKs, hsc, hA, hts, hR, hRd, hin, hcal, hjt⟩ := hF
  obtain ⟨h1, h3⟩ := zk_and hr
  obtain ⟨h1, h2⟩ := zk_and h1
  have hd := zk_dec h1
  have hn := zk_nx hV h2
  have h3 := of_decide_eq_true h3
  exact zs_iload hK hn h hH (fun x q k9 => lv_iload_n hx hb hd h3 q k9)

theorem zz_lload_n {n9 : Fin 4} (hF : ze_Fx p l R s m args meth c dC dI dA sp xs A o nL d cc rt ini jt cal mc ms) (hK : ze_KK p l e R s m args below meth c Q z0 dC dI dA sp xs A nL (fun cs => zk_code o cc nL rt ini jt cs = true) kk) (hV : zk_code o cc nL rt ini jt r = true) (hH : ze_H z0 dC dI dA sp xs A s nL ls st w g ρ ws H locs la vs) (hr : zk_x (.lload_n n9) 1 n9.val o cc nL rt ini jt pc ca cb cd tl r = true) (h : zo_lload r ca cb cd tl (ze_jp jt) kk k cal mc ms ls st w g nc ns = true) : W p l e R s m args below meth c H locs nc ns Q (F0 m pc la vs) := by
  obtain ⟨hZ, hx, hb, hml, hown, hKs, hsc, hA, hts, hR, hRd, hin, hcal, hjt⟩ := hF
  obtain ⟨h1, h3⟩ := zk_and hr
  obtain ⟨h1, h2⟩ := zk_and h1
  have hd := zk_dec h1
  have hn := zk_nx hV h2
  have h3 := of_decide_eq_true h3
  exact zs_lload hK hn h hH (fun x q k9 => lv_lload_n hx hb hd h3 q k9)

theorem zz_aload_n {n9 : Fin 4} (hF : ze_Fx p l R s m args meth c dC dI dA sp xs A o nL d cc rt ini jt cal mc ms) (hK : ze_KK p l e R s m args below meth c Q z0 dC dI dA sp xs A nL (fun cs => zk_code o cc nL rt ini jt cs = true) kk) (hV : zk_code o cc nL rt ini jt r = true) (hH : ze_H z0 dC dI dA sp xs A s nL ls st w g ρ ws H locs la vs) (hr : zk_x (.aload_n n9) 1 n9.val o cc nL rt ini jt pc ca cb cd tl r = true) (h : zo_aload r ca cb cd tl (ze_jp jt) kk k cal mc ms ls st w g nc ns = true) : W p l e R s m args below meth c H locs nc ns Q (F0 m pc la vs) := by
  obtain ⟨hZ, hx, hb, hml, hown, hKs, hsc, hA, hts, hR, hRd, hin, hcal, hjt⟩ := hF
  obtain ⟨h1, h3⟩ := zk_and hr
  obtain ⟨h1, h2⟩ := zk_and h1
  have hd := zk_dec h1
  have hn := zk_nx hV h2
  have h3 := of_decide_eq_true h3
  exact zs_aload hK hn h hH (fun x q k9 => lv_aload_n hx hb hd h3 q k9) (fun q k9 => lv_aload_nN hx hb hd h3 q k9)

theorem zz_iload {n9 : Nat} (hF : ze_Fx p l R s m args meth c dC dI dA sp xs A o nL d cc rt ini jt cal mc ms) (hK : ze_KK p l e R s m args below meth c Q z0 dC dI dA sp xs A nL (fun cs => zk_code o cc nL rt ini jt cs = true) kk) (hV : zk_code o cc nL rt ini jt r = true) (hH : ze_H z0 dC dI dA sp xs A s nL ls st w g ρ ws H locs la vs) (hr : zk_x (.iload n9) 2 n9 o cc nL rt ini jt pc ca cb cd tl r = true) (h : zo_iload r ca cb cd tl (ze_jp jt) kk k cal mc ms ls st w g nc ns = true) : W p l e R s m args below meth c H locs nc ns Q (F0 m pc la vs) := by
  obtain ⟨hZ, hx, hb, hml, hown, hKs, hsc, hA, hts, hR, hRd, hin, hcal, hjt⟩ := hF
  obtain ⟨h1, h3⟩ := zk_and hr
  obtain ⟨h1, h2⟩ := zk_and h1
  have hd := zk_dec h1
  have hn := zk_nx hV h2
  have h3 := of_decide_eq_true h3
  subst h3
  exact zs_iload hK hn h hH (fun x q k9 => lv_iload hx hb hd q k9)

theorem zz_lload {n9 : Nat} (hF : ze_Fx p l R s m args meth c dC dI dA sp xs A o nL d cc rt ini jt cal mc ms) (hK : ze_KK p l e R s m args below meth c Q z0 dC dI dA sp xs A nL (fun cs => zk_code o cc nL rt ini jt cs = true) kk) (hV : zk_code o cc nL rt ini jt r = true) (hH : ze_H z0 dC dI dA sp xs A s nL ls st w g ρ ws H locs la vs) (hr : zk_x (.lload n9) 2 n9 o cc nL rt ini jt pc ca cb cd tl r = true) (h : zo_lload r ca cb cd tl (ze_jp jt) kk k cal mc ms ls st w g nc ns = true) : W p l e R s m args below meth c H locs nc ns Q (F0 m pc la vs) := by
  obtain ⟨hZ, hx, hb, hml, hown, hKs, hsc, hA, hts, hR, hRd, hin, hcal, hjt⟩ := hF
  obtain ⟨h1, h3⟩ := zk_and hr
  obtain ⟨h1, h2⟩ := zk_and h1
  have hd := zk_dec h1
  have hn := zk_nx hV h2
  have h3 := of_decide_eq_true h3
  subst h3
  exact zs_lload hK hn h hH (fun x q k9 => lv_lload hx hb hd q k9)

theorem zz_aload {n9 : Nat} (hF : ze_Fx p l R s m args meth c dC dI dA sp xs A o nL d cc rt ini jt cal mc ms) (hK : ze_KK p l e R s m args below meth c Q z0 dC dI dA sp xs A nL (fun cs => zk_code o cc nL rt ini jt cs = true) kk) (hV : zk_code o cc nL rt ini jt r = true) (hH : ze_H z0 dC dI dA sp xs A s nL ls st w g ρ ws H locs la vs) (hr : zk_x (.aload n9) 2 n9 o cc nL rt ini jt pc ca cb cd tl r = true) (h : zo_aload r ca cb cd tl (ze_jp jt) kk k cal mc ms ls st w g nc ns = true) : W p l e R s m args below meth c H locs nc ns Q (F0 m pc la vs) := by
  obtain ⟨hZ, hx, hb, hml, hown, hKs, hsc, hA, hts, hR, hRd, hin, hcal, hjt⟩ := hF
  obtain ⟨h1, h3⟩ := zk_and hr
  obtain ⟨h1, h2⟩ := zk_and h1
  have hd := zk_dec h1
  have hn := zk_nx hV h2
  have h3 := of_decide_eq_true h3
  subst h3
  exact zs_aload hK hn h hH (fun x q k9 => lv_aload hx hb hd q k9) (fun q k9 => lv_aloadN hx hb hd q k9)

theorem zz_istore_n {n9 : Fin 4} (hF : ze_Fx p l R s m args meth c dC dI dA sp xs A o nL d cc rt ini jt cal mc ms) (hK : ze_KK p l e R s m args below meth c Q z0 dC dI dA sp xs A nL (fun cs => zk_code o cc nL rt ini jt cs = true) kk) (hV : zk_code o cc nL rt ini jt r = true) (hH : ze_H z0 dC dI dA sp xs A s nL ls st w g ρ ws H locs la vs) (hr : zk_y (.istore_n n9) 1 n9.val 1 o cc nL rt ini jt pc ca cb cd tl r = true) (h : zo_istore r ca cb cd tl (ze_jp jt) kk k cal mc ms ls st w g nc ns = true) : W p l e R s m args below meth c H locs nc ns Q (F0 m pc la vs) := by
  obtain ⟨hZ, hx, hb, hml, hown, hKs, hsc, hA, hts, hR, hRd, hin, hcal, hjt⟩ := hF
  obtain ⟨h1, h4⟩ := zk_and hr
  obtain ⟨h1, h3⟩ := zk_and h1
  obtain ⟨h1, h2⟩ := zk_and h1
  have hd := zk_dec h1
  have hn := zk_nx hV h2
  have h3 := of_decide_eq_true h3
  have h4 := of_decide_eq_true h4
  exact zs_istore hK hn h hH (fun x rest lv q k9 => lv_istore_n hx hb hd h3 q (by omega) rfl k9)

theorem zz_istore {n9 : Nat} (hF : ze_Fx p l R s m args meth c dC dI dA sp xs A o nL d cc rt ini jt cal mc ms) (hK : ze_KK p l e R s m args below meth c Q z0 dC dI dA sp xs A nL (fun cs => zk_code o cc nL rt ini jt cs = true) kk) (hV : zk_code o cc nL rt ini jt r = true) (hH : ze_H z0 dC dI dA sp xs A s nL ls st w g ρ ws H locs la vs) (hr : zk_y (.istore n9) 2 n9 1 o cc nL rt ini jt pc ca cb cd tl r = true) (h : zo_istore r ca cb cd tl (ze_jp jt) kk k cal mc ms ls st w g nc ns = true) : W p l e R s m args below meth c H locs nc ns Q (F0 m pc la vs) := by
  obtain ⟨hZ, hx, hb, hml, hown, hKs, hsc, hA, hts, hR, hRd, hin, hcal, hjt⟩ := hF
  obtain ⟨h1, h4⟩ := zk_and hr
  obtain ⟨h1, h3⟩ := zk_and h1
  obtain ⟨h1, h2⟩ := zk_and h1
  have hd := zk_dec h1
  have hn := zk_nx hV h2
  have h3 := of_decide_eq_true h3
  have h4 := of_decide_eq_true h4
  subst h3
  exact zs_istore hK hn h hH (fun x rest lv q k9 => lv_istore hx hb hd q (by omega) rfl k9)

theorem zz_astore_n {n9 : Fin 4} (hF : ze_Fx p l R s m args meth c dC dI dA sp xs A o nL d cc rt ini jt cal mc ms) (hK : ze_KK p l e R s m args below meth c Q z0 dC dI dA sp xs A nL (fun cs => zk_code o cc nL rt ini jt cs = true) kk) (hV : zk_code o cc nL rt ini jt r = true) (hH : ze_H z0 dC dI dA sp xs A s nL ls st w g ρ ws H locs la vs) (hr : zk_y (.astore_n n9) 1 n9.val 1 o cc nL rt ini jt pc ca cb cd tl r = true) (h : zo_astore r ca cb cd tl (ze_jp jt) kk k cal mc ms ls st w g nc ns = true) : W p l e R s m args below meth c H locs nc ns Q (F0 m pc la vs) := by
  obtain ⟨hZ, hx, hb, hml, hown, hKs, hsc, hA, hts, hR, hRd, hin, hcal, hjt⟩ := hF
  obtain ⟨h1, h4⟩ := zk_and hr
  obtain ⟨h1, h3⟩ := zk_and h1
  obtain ⟨h1, h2⟩ := zk_and h1
  have hd := zk_dec h1
  have hn := zk_nx hV h2
  have h3 := of_decide_eq_true h3
  have h4 := of_decide_eq_true h4
  exact zs_astore hK hn h hH (fun x rest lv q k9 => lv_astore_n hx hb hd h3 q (by omega) rfl k9) (fun rest lv q k9 => lv_astore_nN hx hb hd h3 q (by omega) rfl k9)

theorem zz_astore {n9 : Nat} (hF : ze_Fx p l R s m args meth c dC dI dA sp xs A o nL d cc rt ini jt cal mc ms) (hK : ze_KK p l e R s m args below meth c Q z0 dC dI dA sp xs A nL (fun cs => zk_code o cc nL rt ini jt cs = true) kk) (hV : zk_code o cc nL rt ini jt r = true) (hH : ze_H z0 dC dI dA sp xs A s nL ls st w g ρ ws H locs la vs) (hr : zk_y (.astore n9) 2 n9 1 o cc nL rt ini jt pc ca cb cd tl r = true) (h : zo_astore r ca cb cd tl (ze_jp jt) kk k cal mc ms ls st w g nc ns = true) : W p l e R s m args below meth c H locs nc ns Q (F0 m pc la vs) := by
  obtain ⟨hZ, hx, hb, hml, hown, hKs, hsc, hA, hts, hR, hRd, hin, hcal, hjt⟩ := hF
  obtain ⟨h1, h4⟩ := zk_and hr
  obtain ⟨h1, h3⟩ := zk_and h1
  obtain ⟨h1, h2⟩ := zk_and h1
  have hd := zk_dec h1
  have hn := zk_nx hV h2
  have h3 := of_decide_eq_true h3
  have h4 := of_decide_eq_true h4
  subst h3
  exact zs_astore hK hn h hH (fun x rest lv q k9 => lv_astore hx hb hd q (by omega) rfl k9) (fun rest lv q k9 => lv_astoreN hx hb hd q (by omega) rfl k9)

theorem zz_lstore_n {n9 : Fin 4} (hF : ze_Fx p l R s m args meth c dC dI dA sp xs A o nL d cc rt ini jt cal mc ms) (hK : ze_KK p l e R s m args below meth c Q z0 dC dI dA sp xs A nL (fun cs => zk_code o cc nL rt ini jt cs = true) kk) (hV : zk_code o cc nL rt ini jt r = true) (hH : ze_H z0 dC dI dA sp xs A s nL ls st w g ρ ws H locs la vs) (hr : zk_y (.lstore_n n9) 1 n9.val 2 o cc nL rt ini jt pc ca cb cd tl r = true) (h : zo_lstore r ca cb cd tl (ze_jp jt) kk k cal mc ms ls st w g nc ns = true) : W p l e R s m args below meth c H locs nc ns Q (F0 m pc la vs) := by
  obtain ⟨hZ, hx, hb, hml, hown, hKs, hsc, hA, hts, hR, hRd, hin, hcal, hjt⟩ := hF
  obtain ⟨h1, h4⟩ := zk_and hr
  obtain ⟨h1, h3⟩ := zk_and h1
  obtain ⟨h1, h2⟩ := zk_and h1
  have hd := zk_dec h1
  have hn := zk_nx hV h2
  have h3 := of_decide_eq_true h3
  have h4 := of_decide_eq_true h4
  exact zs_lstore hK hn h hH (fun x rest lv q k9 => lv_lstore_n hx hb hd h3 q (by omega) rfl k9)

theorem zz_lstore {n9 : Nat} (hF : ze_Fx p l R s m args meth c dC dI dA sp xs A o nL d cc rt ini jt cal mc ms) (hK : ze_KK p l e R s m args below meth c Q z0 dC dI dA sp xs A nL (fun cs => zk_code o cc nL rt ini jt cs = true) kk) (hV : zk_code o cc nL rt ini jt r = true) (hH : ze_H z0 dC dI dA sp xs A s nL ls st w g ρ ws H locs la vs) (hr : zk_y (.lstore n9) 2 n9 2 o cc nL rt ini jt pc ca cb cd tl r = true) (h : zo_lstore r ca cb cd tl (ze_jp jt) kk k cal mc ms ls st w g nc ns = true) : W p l e R s m args below meth c H locs nc ns Q (F0 m pc la vs) := by
  obtain ⟨hZ, hx, hb, hml, hown, hKs, hsc, hA, hts, hR, hRd, hin, hcal, hjt⟩ := hF
  obtain ⟨h1, h4⟩ := zk_and hr
  obtain ⟨h1, h3⟩ := zk_and h1
  obtain ⟨h1, h2⟩ := zk_and h1
  have hd := zk_dec h1
  have hn := zk_nx hV h2
  have h3 := of_decide_eq_true h3
  have h4 := of_decide_eq_true h4
  subst h3
  exact zs_lstore hK hn h hH (fun x rest lv q k9 => lv_lstore hx hb hd q (by omega) rfl k9)

theorem zz_iinc {i9 : Nat} {n9 : Int} (hF : ze_Fx p l R s m args meth c dC dI dA sp xs A o nL d cc rt ini jt cal mc ms) (hK : ze_KK p l e R s m args below meth c Q z0 dC dI dA sp xs A nL (fun cs => zk_code o cc nL rt ini jt cs = true) kk) (hV : zk_code o cc nL rt ini jt r = true) (hH : ze_H z0 dC dI dA sp xs A s nL ls st w g ρ ws H locs la vs) (hr : zk_ii i9 n9 o cc nL rt ini jt pc ca cb cd tl r = true) (h : zo_iinc r ca cb cd tl (ze_jp jt) kk k cal mc ms ls st w g nc ns = true) : W p l e R s m args below meth c H locs nc ns Q (F0 m pc la vs) := by
  obtain ⟨hZ, hx, hb, hml, hown, hKs, hsc, hA, hts, hR, hRd, hin, hcal, hjt⟩ := hF
  obtain ⟨h1, h5⟩ := zk_and hr
  obtain ⟨h1, h4⟩ := zk_and h1
  obtain ⟨h1, h3⟩ := zk_and h1
  obtain ⟨h1, h2⟩ := zk_and h1
  have hd := zk_dec h1
  have hn := zk_nx hV h2
  have h3 := of_decide_eq_true h3
  have h4 := of_decide_eq_true h4
  have h5 := of_decide_eq_true h5
  subst h3
  exact zs_iinc hK hn h hH (fun x lv j q1 q2 k9 => lv_iinc hx hb hd q1 q2 (by rw [h5]) (by omega) rfl k9)

theorem zz_goto {f9 : Int} (hF : ze_Fx p l R s m args meth c dC dI dA sp xs A o nL d cc rt ini jt cal mc ms) (hK : ze_KK p l e R s m args below meth c Q z0 dC dI dA sp xs A nL (fun cs => zk_code o cc nL rt ini jt cs = true) kk) (hV : zk_code o cc nL rt ini jt r = true) (hH : ze_H z0 dC dI dA sp xs A s nL ls st w g ρ ws H locs la vs) (hr : zk_go f9 o cc nL rt ini jt pc ca cb cd tl r = true) (h : zo_goto r ca cb cd tl (ze_jp jt) kk k cal mc ms ls st w g nc ns = true) : W p l e R s m args below meth c H locs nc ns Q (F0 m pc la vs) := by
  obtain ⟨hZ, hx, hb, hml, hown, hKs, hsc, hA, hts, hR, hRd, hin, hcal, hjt⟩ := hF
  obtain ⟨h1, h2⟩ := zk_and hr
  have hd := zk_dec h1
  obtain ⟨tgt, ht1, ht2⟩ := zk_to hjt h2
  obtain ⟨cs9, q9, h9⟩ := ht2 _ h
  exact lv_goto hx hb hd ht1 (hK _ _ _ _ _ _ _ q9 _ h9 _ _ _ _ _ _ hH)

theorem zz_if_eq {f9 : Int} (hF : ze_Fx p l R s m args meth c dC dI dA sp xs A o nL d cc rt ini jt cal mc ms) (hK : ze_KK p l e R s m args below meth c Q z0 dC dI dA sp xs A nL (fun cs => zk_code o cc nL rt ini jt cs = true) kk) (hV : zk_code o cc nL rt ini jt r = true) (hH : ze_H z0 dC dI dA sp xs A s nL ls st w g ρ ws H locs la vs) (hr : zk_j (.ifCond .eq f9) f9 o cc nL rt ini jt pc ca cb cd tl r = true) (h : zo_b1 zc_eq r ca cb cd tl (ze_jp jt) kk k cal mc ms ls st w g nc ns = true) : W p l e R s m args below meth c H locs nc ns Q (F0 m pc la vs) := by
  obtain ⟨hZ, hx, hb, hml, hown, hKs, hsc, hA, hts, hR, hRd, hin, hcal, hjt⟩ := hF
  obtain ⟨h1, h3⟩ := zk_and hr
  obtain ⟨h1, h2⟩ := zk_and h1
  have hd := zk_dec h1
  have hn := zk_nx hV h2
  obtain ⟨tgt, ht1, ht2⟩ := zk_to hjt h3
  exact zs_b1 zc_eq_ok hK hn ht2 h hH (fun x rest kt kf => lv_if_eq hx hb hd ht1 kt kf)

theorem zz_icmp_eq {f9 : Int} (hF : ze_Fx p l R s m args meth c dC dI dA sp xs A o nL d cc rt ini jt cal mc ms) (hK : ze_KK p l e R s m args below meth c Q z0 dC dI dA sp xs A nL (fun cs => zk_code o cc nL rt ini jt cs = true) kk) (hV : zk_code o cc nL rt ini jt r = true) (hH : ze_H z0 dC dI dA sp xs A s nL ls st w g ρ ws H locs la vs) (hr : zk_j (.if_icmp .eq f9) f9 o cc nL rt ini jt pc ca cb cd tl r = true) (h : zo_b2 zc_eq r ca cb cd tl (ze_jp jt) kk k cal mc ms ls st w g nc ns = true) : W p l e R s m args below meth c H locs nc ns Q (F0 m pc la vs) := by
  obtain ⟨hZ, hx, hb, hml, hown, hKs, hsc, hA, hts, hR, hRd, hin, hcal, hjt⟩ := hF
  obtain ⟨h1, h3⟩ := zk_and hr
  obtain ⟨h1, h2⟩ := zk_and h1
  have hd := zk_dec h1
  have hn := zk_nx hV h2
  obtain ⟨tgt, ht1, ht2⟩ := zk_to hjt h3
  exact zs_b2 zc_eq_ok hK hn ht2 h hH (fun x y rest kt kf => lv_icmp_eq hx hb hd ht1 kt kf)

theorem zz_if_ne {f9 : Int} (hF : ze_Fx p l R s m args meth c dC dI dA sp xs A o nL d cc rt ini jt cal mc ms) (hK : ze_KK p l e R s m args below meth c Q z0 dC dI dA sp xs A nL (fun cs => zk_code o cc nL rt ini jt cs = true) kk) (hV : zk_code o cc nL rt ini jt r = true) (hH : ze_H z0 dC dI dA sp xs A s nL ls st w g ρ ws H locs la vs) (hr : zk_j (.ifCond .ne f9) f9 o cc nL rt ini jt pc ca cb cd tl r = true) (h : zo_b1 zc_ne r ca cb cd tl (ze_jp jt) kk k cal mc ms ls st w g nc ns = true) : W p l e R s m args below meth c H locs nc ns Q (F0 m pc la vs) := by
  obtain ⟨hZ, hx, hb, hml, hown, hKs, hsc, hA, hts, hR, hRd, hin, hcal, hjt⟩ := hF
  obtain ⟨h1, h3⟩ := zk_and hr
  obtain ⟨h1, h2⟩ := zk_and h1
  have hd := zk_dec h1
  have hn := zk_nx hV h2
  obtain ⟨tgt, ht1, ht2⟩ := zk_to hjt h3
  exact zs_b1 zc_ne_ok hK hn ht2 h hH (fun x rest kt kf => lv_if_ne hx hb hd ht1 kt kf)

theorem zz_icmp_ne {f9 : Int} (hF : ze_Fx p l R s m args meth c dC dI dA sp xs A o nL d cc rt ini jt cal mc ms) (hK : ze_KK p l e R s m args below meth c Q z0 dC dI dA sp xs A nL (fun cs => zk_code o cc nL rt ini jt cs = true) kk) (hV : zk_code o cc nL rt ini jt r = true) (hH : ze_H z0 dC dI dA sp xs A s nL ls st w g ρ ws H locs la vs) (hr : zk_j (.if_icmp .ne f9) f9 o cc nL rt ini jt pc ca cb cd tl r = true) (h : zo_b2 zc_ne r ca cb cd tl (ze_jp jt) kk k cal mc ms ls st w g nc ns = true) : W p l e R s m args below meth c H locs nc ns Q (F0 m pc la vs) := by
  obtain ⟨hZ, hx, hb, hml, hown, hKs, hsc, hA, hts, hR, hRd, hin, hcal, hjt⟩ := hF
  obtain ⟨h1, h3⟩ := zk_and hr
  obtain ⟨h1, h2⟩ := zk_and h1
  have hd := zk_dec h1
  have hn := zk_nx hV h2
  obtain ⟨tgt, ht1, ht2⟩ := zk_to hjt h3
  exact zs_b2 zc_ne_ok hK hn ht2 h hH (fun x y rest kt kf => lv_icmp_ne hx hb hd ht1 kt kf)

theorem zz_if_lt {f9 : Int} (hF : ze_Fx p l R s m args meth c dC dI dA sp xs A o nL d cc rt ini jt cal mc ms) (hK : ze_KK p l e R s m args below meth c Q z0 dC dI dA sp xs A nL (fun cs => zk_code o cc nL rt ini jt cs = true) kk) (hV : zk_code o cc nL rt ini jt r = true) (hH : ze_H z0 dC dI dA sp xs A s nL ls st w g ρ ws H locs la vs) (hr : zk_j (.ifCond .lt f9) f9 o cc nL rt ini jt pc ca cb cd tl r = true) (h : zo_b1 zc_lt r ca cb cd tl (ze_jp jt) kk k cal mc ms ls st w g nc ns = true) : W p l e R s m args below meth c H locs nc ns Q (F0 m pc la vs) := by
  obtain ⟨hZ, hx, hb, hml, hown, hKs, hsc, hA, hts, hR, hRd, hin, hcal, hjt⟩ := hF
  obtain ⟨h1, h3⟩ := zk_and hr
  obtain ⟨h1, h2⟩ := zk_and h1
  have hd := zk_dec h1
  have hn := zk_nx hV h2
  obtain ⟨tgt, ht1, ht2⟩ := zk_to hjt h3
  exact zs_b1 zc_lt_ok hK hn ht2 h hH (fun x rest kt kf => lv_if_lt hx hb hd ht1 kt kf)

theorem zz_icmp_lt {f9 : Int} (hF : ze_Fx p l R s m args meth c dC dI dA sp xs A o nL d cc rt ini jt cal mc ms) (hK : ze_KK p l e R s m args below meth c Q z0 dC dI dA sp xs A nL (fun cs => zk_code o cc nL rt ini jt cs = true) kk) (hV : zk_code o cc nL rt ini jt r = true) (hH : ze_H z0 dC dI dA sp xs A s nL ls st w g ρ ws H locs la vs) (hr : zk_j (.if_icmp .lt f9) f9 o cc nL rt ini jt pc ca cb cd tl r = true) (h : zo_b2 zc_lt r ca cb cd tl (ze_jp jt) kk k cal mc ms ls st w g nc ns = true) : W p l e R s m args below meth c H locs nc ns Q (F0 m pc la vs) := by
  obtain ⟨hZ, hx, hb, hml, hown, hKs, hsc, hA, hts, hR, hRd, hin, hcal, hjt⟩ := hF
  obtain ⟨h1, h3⟩ := zk_and hr
  obtain ⟨h1, h2⟩ := zk_and h1
  have hd := zk_dec h1
  have hn := zk_nx hV h2
  obtain ⟨tgt, ht1, ht2⟩ := zk_to hjt h3
  exact zs_b2 zc_lt_ok hK hn ht2 h hH (fun x y rest kt kf => lv_icmp_lt hx hb hd ht1 kt kf)

theorem zz_if_ge {f9 : Int} (hF : ze_Fx p l R s m args meth c dC dI dA sp xs A o nL d cc rt ini jt cal mc ms) (hK : ze_KK p l e R s m args below meth c Q z0 dC dI dA sp xs A nL (fun cs => zk_code o cc nL rt ini jt cs = true) kk) (hV : zk_code o cc nL rt ini jt r = true) (hH : ze_H z0 dC dI dA sp xs A s nL ls st w g ρ ws H locs la vs) (hr : zk_j (.ifCond .ge f9) f9 o cc nL rt ini jt pc ca cb cd tl r = true) (h : zo_b1 zc_ge r ca cb cd tl (ze_jp jt) kk k cal mc ms ls st w g nc ns = true) : W p l e R s m args below meth c H locs nc ns Q (F0 m pc la vs) := by
  obtain ⟨hZ, hx, hb, hml, hown, hKs, hsc, hA, hts, hR, hRd, hin, hcal, hjt⟩ := hF
  obtain ⟨h1, h3⟩ := zk_and hr
  obtain ⟨h1, h2⟩ := zk_and h1
  have hd := zk_dec h1
  have hn := zk_nx hV h2
  obtain ⟨tgt, ht1, ht2⟩ := zk_to hjt h3
  exact zs_b1 zc_ge_ok hK hn ht2 h hH (fun x rest kt kf => lv_if_ge hx hb hd ht1 kt kf)

theorem zz_icmp_ge {f9 : Int} (hF : ze_Fx p l R s m args meth c dC dI dA sp xs A o nL d cc rt ini jt cal mc ms) (hK : ze_KK p l e R s m args below meth c Q z0 dC dI dA sp xs A nL (fun cs => zk_code o cc nL rt ini jt cs = true) kk) (hV : zk_code o cc nL rt ini jt r = true) (hH : ze_H z0 dC dI dA sp xs A s nL ls st w g ρ ws H locs la vs) (hr : zk_j (.if_icmp .ge f9) f9 o cc nL rt ini jt pc ca cb cd tl r = true) (h : zo_b2 zc_ge r ca cb cd tl (ze_jp jt) kk k cal mc ms ls st w g nc ns = true) : W p l e R s m args below meth c H locs nc ns Q (F0 m pc la vs) := by
  obtain ⟨hZ, hx, hb, hml, hown, hKs, hsc, hA, hts, hR, hRd, hin, hcal, hjt⟩ := hF
  obtain ⟨h1, h3⟩ := zk_and hr
  obtain ⟨h1, h2⟩ := zk_and h1
  have hd := zk_dec h1
  have hn := zk_nx hV h2
  obtain ⟨tgt, ht1, ht2⟩ := zk_to hjt h3
  exact zs_b2 zc_ge_ok hK hn ht2 h hH (fun x y rest kt kf => lv_icmp_ge hx hb hd ht1 kt kf)

theorem zz_if_gt {f9 : Int} (hF : ze_Fx p l R s m args meth c dC dI dA sp xs A o nL d cc rt ini jt cal mc ms) (hK : ze_KK p l e R s m args below meth c Q z0 dC dI dA sp xs A nL (fun cs => zk_code o cc nL rt ini jt cs = true) kk) (hV : zk_code o cc nL rt ini jt r = true) (hH : ze_H z0 dC dI dA sp xs A s nL ls st w g ρ ws H locs la vs) (hr : zk_j (.ifCond .gt f9) f9 o cc nL rt ini jt pc ca cb cd tl r = true) (h : zo_b1 zc_gt r ca cb cd tl (ze_jp jt) kk k cal mc ms ls st w g nc ns = true) : W p l e R s m args below meth c H locs nc ns Q (F0 m pc la vs) := by
  obtain ⟨hZ, hx, hb, hml, hown, hKs, hsc, hA, hts, hR, hRd, hin, hcal, hjt⟩ := hF
  obtain ⟨h1, h3⟩ := zk_and hr
  obtain ⟨h1, h2⟩ := zk_and h1
  have hd := zk_dec h1
  have hn := zk_nx hV h2
  obtain ⟨tgt, ht1, ht2⟩ := zk_to hjt h3
  exact zs_b1 zc_gt_ok hK hn ht2 h hH (fun x rest kt kf => lv_if_gt hx hb hd ht1 kt kf)

theorem zz_icmp_gt {f9 : Int} (hF : ze_Fx p l R s m args meth c dC dI dA sp xs A o nL d cc rt ini jt cal mc ms) (hK : ze_KK p l e R s m args below meth c Q z0 dC dI dA sp xs A nL (fun cs => zk_code o cc nL rt ini jt cs = true) kk) (hV : zk_code o cc nL rt ini jt r = true) (hH : ze_H z0 dC dI dA sp xs A s nL ls st w g ρ ws H locs la vs) (hr : zk_j (.if_icmp .gt f9) f9 o cc nL rt ini jt pc ca cb cd tl r = true) (h : zo_b2 zc_gt r ca cb cd tl (ze_jp jt) kk k cal mc ms ls st w g nc ns = true) : W p l e R s m args below meth c H locs nc ns Q (F0 m pc la vs) := by
  obtain ⟨hZ, hx, hb, hml, hown, hKs, hsc, hA, hts, hR, hRd, hin, hcal, hjt⟩ := hF
  obtain ⟨h1, h3⟩ := zk_and hr
  obtain ⟨h1, h2⟩ := zk_and h1
  have hd := zk_dec h1
  have hn := zk_nx hV h2
  obtain ⟨tgt, ht1, ht2⟩ := zk_to hjt h3
  exact zs_b2 zc_gt_ok hK hn ht2 h hH (fun x y rest kt kf => lv_icmp_gt hx hb hd ht1 kt kf)

theorem zz_if_le {f9 : Int} (hF : ze_Fx p l R s m args meth c dC dI dA sp xs A o nL d cc rt ini jt cal mc ms) (hK : ze_KK p l e R s m args below meth c Q z0 dC dI dA sp xs A nL (fun cs => zk_code o cc nL rt ini jt cs = true) kk) (hV : zk_code o cc nL rt ini jt r = true) (hH : ze_H z0 dC dI dA sp xs A s nL ls st w g ρ ws H locs la vs) (hr : zk_j (.ifCond .le f9) f9 o cc nL rt ini jt pc ca cb cd tl r = true) (h : zo_b1 zc_le r ca cb cd tl (ze_jp jt) kk k cal mc ms ls st w g nc ns = true) : W p l e R s m args below meth c H locs nc ns Q (F0 m pc la vs) := by
  obtain ⟨hZ, hx, hb, hml, hown, hKs, hsc, hA, hts, hR, hRd, hin, hcal, hjt⟩ := hF
  obtain ⟨h1, h3⟩ := zk_and hr
  obtain ⟨h1, h2⟩ := zk_and h1
  have hd := zk_dec h1
  have hn := zk_nx hV h2
  obtain ⟨tgt, ht1, ht2⟩ := zk_to hjt h3
  exact zs_b1 zc_le_ok hK hn ht2 h hH (fun x rest kt kf => lv_if_le hx hb hd ht1 kt kf)

theorem zz_icmp_le {f9 : Int} (hF : ze_Fx p l R s m args meth c dC dI dA sp xs A o nL d cc rt ini jt cal mc ms) (hK : ze_KK p l e R s m args below meth c Q z0 dC dI dA sp xs A nL (fun cs => zk_code o cc nL rt ini jt cs = true) kk) (hV : zk_code o cc nL rt ini jt r = true) (hH : ze_H z0 dC dI dA sp xs A s nL ls st w g ρ ws H locs la vs) (hr : zk_j (.if_icmp .le f9) f9 o cc nL rt ini jt pc ca cb cd tl r = true) (h : zo_b2 zc_le r ca cb cd tl (ze_jp jt) kk k cal mc ms ls st w g nc ns = true) : W p l e R s m args below meth c H locs nc ns Q (F0 m pc la vs) := by
  obtain ⟨hZ, hx, hb, hml, hown, hKs, hsc, hA, hts, hR, hRd, hin, hcal, hjt⟩ := hF
  obtain ⟨h1, h3⟩ := zk_and hr
  obtain ⟨h1, h2⟩ := zk_and h1
  have hd := zk_dec h1
  have hn := zk_nx hV h2
  obtain ⟨tgt, ht1, ht2⟩ := zk_to hjt h3
  exact zs_b2 zc_le_ok hK hn ht2 h hH (fun x y rest kt kf => lv_icmp_le hx hb hd ht1 kt kf)

theorem zz_ifnull {f9 : Int} (hF : ze_Fx p l R s m args meth c dC dI dA sp xs A o nL d cc rt ini jt cal mc ms) (hK : ze_KK p l e R s m args below meth c Q z0 dC dI dA sp xs A nL (fun cs => zk_code o cc nL rt ini jt cs = true) kk) (hV : zk_code o cc nL rt ini jt r = true) (hH : ze_H z0 dC dI dA sp xs A s nL ls st w g ρ ws H locs la vs) (hr : zk_j (.ifnull f9) f9 o cc nL rt ini jt pc ca cb cd tl r = true) (h : zo_ifnull r ca cb cd tl (ze_jp jt) kk k cal mc ms ls st w g nc ns = true) : W p l e R s m args below meth c H locs nc ns Q (F0 m pc la vs) := by
  obtain ⟨hZ, hx, hb, hml, hown, hKs, hsc, hA, hts, hR, hRd, hin, hcal, hjt⟩ := hF
  obtain ⟨h1, h3⟩ := zk_and hr
  obtain ⟨h1, h2⟩ := zk_and h1
  have hd := zk_dec h1
  have hn := zk_nx hV h2
  obtain ⟨tgt, ht1, ht2⟩ := zk_to hjt h3
  exact zs_ifnull hK hn ht2 h hH (fun x rest k9 => lv_ifnull hx hb hd k9) (fun rest k9 => lv_ifnullN hx hb hd ht1 k9)

theorem zz_ifnonnull {f9 : Int} (hF : ze_Fx p l R s m args meth c dC dI dA sp xs A o nL d cc rt ini jt cal mc ms) (hK : ze_KK p l e R s m args below meth c Q z0 dC dI dA sp xs A nL (fun cs => zk_code o cc nL rt ini jt cs = true) kk) (hV : zk_code o cc nL rt ini jt r = true) (hH : ze_H z0 dC dI dA sp xs A s nL ls st w g ρ ws H locs la vs) (hr : zk_j (.ifnonnull f9) f9 o cc nL rt ini jt pc ca cb cd tl r = true) (h : zo_ifnonnull r ca cb cd tl (ze_jp jt) kk k cal mc ms ls st w g nc ns = true) : W p l e R s m args below meth c H locs nc ns Q (F0 m pc la vs) := by
  obtain ⟨hZ, hx, hb, hml, hown, hKs, hsc, hA, hts, hR, hRd, hin, hcal, hjt⟩ := hF
  obtain ⟨h1, h3⟩ := zk_and hr
  obtain ⟨h1, h2⟩ := zk_and h1
  have hd := zk_dec h1
  have hn := zk_nx hV h2
  obtain ⟨tgt, ht1, ht2⟩ := zk_to hjt h3
  exact zs_ifnonnull hK hn ht2 h hH (fun x rest k9 => lv_ifnonnull hx hb hd ht1 k9) (fun rest k9 => lv_ifnonnullN hx hb hd k9)

theorem zz_tableswitch {d9 lo hi : Int} {offs : Array Int} (hF : ze_Fx p l R s m args meth c dC dI dA sp xs A o nL d cc rt ini jt cal mc ms) (hK : ze_KK p l e R s m args below meth c Q z0 dC dI dA sp xs A nL (fun cs => zk_code o cc nL rt ini jt cs = true) kk) (hV : zk_code o cc nL rt ini jt r = true) (hH : ze_H z0 dC dI dA sp xs A s nL ls st w g ρ ws H locs la vs) (hr : zk_ts d9 lo hi offs o cc nL rt ini jt pc ca cb cd tl r = true) (h : zo_sw r ca cb cd tl (ze_jp jt) kk k cal mc ms ls st w g nc ns = true) : W p l e R s m args below meth c H locs nc ns Q (F0 m pc la vs) := by
  obtain ⟨hZ, hx, hb, hml, hown, hKs, hsc, hA, hts, hR, hRd, hin, hcal, hjt⟩ := hF
  obtain ⟨h1, h4⟩ := zk_and hr
  obtain ⟨h1, h3⟩ := zk_and h1
  obtain ⟨h1, h2⟩ := zk_and h1
  obtain ⟨len, hd⟩ := zk_dex h1
  have h3 := of_decide_eq_true h3
  refine zs_sw hK h hH (fun x rest => ?_)
  have e7 : (ze_b x : Int) - 2147483648 = x.toInt := by
    have := ze_b_int x
    omega
  obtain ⟨k1, k2⟩ := zk_ttok (a := ca) (z := ze_b x) hjt offs.toList lo tl h4
  rw [e7] at k1 k2
  by_cases hi9 : x.toInt < lo ∨ hi < x.toInt
  · obtain ⟨tgt, ht1, ht2⟩ := zk_to hjt h2
    refine ⟨tgt, ?_, fun k9 => lv_tableOut hx hb hd hi9 ht1 k9⟩
    rw [k1 (by omega)]
    exact ht2
  · obtain ⟨off, j1, j2⟩ := k2 (by omega) (by omega)
    obtain ⟨tgt, ht1, ht2⟩ := zk_to hjt j2
    refine ⟨tgt, ht2, fun k9 => lv_tableIn hx hb hd (by omega) (by omega) (off := off) ?_ ht1 k9⟩
    rw [← Array.getElem?_toList]
    exact j1

theorem zz_lookupswitch {d9 : Int} {ps : Array (Int × Int)} (hF : ze_Fx p l R s m args meth c dC dI dA sp xs A o nL d cc rt ini jt cal mc ms) (hK : ze_KK p l e R s m args below meth c Q z0 dC dI dA sp xs A nL (fun cs => zk_code o cc nL rt ini jt cs = true) kk) (hV : zk_code o cc nL rt ini jt r = true) (hH : ze_H z0 dC dI dA sp xs A s nL ls st w g ρ ws H locs la vs) (hr : zk_ls d9 ps o cc nL rt ini jt pc ca cb cd tl r = true) (h : zo_sw r ca cb cd tl (ze_jp jt) kk k cal mc ms ls st w g nc ns = true) : W p l e R s m args below meth c H locs nc ns Q (F0 m pc la vs) := by
  obtain ⟨hZ, hx, hb, hml, hown, hKs, hsc, hA, hts, hR, hRd, hin, hcal, hjt⟩ := hF
  obtain ⟨h1, h4⟩ := zk_and hr
  obtain ⟨h1, h3⟩ := zk_and h1
  obtain ⟨h1, h2⟩ := zk_and h1
  obtain ⟨len, hd⟩ := zk_dex h1
  refine zs_sw hK h hH (fun x rest => ?_)
  obtain ⟨tgt, ht1, ht2⟩ := zk_to hjt (zk_ltok (x := x) h2 ps.toList tl h4)
  exact ⟨tgt, ht2, fun k9 => lv_lookup hx hb hd h3 rfl ht1 k9⟩

theorem zz_getfield {n9 : Nat} (hF : ze_Fx p l R s m args meth c dC dI dA sp xs A o nL d cc rt ini jt cal mc ms) (hK : ze_KK p l e R s m args below meth c Q z0 dC dI dA sp xs A nL (fun cs => zk_code o cc nL rt ini jt cs = true) kk) (hV : zk_code o cc nL rt ini jt r = true) (hH : ze_H z0 dC dI dA sp xs A s nL ls st w g ρ ws H locs la vs) (hr : zk_gf n9 o cc nL rt ini jt pc ca cb cd tl r = true) (h : zo_getf r ca cb cd tl (ze_jp jt) kk k cal mc ms ls st w g nc ns = true) : W p l e R s m args below meth c H locs nc ns Q (F0 m pc la vs) := by
  obtain ⟨hZ, hx, hb, hml, hown, hKs, hsc, hA, hts, hR, hRd, hin, hcal, hjt⟩ := hF
  obtain ⟨h1, h3⟩ := zk_and hr
  obtain ⟨h1, h2⟩ := zk_and h1
  have hd := zk_dec h1
  have hn := zk_nx hV h2
  have h3 := of_decide_eq_true h3
  obtain ⟨C, T, N, q1, q2, q3⟩ := hZ.2.2.1 o n9 ca cb h3
  exact zs_getf hx hb hown hKs hts hZ.1 hK q1 q2 q3 hd hn h hH

theorem zz_putfield {n9 : Nat} (hF : ze_Fx p l R s m args meth c dC dI dA sp xs A o nL d cc rt ini jt cal mc ms) (hK : ze_KK p l e R s m args below meth c Q z0 dC dI dA sp xs A nL (fun cs => zk_code o cc nL rt ini jt cs = true) kk) (hV : zk_code o cc nL rt ini jt r = true) (hH : ze_H z0 dC dI dA sp xs A s nL ls st w g ρ ws H locs la vs) (hr : zk_pf n9 o cc nL rt ini jt pc ca cb cd tl r = true) (h : zo_putf r ca cb cd tl (ze_jp jt) kk k cal mc ms ls st w g nc ns = true) : W p l e R s m args below meth c H locs nc ns Q (F0 m pc la vs) := by
  obtain ⟨hZ, hx, hb, hml, hown, hKs, hsc, hA, hts, hR, hRd, hin, hcal, hjt⟩ := hF
  obtain ⟨h1, h3⟩ := zk_and hr
  obtain ⟨h1, h2⟩ := zk_and h1
  have hd := zk_dec h1
  have hn := zk_nx hV h2
  rcases zk_or h3 with h3 | h3
  · have h3 := of_decide_eq_true h3
    obtain ⟨C, T, N, ty, q1, q2, q3, q4, q5⟩ := hZ.2.2.2.1 o n9 ca cb cd 0 h3
    rcases q5 with ⟨-, q5, q6⟩ | ⟨q5, -⟩
    · exact zs_putf hx hb hown hKs hts hZ.1 hK q1 q2 q3 q4 (Or.inl ⟨q5, q6⟩) hd hn h hH
    · cases q5
  · obtain ⟨h5, h3⟩ := zk_and h3
    have h3 := of_decide_eq_true h3
    obtain ⟨C, T, N, ty, q1, q2, q3, q4, q5⟩ := hZ.2.2.2.1 o n9 ca cb cd 1 h3
    rcases q5 with ⟨q5, -⟩ | ⟨-, q5, q6, q7⟩
    · cases q5
    · exact zs_putf hx hb hown hKs hts hZ.1 hK q1 q2 q3 q4 (Or.inr ⟨q5, hin h5, q6, q7⟩) hd hn h hH

theorem zz_new {n9 : Nat} (hF : ze_Fx p l R s m args meth c dC dI dA sp xs A o nL d cc rt ini jt cal mc ms) (hK : ze_KK p l e R s m args below meth c Q z0 dC dI dA sp xs A nL (fun cs => zk_code o cc nL rt ini jt cs = true) kk) (hV : zk_code o cc nL rt ini jt r = true) (hH : ze_H z0 dC dI dA sp xs A s nL ls st w g ρ ws H locs la vs) (hr : zk_nw n9 o cc nL rt ini jt pc ca cb cd tl r = true) (h : zo_new r ca cb cd tl (ze_jp jt) kk k cal mc ms ls st w g nc ns = true) : W p l e R s m args below meth c H locs nc ns Q (F0 m pc la vs) := by
  obtain ⟨hZ, hx, hb, hml, hown, hKs, hsc, hA, hts, hR, hRd, hin, hcal, hjt⟩ := hF
  obtain ⟨h1, h3⟩ := zk_and hr
  obtain ⟨h1, h2⟩ := zk_and h1
  have hd := zk_dec h1
  have hn := zk_nx hV h2
  have h3 := of_decide_eq_true h3
  obtain ⟨C, T, N, q1, q2, q3, q4, q5, q6⟩ := hZ.2.2.2.2.1 o n9 ca tl h3
  exact zs_new hx hb hown hR hKs hA hts hZ.1 q1 q2 q3 q4 q5 q6 hd hK hn h hH

theorem zz_newarray {t9 : ArrayType} (hF : ze_Fx p l R s m args meth c dC dI dA sp xs A o nL d cc rt ini jt cal mc ms) (hK : ze_KK p l e R s m args below meth c Q z0 dC dI dA sp xs A nL (fun cs => zk_code o cc nL rt ini jt cs = true) kk) (hV : zk_code o cc nL rt ini jt r = true) (hH : ze_H z0 dC dI dA sp xs A s nL ls st w g ρ ws H locs la vs) (hr : zk_na t9 o cc nL rt ini jt pc ca cb cd tl r = true) (h : zo_newa r ca cb cd tl (ze_jp jt) kk k cal mc ms ls st w g nc ns = true) : W p l e R s m args below meth c H locs nc ns Q (F0 m pc la vs) := by
  obtain ⟨hZ, hx, hb, hml, hown, hKs, hsc, hA, hts, hR, hRd, hin, hcal, hjt⟩ := hF
  obtain ⟨h1, h3⟩ := zk_and hr
  obtain ⟨h1, h2⟩ := zk_and h1
  have hd := zk_dec h1
  have hn := zk_nx hV h2
  obtain ⟨w1, w2, w3, w4⟩ := hZ.2.2.2.2.2.2.2.2.2.2.2.2.2
  cases t9 with
  | int =>
    obtain ⟨h4, h5⟩ := zk_and h3
    have h4 := of_decide_eq_true h4
    have h5 := of_decide_eq_true h5
    subst h4; subst h5
    exact zs_newi (atype := .int) hx hb hR hKs hA hts ze_a0 w1 (by decide) (by decide) rfl rfl (by decide) (fun cA q => Option.some.inj ((show s.vm.findClass _ = some cA from q).symm.trans (hKs.2.1 100 .int ze_a0).2)) hd hK hn h hH
  | char =>
    obtain ⟨h4, h5⟩ := zk_and h3
    have h4 := of_decide_eq_true h4
    have h5 := of_decide_eq_true h5
    subst h4; subst h5
    exact zs_newi (atype := .char) hx hb hR hKs hA hts ze_a1 w2 (by decide) (by decide) rfl rfl (by decide) (fun cA q => Option.some.inj ((show s.vm.findClass _ = some cA from q).symm.trans (hKs.2.1 101 .char ze_a1).2)) hd hK hn h hH
  | boolean =>
    obtain ⟨h4, h5⟩ := zk_and h3
    have h4 := of_decide_eq_true h4
    have h5 := of_decide_eq_true h5
    subst h4; subst h5
    exact zs_newi (atype := .boolean) hx hb hR hKs hA hts ze_a4 w3 (by decide) (by decide) rfl rfl (by decide) (fun cA q => Option.some.inj ((show s.vm.findClass _ = some cA from q).symm.trans (hKs.2.1 104 .boolean ze_a4).2)) hd hK hn h hH
  | long =>
    obtain ⟨h4, h5⟩ := zk_and h3
    exact zs_newl hx hb hR hKs hA hts (of_decide_eq_true h4) (of_decide_eq_true h5) ze_a5 w4 hd hK hn h hH
  | float => cases h3
  | double => cases h3
  | byte => cases h3
  | short => cases h3

theorem zz_anewarray {n9 : Nat} (hF : ze_Fx p l R s m args meth c dC dI dA sp xs A o nL d cc rt ini jt cal mc ms) (hK : ze_KK p l e R s m args below meth c Q z0 dC dI dA sp xs A nL (fun cs => zk_code o cc nL rt ini jt cs = true) kk) (hV : zk_code o cc nL rt ini jt r = true) (hH : ze_H z0 dC dI dA sp xs A s nL ls st w g ρ ws H locs la vs) (hr : zk_aa n9 o cc nL rt ini jt pc ca cb cd tl r = true) (h : zo_newa r ca cb cd tl (ze_jp jt) kk k cal mc ms ls st w g nc ns = true) : W p l e R s m args below meth c H locs nc ns Q (F0 m pc la vs) := by
  obtain ⟨hZ, hx, hb, hml, hown, hKs, hsc, hA, hts, hR, hRd, hin, hcal, hjt⟩ := hF
  obtain ⟨h1, h4⟩ := zk_and hr
  obtain ⟨h1, h3⟩ := zk_and h1
  obtain ⟨h1, h2⟩ := zk_and h1
  have hd := zk_dec h1
  have hn := zk_nx hV h2
  have h3 := of_decide_eq_true h3
  have h4 := of_decide_eq_true h4
  obtain ⟨q1, q2⟩ := hZ.2.2.2.2.2.1 o n9 ca h3
  subst q1
  exact zs_newq hx hb hown hR hKs hA hts (by decide) h4 ze_a9 q2 (by decide) hd hK hn h hH

theorem zz_invokevirtual {n9 : Nat} (hF : ze_Fx p l R s m args meth c dC dI dA sp xs A o nL d cc rt ini jt cal mc ms) (hK : ze_KK p l e R s m args below meth c Q z0 dC dI dA sp xs A nL (fun cs => zk_code o cc nL rt ini jt cs = true) kk) (hV : zk_code o cc nL rt ini jt r = true) (hH : ze_H z0 dC dI dA sp xs A s nL ls st w g ρ ws H locs la vs) (hr : zk_iv n9 o cc nL rt ini jt pc ca cb cd tl r = true) (h : zo_inv r ca cb cd tl (ze_jp jt) kk k cal mc ms ls st w g nc ns = true) : W p l e R s m args below meth c H locs nc ns Q (F0 m pc la vs) := by
  obtain ⟨hZ, hx, hb, hml, hown, hKs, hsc, hA, hts, hR, hRd, hin, hcal, hjt⟩ := hF
  obtain ⟨h1, h3⟩ := zk_and hr
  obtain ⟨h1, h2⟩ := zk_and h1
  have hd := zk_dec h1
  have hn := zk_nx hV h2
  have h3 := of_decide_eq_true h3
  obtain ⟨q, ci, T, N, nb, q1, q2, q3, q4, q5, ⟨q6, q7, q8, q9⟩, q10, q11, q12⟩ := hZ.2.2.2.2.2.2.2.2.1 o n9 ca cb cd tl h3
  subst q2; subst q3; subst q4
  exact zs_invV (tl := []) (jp := ze_jp jt) (ca := 0) (cb := 0) (cd := 0) (k := k) hx hb hml hown hKs hsc hA hts hZ.1 hR hRd (hcal ca q q1) q5 q6 q7 q10 q11 q8 q9 q12 hd hK hn h hH

theorem zz_invokestatic {n9 : Nat} (hF : ze_Fx p l R s m args meth c dC dI dA sp xs A o nL d cc rt ini jt cal mc ms) (hK : ze_KK p l e R s m args below meth c Q z0 dC dI dA sp xs A nL (fun cs => zk_code o cc nL rt ini jt cs = true) kk) (hV : zk_code o cc nL rt ini jt r = true) (hH : ze_H z0 dC dI dA sp xs A s nL ls st w g ρ ws H locs la vs) (hr : zk_is n9 o cc nL rt ini jt pc ca cb cd tl r = true) (h : zo_stat r ca cb cd tl (ze_jp jt) kk k cal mc ms ls st w g nc ns = true) : W p l e R s m args below meth c H locs nc ns Q (F0 m pc la vs) := by
  obtain ⟨hZ, hx, hb, hml, hown, hKs, hsc, hA, hts, hR, hRd, hin, hcal, hjt⟩ := hF
  obtain ⟨h1, h3⟩ := zk_and hr
  obtain ⟨h1, h2⟩ := zk_and h1
  have hd := zk_dec h1
  have hn := zk_nx hV h2
  rcases zk_or h3 with h3 | h3
  · have h3 := of_decide_eq_true h3
    obtain ⟨q, q1, q2, q4, ⟨q6, q7, q8, q9⟩, q10, q12⟩ := hZ.2.2.2.2.2.2.2.2.2.1 o n9 ca cb cd tl h3
    subst q2; subst q4
    exact zs_invS (tl := []) (jp := ze_jp jt) (ca := 0) (cb := 0) (cd := 0) (k := k) hx hb hml hown hKs hsc hA hts hR hRd (hcal ca q q1) q6 q7 q10 q8 q9 q12 hd hK hn h hH
  · obtain ⟨h4, h5⟩ := zk_and h3
    have h4 := of_decide_eq_true h4
    have h5 := of_decide_eq_true h5
    subst h4
    obtain ⟨w1, w2, w3, w4⟩ := hZ.2.2.2.2.2.2.2.2.2.2.2.2.1
    exact zs_copy hx hb hml hown hKs hts ze_a0 ⟨by omega, by omega⟩ (w1 o n9 h5) w2 w3 w4 hd hK hn h hH

theorem zz_invokespecial {n9 : Nat} (hF : ze_Fx p l R s m args meth c dC dI dA sp xs A o nL d cc rt ini jt cal mc ms) (hK : ze_KK p l e R s m args below meth c Q z0 dC dI dA sp xs A nL (fun cs => zk_code o cc nL rt ini jt cs = true) kk) (hV : zk_code o cc nL rt ini jt r = true) (hH : ze_H z0 dC dI dA sp xs A s nL ls st w g ρ ws H locs la vs) (hr : zk_ip n9 o cc nL rt ini jt pc ca cb cd tl r = true) (h : zo_spec r ca cb cd tl (ze_jp jt) kk k cal mc ms ls st w g nc ns = true) : W p l e R s m args below meth c H locs nc ns Q (F0 m pc la vs) := by
  obtain ⟨hZ, hx, hb, hml, hown, hKs, hsc, hA, hts, hR, hRd, hin, hcal, hjt⟩ := hF
  obtain ⟨h1, h3⟩ := zk_and hr
  obtain ⟨h1, h2⟩ := zk_and h1
  have hd := zk_dec h1
  have hn := zk_nx hV h2
  rcases zk_or h3 with h3 | h3
  · have h3 := of_decide_eq_true h3
    obtain ⟨q, nb, q1, q2, q3, q4, ⟨q6, q7, q8, q9⟩, q13, q14, q10, q12⟩ := hZ.2.2.2.2.2.2.2.2.2.2.1 o n9 ca cb cd tl h3
    subst q2; subst q3; subst q4
    obtain ⟨h5, h6⟩ := ze_condf (show cond (ze_rr nb st) (zo_call ca (nb + 1) 0 q.2.2.2.2.2.1 q.2.2.2.2.2.2 r ca (nb + 1) 0 [q.2.2.2.2.2.1, q.2.2.2.2.2.2] (ze_jp jt) kk k cal mc ms ls st w g nc ns) false = true from h)
    have hc9 := hcal ca q q1
    rw [q13] at hc9 q7
    exact zs_invI (tl := []) (jp := ze_jp jt) (ca := 0) (cb := 0) (cd := 0) (k := k) hx hb hml hown hKs hsc hA hts hR hRd hc9 q6 q7 q10 q8 q14 q9 q12 hd hK hn h6 (fun pop rest e1 e2 => ze_rr_spec nb st pop rest h5 e1 e2) hH
  · obtain ⟨h4, h5⟩ := zk_and h3
    have h4 := of_decide_eq_true h4
    have h5 := of_decide_eq_true h5
    subst h4
    obtain ⟨w1, w2, w3⟩ := hZ.2.2.2.2.2.2.2.2.2.2.2.1
    exact zs_objInit hx hb hml hown hts ⟨by omega, by omega⟩ (w1 o n9 h5) w2 w3 hd hK hn h hH

theorem zz_ireturn  (hE : ze_Re p l e R s m args below meth c Q z0 dC dI dA sp xs A nL cc rt k mc ms) (hF : ze_Fx p l R s m args meth c dC dI dA sp xs A o nL d cc rt ini jt cal mc ms) (hK : ze_KK p l e R s m args below meth c Q z0 dC dI dA sp xs A nL (fun cs => zk_code o cc nL rt ini jt cs = true) kk) (hV : zk_code o cc nL rt ini jt r = true) (hH : ze_H z0 dC dI dA sp xs A s nL ls st w g ρ ws H locs la vs) (hr : zk_ir o cc nL rt ini jt pc ca cb cd tl r = true) (h : zo_ireturn r ca cb cd tl (ze_jp jt) kk k cal mc ms ls st w g nc ns = true) : W p l e R s m args below meth c H locs nc ns Q (F0 m pc la vs) := by
  obtain ⟨hZ, hx, hb, hml, hown, hKs, hsc, hA, hts, hR, hRd, hin, hcal, hjt⟩ := hF
  obtain ⟨h1, h2⟩ := zk_and hr
  have hd := zk_dec h1
  rcases st with _ | ⟨v, t⟩
  · cases h
  rcases t with _ | ⟨v2, t⟩
  · rcases v with u | u
    · obtain ⟨c1, c2⟩ := ze_condf (show cond (ze_tc ca (.inl u)) (ze_end nc ns mc ms (k (some (.inl u)) w g)) false = true from h)
      obtain ⟨c3, c4, c5⟩ := ze_end_ok c2
      obtain ⟨y1, r1, e1, V1, L1⟩ := hH.2.2.2.2.2.2.2.cons
      rw [L1.nil] at e1
      obtain ⟨z, ez⟩ := ze_intV V1
      subst ez
      have hty : ∃ ty, rt = some ty ∧ ze_ty ca ty := by
        unfold zk_rt at h2
        split at h2
        · exact ⟨_, rfl, Or.inl ⟨of_decide_eq_true h2, rfl⟩⟩
        · exact ⟨_, rfl, Or.inr (Or.inl ⟨of_decide_eq_true h2, rfl⟩)⟩
        · exact ⟨_, rfl, Or.inr (Or.inr (Or.inr (Or.inr (Or.inr ⟨of_decide_eq_true h2, rfl⟩))))⟩
        · cases h2
      obtain ⟨ty, hr1, hr2⟩ := hty
      exact (hE pc nc ns ls _ w g ρ ws H locs la vs hH c3 c4).1 u z ty rfl e1 c5 hd hr1 (ze_fit hr2 c1 V1).1
    · cases h
  · cases h

theorem zz_lreturn  (hE : ze_Re p l e R s m args below meth c Q z0 dC dI dA sp xs A nL cc rt k mc ms) (hF : ze_Fx p l R s m args meth c dC dI dA sp xs A o nL d cc rt ini jt cal mc ms) (hK : ze_KK p l e R s m args below meth c Q z0 dC dI dA sp xs A nL (fun cs => zk_code o cc nL rt ini jt cs = true) kk) (hV : zk_code o cc nL rt ini jt r = true) (hH : ze_H z0 dC dI dA sp xs A s nL ls st w g ρ ws H locs la vs) (hr : zk_lr o cc nL rt ini jt pc ca cb cd tl r = true) (h : zo_lreturn r ca cb cd tl (ze_jp jt) kk k cal mc ms ls st w g nc ns = true) : W p l e R s m args below meth c H locs nc ns Q (F0 m pc la vs) := by
  obtain ⟨hZ, hx, hb, hml, hown, hKs, hsc, hA, hts, hR, hRd, hin, hcal, hjt⟩ := hF
  obtain ⟨h1, h2⟩ := zk_and hr
  have hd := zk_dec h1
  have h2 := of_decide_eq_true h2
  rcases st with _ | ⟨v, t⟩
  · cases h
  rcases t with _ | ⟨v2, t⟩
  · rcases v with u | ((q | u) | x)
    · cases h
    · cases h
    · obtain ⟨c3, c4, c5⟩ := ze_end_ok (show ze_end nc ns mc ms (k (some (.inr (.inl (.inr u)))) w g) = true from h)
      obtain ⟨y1, r1, e1, V1, L1⟩ := hH.2.2.2.2.2.2.2.cons
      rw [L1.nil] at e1
      obtain ⟨z, ez⟩ := ze_longV V1
      subst ez
      exact (hE pc nc ns ls _ w g ρ ws H locs la vs hH c3 c4).2.1 u z rfl e1 c5 hd h2
    · cases h
  · cases h

theorem zz_areturn  (hE : ze_Re p l e R s m args below meth c Q z0 dC dI dA sp xs A nL cc rt k mc ms) (hF : ze_Fx p l R s m args meth c dC dI dA sp xs A o nL d cc rt ini jt cal mc ms) (hK : ze_KK p l e R s m args below meth c Q z0 dC dI dA sp xs A nL (fun cs => zk_code o cc nL rt ini jt cs = true) kk) (hV : zk_code o cc nL rt ini jt r = true) (hH : ze_H z0 dC dI dA sp xs A s nL ls st w g ρ ws H locs la vs) (hr : zk_ar o cc nL rt ini jt pc ca cb cd tl r = true) (h : zo_areturn r ca cb cd tl (ze_jp jt) kk k cal mc ms ls st w g nc ns = true) : W p l e R s m args below meth c H locs nc ns Q (F0 m pc la vs) := by
  obtain ⟨hZ, hx, hb, hml, hown, hKs, hsc, hA, hts, hR, hRd, hin, hcal, hjt⟩ := hF
  obtain ⟨h1, h2⟩ := zk_and hr
  have hd := zk_dec h1
  have hty : ∃ ty, rt = some ty ∧ ((∃ n, ty = .object n) ∨ ∃ t, ty = FieldType.array t) := by
    split at h2
    · exact ⟨_, rfl, Or.inl ⟨_, rfl⟩⟩
    · exact ⟨_, rfl, Or.inr ⟨_, rfl⟩⟩
    · cases h2
  obtain ⟨ty, hr1, hr2⟩ := hty
  rcases st with _ | ⟨v, t⟩
  · cases h
  rcases t with _ | ⟨v2, t⟩
  · rcases v with u | ((q | u) | x)
    · cases h
    · obtain ⟨c3, c4, c5⟩ := ze_end_ok (show ze_end nc ns mc ms (k (some (.inr (.inl (.inl q)))) w g) = true from h)
      obtain ⟨y1, r1, e1, V1, L1⟩ := hH.2.2.2.2.2.2.2.cons
      rw [L1.nil] at e1
      obtain ⟨z, -, ez⟩ := id V1
      subst ez
      exact (hE pc nc ns ls _ w g ρ ws H locs la vs hH c3 c4).2.2.1 q z ty rfl e1 c5 hd hr1 hr2
    · cases h
    · cases h
  · cases h

theorem zz_return_  (hE : ze_Re p l e R s m args below meth c Q z0 dC dI dA sp xs A nL cc rt k mc ms) (hF : ze_Fx p l R s m args meth c dC dI dA sp xs A o nL d cc rt ini jt cal mc ms) (hK : ze_KK p l e R s m args below meth c Q z0 dC dI dA sp xs A nL (fun cs => zk_code o cc nL rt ini jt cs = true) kk) (hV : zk_code o cc nL rt ini jt r = true) (hH : ze_H z0 dC dI dA sp xs A s nL ls st w g ρ ws H locs la vs) (hr : zk_vr o cc nL rt ini jt pc ca cb cd tl r = true) (h : zo_return r ca cb cd tl (ze_jp jt) kk k cal mc ms ls st w g nc ns = true) : W p l e R s m args below meth c H locs nc ns Q (F0 m pc la vs) := by
  obtain ⟨hZ, hx, hb, hml, hown, hKs, hsc, hA, hts, hR, hRd, hin, hcal, hjt⟩ := hF
  obtain ⟨h1, h2⟩ := zk_and hr
  have hd := zk_dec h1
  have h2 := of_decide_eq_true h2
  rcases st with _ | ⟨v, t⟩
  · obtain ⟨c3, c4, c5⟩ := ze_end_ok (show ze_end nc ns mc ms (k none w g) = true from h)
    exact (hE pc nc ns ls _ w g ρ ws H locs la vs hH c3 c4).2.2.2 rfl hH.2.2.2.2.2.2.2.nil c5 hd h2
  · cases h

/-- a row -/
theorem ze_step {i : Jvm.ClassFile.Instr} (hE : ze_Re p l e R s m args below meth c Q z0 dC dI dA sp xs A nL cc rt k mc ms) (hF : ze_Fx p l R s m args meth c dC dI dA sp xs A o nL d cc rt ini jt cal mc ms) (hK : ze_KK p l e R s m args below meth c Q z0 dC dI dA sp xs A nL (fun cs => zk_code o cc nL rt ini jt cs = true) kk) (hV : zk_code o cc nL rt ini jt r = true) (hH : ze_H z0 dC dI dA sp xs A s nL ls st w g ρ ws H locs la vs) (hr : zk_do i o cc nL rt ini jt pc ca cb cd tl r = true) (h : ze_do i r ca cb cd tl (ze_jp jt) kk k cal mc ms ls st w g nc ns = true) : W p l e R s m args below meth c H locs nc ns Q (F0 m pc la vs) := by
  cases i with
  | aaload  => exact zz_aaload (ca := ca) (cb := cb) (cd := cd) (tl := tl) (k := k) hF hK hV hH hr h
  | aastore  => exact zz_aastore (ca := ca) (cb := cb) (cd := cd) (tl := tl) (k := k) hF hK hV hH hr h
  | aconst_null  => exact zz_aconst_null (ca := ca) (cb := cb) (cd := cd) (tl := tl) (k := k) hF hK hV hH hr h
  | aload x0 => exact zz_aload (ca := ca) (cb := cb) (cd := cd) (tl := tl) (k := k) hF hK hV hH hr h
  | aload_n x0 => exact zz_aload_n (ca := ca) (cb := cb) (cd := cd) (tl := tl) (k := k) hF hK hV hH hr h
  | anewarray x0 => exact zz_anewarray (ca := ca) (cb := cb) (cd := cd) (tl := tl) (k := k) hF hK hV hH hr h
  | areturn  => exact zz_areturn (ca := ca) (cb := cb) (cd := cd) (tl := tl) (k := k) hE hF hK hV hH hr h
  | arraylength  => exact zz_arraylength (ca := ca) (cb := cb) (cd := cd) (tl := tl) (k := k) hF hK hV hH hr h
  | astore x0 => exact zz_astore (ca := ca) (cb := cb) (cd := cd) (tl := tl) (k := k) hF hK hV hH hr h
  | astore_n x0 => exact zz_astore_n (ca := ca) (cb := cb) (cd := cd) (tl := tl) (k := k) hF hK hV hH hr h
  | athrow  => cases h
  | baload  => exact zz_baload (ca := ca) (cb := cb) (cd := cd) (tl := tl) (k := k) hF hK hV hH hr h
  | bastore  => exact zz_bastore (ca := ca) (cb := cb) (cd := cd) (tl := tl) (k := k) hF hK hV hH hr h
  | bipush x0 => exact zz_bipush (ca := ca) (cb := cb) (cd := cd) (tl := tl) (k := k) hF hK hV hH hr h
  | caload  => exact zz_caload (ca := ca) (cb := cb) (cd := cd) (tl := tl) (k := k) hF hK hV hH hr h
  | castore  => exact zz_castore (ca := ca) (cb := cb) (cd := cd) (tl := tl) (k := k) hF hK hV hH hr h
  | checkcast x0 => cases h
  | d2f  => cases h
  | d2i  => cases h
  | d2l  => cases h
  | dadd  => cases h
  | daload  => cases h
  | dastore  => cases h
  | dcmp x0 => cases h
  | dconst x0 => cases h
  | ddiv  => cases h
  | dload x0 => cases h
  | dload_n x0 => cases h
  | dmul  => cases h
  | dneg  => cases h
  | drem  => cases h
  | dreturn  => cases h
  | dstore x0 => cases h
  | dstore_n x0 => cases h
  | dsub  => cases h
  | dup  => exact zz_dup (ca := ca) (cb := cb) (cd := cd) (tl := tl) (k := k) hF hK hV hH hr h
  | dup_x1  => exact zz_dup_x1 (ca := ca) (cb := cb) (cd := cd) (tl := tl) (k := k) hF hK hV hH hr h
  | dup_x2  => exact zz_dup_x2 (ca := ca) (cb := cb) (cd := cd) (tl := tl) (k := k) hF hK hV hH hr h
  | dup2  => exact zz_dup2 (ca := ca) (cb := cb) (cd := cd) (tl := tl) (k := k) hF hK hV hH hr h
  | dup2_x1  => cases h
  | dup2_x2  => cases h
  | f2d  => cases h
  | f2i  => cases h
  | f2l  => cases h
  | fadd  => cases h
  | faload  => cases h
  | fastore  => cases h
  | fcmp x0 => cases h
  | fconst x0 => cases h
  | fdiv  => cases h
  | fload x0 => cases h
  | fload_n x0 => cases h
  | fmul  => cases h
  | fneg  => cases h
  | frem  => cases h
  | freturn  => cases h
  | fstore x0 => cases h
  | fstore_n x0 => cases h
  | fsub  => cases h
  | getfield x0 => exact zz_getfield (ca := ca) (cb := cb) (cd := cd) (tl := tl) (k := k) hF hK hV hH hr h
  | getstatic x0 => cases h
  | goto x0 => exact zz_goto (ca := ca) (cb := cb) (cd := cd) (tl := tl) (k := k) hF hK hV hH hr h
  | goto_w x0 => cases h
  | i2b  => exact zz_i2b (ca := ca) (cb := cb) (cd := cd) (tl := tl) (k := k) hF hK hV hH hr h
  | i2c  => exact zz_i2c (ca := ca) (cb := cb) (cd := cd) (tl := tl) (k := k) hF hK hV hH hr h
  | i2d  => cases h
  | i2f  => cases h
  | i2l  => exact zz_i2l (ca := ca) (cb := cb) (cd := cd) (tl := tl) (k := k) hF hK hV hH hr h
  | i2s  => exact zz_i2s (ca := ca) (cb := cb) (cd := cd) (tl := tl) (k := k) hF hK hV hH hr h
  | iadd  => exact zz_iadd (ca := ca) (cb := cb) (cd := cd) (tl := tl) (k := k) hF hK hV hH hr h
  | iaload  => exact zz_iaload (ca := ca) (cb := cb) (cd := cd) (tl := tl) (k := k) hF hK hV hH hr h
  | iand  => exact zz_iand (ca := ca) (cb := cb) (cd := cd) (tl := tl) (k := k) hF hK hV hH hr h
  | iastore  => exact zz_iastore (ca := ca) (cb := cb) (cd := cd) (tl := tl) (k := k) hF hK hV hH hr h
  | iconst x0 => exact zz_iconst (ca := ca) (cb := cb) (cd := cd) (tl := tl) (k := k) hF hK hV hH hr h
  | idiv  => exact zz_idiv (ca := ca) (cb := cb) (cd := cd) (tl := tl) (k := k) hF hK hV hH hr h
  | if_acmp x0 x1 => cases h
  | if_icmp x0 x1 => cases x0 with
    | eq => exact zz_icmp_eq (ca := ca) (cb := cb) (cd := cd) (tl := tl) (k := k) hF hK hV hH hr h
    | ne => exact zz_icmp_ne (ca := ca) (cb := cb) (cd := cd) (tl := tl) (k := k) hF hK hV hH hr h
    | lt => exact zz_icmp_lt (ca := ca) (cb := cb) (cd := cd) (tl := tl) (k := k) hF hK hV hH hr h
    | ge => exact zz_icmp_ge (ca := ca) (cb := cb) (cd := cd) (tl := tl) (k := k) hF hK hV hH hr h
    | gt => exact zz_icmp_gt (ca := ca) (cb := cb) (cd := cd) (tl := tl) (k := k) hF hK hV hH hr h
    | le => exact zz_icmp_le (ca := ca) (cb := cb) (cd := cd) (tl := tl) (k := k) hF hK hV hH hr h
  | ifCond x0 x1 => cases x0 with
    | eq => exact zz_if_eq (ca := ca) (cb := cb) (cd := cd) (tl := tl) (k := k) hF hK hV hH hr h
    | ne => exact zz_if_ne (ca := ca) (cb := cb) (cd := cd) (tl := tl) (k := k) hF hK hV hH hr h
    | lt => exact zz_if_lt (ca := ca) (cb := cb) (cd := cd) (tl := tl) (k := k) hF hK hV hH hr h
    | ge => exact zz_if_ge (ca := ca) (cb := cb) (cd := cd) (tl := tl) (k := k) hF hK hV hH hr h
    | gt => exact zz_if_gt (ca := ca) (cb := cb) (cd := cd) (tl := tl) (k := k) hF hK hV hH hr h
    | le => exact zz_if_le (ca := ca) (cb := cb) (cd := cd) (tl := tl) (k := k) hF hK hV hH hr h
  | ifnonnull x0 => exact zz_ifnonnull (ca := ca) (cb := cb) (cd := cd) (tl := tl) (k := k) hF hK hV hH hr h
  | ifnull x0 => exact zz_ifnull (ca := ca) (cb := cb) (cd := cd) (tl := tl) (k := k) hF hK hV hH hr h
  | iinc x0 x1 => exact zz_iinc (ca := ca) (cb := cb) (cd := cd) (tl := tl) (k := k) hF hK hV hH hr h
  | iload x0 => exact zz_iload (ca := ca) (cb := cb) (cd := cd) (tl := tl) (k := k) hF hK hV hH hr h
  | iload_n x0 => exact zz_iload_n (ca := ca) (cb := cb) (cd := cd) (tl := tl) (k := k) hF hK hV hH hr h
  | imul  => exact zz_imul (ca := ca) (cb := cb) (cd := cd) (tl := tl) (k := k) hF hK hV hH hr h
  | ineg  => exact zz_ineg (ca := ca) (cb := cb) (cd := cd) (tl := tl) (k := k) hF hK hV hH hr h
  | instanceof x0 => cases h
  | invokedynamic x0 => cases h
  | invokeinterface x0 x1 => cases h
  | invokespecial x0 => exact zz_invokespecial (ca := ca) (cb := cb) (cd := cd) (tl := tl) (k := k) hF hK hV hH hr h
  | invokestatic x0 => exact zz_invokestatic (ca := ca) (cb := cb) (cd := cd) (tl := tl) (k := k) hF hK hV hH hr h
  | invokevirtual x0 => exact zz_invokevirtual (ca := ca) (cb := cb) (cd := cd) (tl := tl) (k := k) hF hK hV hH hr h
  | ior  => exact zz_ior (ca := ca) (cb := cb) (cd := cd) (tl := tl) (k := k) hF hK hV hH hr h
  | irem  => exact zz_irem (ca := ca) (cb := cb) (cd := cd) (tl := tl) (k := k) hF hK hV hH hr h
  | ireturn  => exact zz_ireturn (ca := ca) (cb := cb) (cd := cd) (tl := tl) (k := k) hE hF hK hV hH hr h
  | ishl  => exact zz_ishl (ca := ca) (cb := cb) (cd := cd) (tl := tl) (k := k) hF hK hV hH hr h
  | ishr  => exact zz_ishr (ca := ca) (cb := cb) (cd := cd) (tl := tl) (k := k) hF hK hV hH hr h
  | istore x0 => exact zz_istore (ca := ca) (cb := cb) (cd := cd) (tl := tl) (k := k) hF hK hV hH hr h
  | istore_n x0 => exact zz_istore_n (ca := ca) (cb := cb) (cd := cd) (tl := tl) (k := k) hF hK hV hH hr h
  | isub  => exact zz_isub (ca := ca) (cb := cb) (cd := cd) (tl := tl) (k := k) hF hK hV hH hr h
  | iushr  => exact zz_iushr (ca := ca) (cb := cb) (cd := cd) (tl := tl) (k := k) hF hK hV hH hr h
  | ixor  => exact zz_ixor (ca := ca) (cb := cb) (cd := cd) (tl := tl) (k := k) hF hK hV hH hr h
  | jsr x0 => cases h
  | jsr_w x0 => cases h
  | l2d  => cases h
  | l2f  => cases h
  | l2i  => exact zz_l2i (ca := ca) (cb := cb) (cd := cd) (tl := tl) (k := k) hF hK hV hH hr h
  | ladd  => exact zz_ladd (ca := ca) (cb := cb) (cd := cd) (tl := tl) (k := k) hF hK hV hH hr h
  | laload  => exact zz_laload (ca := ca) (cb := cb) (cd := cd) (tl := tl) (k := k) hF hK hV hH hr h
  | land  => exact zz_land (ca := ca) (cb := cb) (cd := cd) (tl := tl) (k := k) hF hK hV hH hr h
  | lastore  => exact zz_lastore (ca := ca) (cb := cb) (cd := cd) (tl := tl) (k := k) hF hK hV hH hr h
  | lcmp  => exact zz_lcmp (ca := ca) (cb := cb) (cd := cd) (tl := tl) (k := k) hF hK hV hH hr h
  | lconst x0 => exact zz_lconst (ca := ca) (cb := cb) (cd := cd) (tl := tl) (k := k) hF hK hV hH hr h
  | ldc x0 => exact zz_ldc (ca := ca) (cb := cb) (cd := cd) (tl := tl) (k := k) hF hK hV hH hr h
  | ldc_w x0 => exact zz_ldc_w (ca := ca) (cb := cb) (cd := cd) (tl := tl) (k := k) hF hK hV hH hr h
  | ldc2_w x0 => exact zz_ldc2_w (ca := ca) (cb := cb) (cd := cd) (tl := tl) (k := k) hF hK hV hH hr h
  | ldiv  => exact zz_ldiv (ca := ca) (cb := cb) (cd := cd) (tl := tl) (k := k) hF hK hV hH hr h
  | lload x0 => exact zz_lload (ca := ca) (cb := cb) (cd := cd) (tl := tl) (k := k) hF hK hV hH hr h
  | lload_n x0 => exact zz_lload_n (ca := ca) (cb := cb) (cd := cd) (tl := tl) (k := k) hF hK hV hH hr h
  | lmul  => exact zz_lmul (ca := ca) (cb := cb) (cd := cd) (tl := tl) (k := k) hF hK hV hH hr h
  | lneg  => cases h
  | lookupswitch x0 x1 => exact zz_lookupswitch (ca := ca) (cb := cb) (cd := cd) (tl := tl) (k := k) hF hK hV hH hr h
  | lor  => exact zz_lor (ca := ca) (cb := cb) (cd := cd) (tl := tl) (k := k) hF hK hV hH hr h
  | lrem  => exact zz_lrem (ca := ca) (cb := cb) (cd := cd) (tl := tl) (k := k) hF hK hV hH hr h
  | lreturn  => exact zz_lreturn (ca := ca) (cb := cb) (cd := cd) (tl := tl) (k := k) hE hF hK hV hH hr h
  | lshl  => exact zz_lshl (ca := ca) (cb := cb) (cd := cd) (tl := tl) (k := k) hF hK hV hH hr h
  | lshr  => exact zz_lshr (ca := ca) (cb := cb) (cd := cd) (tl := tl) (k := k) hF hK hV hH hr h
  | lstore x0 => exact zz_lstore (ca := ca) (cb := cb) (cd := cd) (tl := tl) (k := k) hF hK hV hH hr h
  | lstore_n x0 => exact zz_lstore_n (ca := ca) (cb := cb) (cd := cd) (tl := tl) (k := k) hF hK hV hH hr h
  | lsub  => exact zz_lsub (ca := ca) (cb := cb) (cd := cd) (tl := tl) (k := k) hF hK hV hH hr h
  | lushr  => cases h
  | lxor  => cases h
  | monitorenter  => cases h
  | monitorexit  => cases h
  | multianewarray x0 x1 => cases h
  | new x0 => exact zz_new (ca := ca) (cb := cb) (cd := cd) (tl := tl) (k := k) hF hK hV hH hr h
  | newarray x0 => exact zz_newarray (ca := ca) (cb := cb) (cd := cd) (tl := tl) (k := k) hF hK hV hH hr h
  | nop  => cases h
  | pop  => exact zz_pop (ca := ca) (cb := cb) (cd := cd) (tl := tl) (k := k) hF hK hV hH hr h
  | pop2  => cases h
  | putfield x0 => exact zz_putfield (ca := ca) (cb := cb) (cd := cd) (tl := tl) (k := k) hF hK hV hH hr h
  | putstatic x0 => cases h
  | ret x0 => cases h
  | return_  => exact zz_return_ (ca := ca) (cb := cb) (cd := cd) (tl := tl) (k := k) hE hF hK hV hH hr h
  | saload  => cases h
  | sastore  => cases h
  | sipush x0 => exact zz_sipush (ca := ca) (cb := cb) (cd := cd) (tl := tl) (k := k) hF hK hV hH hr h
  | swap  => cases h
  | tableswitch x0 x1 x2 x3 => exact zz_tableswitch (ca := ca) (cb := cb) (cd := cd) (tl := tl) (k := k) hF hK hV hH hr h
/-- a run of rows -/
theorem ze_loop_ok (hF : ze_Fx p l R s m args meth c dC dI dA sp xs A o nL d cc rt ini jt cal mc ms) (hE : ze_Re p l e R s m args below meth c Q z0 dC dI dA sp xs A nL cc rt k mc ms) : ∀ n : Nat, ze_KK p l e R s m args below meth c Q z0 dC dI dA sp xs A nL (fun cs => zk_code o cc nL rt ini jt cs = true) (ze_loop (ze_jp jt) cal mc ms k n) := by
  intro n
  induction n with
  | zero => intro cs ls st w g nc ns h; cases h
  | succ n ih =>
    intro cs ls st w g nc ns h pc hat ρ ws H locs la vs hH
    obtain ⟨hV, e9, r, hcs, hpc⟩ := hat
    subst hcs
    obtain ⟨hrow, hVr⟩ := zk_tail hV
    subst hpc
    exact ze_step hE hF ih hVr hH hrow h
end ZZ
end
section
/-! THE ENGINE, part 12: methods -/
theorem ze_pad_get : ∀ (n j : Nat) (v : EV), (ze_pad n)[j]? = some v → v = eX 1 := by
  intro n
  induction n with
  | zero => intro j v h; cases h
  | succ n ih =>
    intro j v h
    cases j with
    | zero => exact (Option.some.inj h).symm
    | succ j => exact ih j v h
theorem ze_il_LL {sp : Nat → Nat} {ρ : List Int32} {ad : List Nat} : ∀ (av : List EV) (vs : List Value) (n i : Nat), ze_L sp ρ ad av vs → ∀ (j : Nat) (v : EV), (ze_il av n)[j]? = some v → v ≠ eX 1 → ∃ x, (i + j, x) ∈ lv_args i vs ∧ ze_V sp ρ ad v x := by
  intro av
  induction av with
  | nil => intro vs n i h j v hj hn; exact absurd (ze_pad_get n j v hj) hn
  | cons a av ih =>
    intro vs n i h j v hj hn
    obtain ⟨y, ys, rfl, h1, h2⟩ := h.cons
    have hc := ze_cat h1
    have hj : (a :: (cond (Nat.beq (ze_ct a) 2) (eX 1 :: ze_il av (Nat.sub n 2)) (ze_il av (Nat.sub n 1))))[j]? = some v := hj
    cases j with
    | zero =>
      cases (Option.some.inj hj)
      exact ⟨y, List.mem_cons_self, h1⟩
    | succ j =>
      rw [List.getElem?_cons_succ] at hj
      cases hb : Nat.beq (ze_ct a) 2 with
      | true =>
        rw [hb] at hj
        have e2 : y.category = 2 := by rw [hc]; exact Nat.eq_of_beq_eq_true hb
        have hj : (eX 1 :: ze_il av (Nat.sub n 2))[j]? = some v := hj
        cases j with
        | zero => exact absurd (Option.some.inj hj).symm hn
        | succ j =>
          rw [List.getElem?_cons_succ] at hj
          obtain ⟨x, q1, q2⟩ := ih ys (Nat.sub n 2) (i + 2) h2 j v hj hn
          refine ⟨x, List.mem_cons_of_mem _ ?_, q2⟩
          rw [if_pos e2]
          rw [show i + (j + 1 + 1) = i + 2 + j by omega]
          exact q1
      | false =>
        rw [hb] at hj
        have e2 : ¬ y.category = 2 := by
          rw [hc]
          intro q
          rw [q] at hb
          cases hb
        have hj : (ze_il av (Nat.sub n 1))[j]? = some v := hj
        obtain ⟨x, q1, q2⟩ := ih ys (Nat.sub n 1) (i + 1) h2 j v hj hn
        refine ⟨x, List.mem_cons_of_mem _ ?_, q2⟩
        rw [if_neg e2]
        rw [show i + (j + 1) = i + 1 + j by omega]
        exact q1
theorem ze_sl_len : ∀ (vs : List Value), (lg_sl vs).length ≤ (vs.map fun v => v.category).sum := by
  intro vs
  induction vs with
  | nil => exact Nat.le_refl _
  | cons v t ih =>
    have e : lg_sl (v :: t) = (if v.category = 2 then [Slot.val v, .second] else [.val v]) ++ lg_sl t := rfl
    rw [e, List.length_append, List.map_cons, List.sum_cons]
    have : (if v.category = 2 then [Slot.val v, .second] else [.val v]).length ≤ v.category := by
      cases v <;> exact Nat.le_refl _
    omega
/-- the table of rows agrees with the table of methods -/
def ZT (pr : List (List EM)) : Prop := ∀ (y : Nat) (ch : List EM) (m : EM) (q : ZMt), pr[y / 16]? = some ch → ch[y % 16]? = some m → zm y = some q →
  m.2.1 = q.2.2.1 ∧ m.2.2.1 = q.2.2.2.2.2.1 ∧ m.2.2.2 = q.2.2.2.2.2.2 ∧ plainName q.1.cls = true ∧ zn q.2.2.2.2.1 = q.1.cls ∧ ∃ ini : Bool, (ini = true → q.1.name = "<init>") ∧ (∀ cs ∈ m.1, zk_code q.2.2.2.2.1 q.2.1 q.2.2.1 q.2.2.2.1 ini m.1 cs = true) ∧ ∃ e r, m.1[0]? = some (e :: r) ∧ e.2.1 = 0
section ZM
variable {l : Launch} {dC : Nat → ClassId} {dI : Nat → Nat → Nat} {dA : Nat → ClassId} {sp : Nat → Nat} {xs : Nat → Int32} {A : Nat → Prop}
/-- a method's ends -/
theorem ze_ends {p : Program} {e : Env} {R : Room} {s : State} {m : MethodId} {args : Array Value} {below : List Frame} {meth : Method} {c : Code} {nL mc ms : Nat} {cc : ByteArray} {rt : Option FieldType} {k : ERt} {z0 : List Int32 × List Nat} (hx : p.tables.exec = Jvm.exec) (hb : c.code = cc) (hr : meth.sig.returnType = rt) (hlocks : meth.locks = false) : ze_Re p l e R s m args below meth c (MQ below (ze_Qc dC dI dA sp A k z0.1 z0.2) args s mc ms A) z0 dC dI dA sp xs A nL cc rt k mc ms := by
  intro pc nc ns ls st w g ρ ws H locs la vs hH h1 h2
  have hf : ∀ q ∈ locs, A q.base := hH.2.2.2.2.2.1.2.2
  have hP := hH.2.1.2
  have hV := hH.2.2.2.2.2.2.2
  refine ⟨?_, ?_, ?_, ?_⟩
  · intro u x ty e1 e2 e3 e4 e5 e6
    subst e1; subst e2
    exact W.widen h1 h2 (W.zret hx hb (hr.trans e5) e6 (fun t ht hw => ze_Qc_of hH hP.1 hP.2 e3 hV.1 ht) hf e4 hlocks)
  · intro u x e1 e2 e3 e4 e5
    subst e1; subst e2
    exact W.widen h1 h2 (W.lret hx hb (hr.trans e5) (fun t ht hw => ze_Qc_of hH hP.1 hP.2 e3 hV.1 ht) hf e4 hlocks)
  · intro u a ty e1 e2 e3 e4 e5 e6
    subst e1; subst e2
    exact W.widen h1 h2 (W.aret hx hb (hr.trans e5) e6 (Or.inr ⟨a, rfl⟩) (fun t ht hw => ze_Qc_of hH hP.1 hP.2 e3 hV.1 ht) hf e4 hlocks)
  · intro e1 e2 e3 e4 e5
    subst e1; subst e2
    exact W.widen h1 h2 (W.vret hx hb (hr.trans e5) (fun t ht hw => ze_Qc_of (r := none) (v := none) hH hP.1 hP.2 e3 trivial ht) hf e4 hlocks)
/-- the engine's methods -/
theorem ze_ex_ok (hZ : ZF) {pr : List (List EM)} (hT : ZT pr) : ∀ (d : Nat) (y : Nat) (q : ZMt), zm y = some q → ze_Cal l dC dI dA sp xs A (ze_ex pr d) y d q.1 q.2.1 q.2.2.1 q.2.2.2.1 q.2.2.2.2.2.1 q.2.2.2.2.2.2 := by
  intro d
  induction d with
  | zero => intro y q hq av w g k' h; cases h
  | succ d ih =>
    intro y q hq av w g k' h ρ ws avs hG hX hW hL
    obtain ⟨ch, h1, h⟩ := ze_n_spec _ _ _ h
    obtain ⟨m9, h2, h⟩ := ze_n_spec _ _ _ h
    obtain ⟨h3, h⟩ := ze_condf h
    obtain ⟨cs, h4, h⟩ := ze_jp_spec h
    obtain ⟨e1, e2, e3, hpl, hzn, ini, hini, hcode, e9, r9, h5, h6⟩ := hT y ch m9 q h1 h2 hq
    have e5 : cs = e9 :: r9 := by
      unfold ze_tgt at h4
      rw [show (0 / 16 : Nat) = 0 from rfl, h5] at h4
      exact (Option.some.inj h4).symm
    subst e5
    refine Met.ofW (cc := q.2.1) (maxL := q.2.2.1) (ret := q.2.2.2.1) hpl rfl ?_
    intro p e s m args below meth c s₁ B hml hP
    obtain ⟨rfl, hP1, hP2, hP3, hP4, hP5⟩ := hP
    have hts := atoms_spec (ws := Cond.code q.1 q.2.1 q.2.2.1 q.2.2.2.1 :: zb_T) B.pre
    have hown : s.vm.findClass q.1.cls = some m.cls := findClass_of_methodNamed B.named
    have hnm := (name_of_methodNamed B.named B.method).1
    have hFx : ze_Fx p l (headSpec (Cond.code q.1 q.2.1 q.2.2.1 q.2.2.2.1 :: zb_T) (ze_rm (d + 1) q.2.2.2.2.2.1 q.2.2.2.2.2.2)).room s m avs.toArray meth c dC dI dA sp xs A q.2.2.2.2.1 q.2.2.1 d q.2.1 q.2.2.2.1 ini m9.1 (ze_ex pr d) q.2.2.2.2.2.1 q.2.2.2.2.2.2 :=
      ⟨hZ, B.exec, B.bytes, hml, by rw [hzn]; exact hown, hP2, hP5, hP4, fun w hw => hts w (List.mem_cons_of_mem _ hw), ⟨rfl, rfl⟩, ⟨Nat.le_refl _, Nat.le_refl _⟩, fun hi => hnm.trans (hini hi), fun y q hy => ih y q hy, hcode⟩
    have hend := ze_ends (l := l) (dC := dC) (dI := dI) (dA := dA) (sp := sp) (xs := xs) (A := A) (e := e) (R := (headSpec (Cond.code q.1 q.2.1 q.2.2.1 q.2.2.2.1 :: zb_T) (ze_rm (d + 1) q.2.2.2.2.2.1 q.2.2.2.2.2.2)).room) (s := s) (m := m) (args := avs.toArray) (below := below) (nL := q.2.2.1) (mc := q.2.2.2.2.2.1) (ms := q.2.2.2.2.2.2) (k := k') (z0 := (ρ, ws.map (·.1))) B.exec B.bytes B.returns B.notSynchronized
    rw [lg_entry_eq]
    have hl := lv_entry avs (n := q.2.2.1) (Nat.le_trans (ze_sl_len avs) (by rw [ze_cs_sum hL, ← e1]; exact ze_ble' h3))
    rw [e1, e2, e3] at h
    refine ze_loop_ok hFx hend _ _ _ _ _ _ _ _ h 0 ⟨hcode _ (List.mem_of_getElem? h5), e9, r9, rfl, h6⟩ ρ ws s.heap [] _ [] ⟨hG, ⟨hX, List.prefix_refl _, List.prefix_refl _⟩, hW, hP1, hP3, ⟨Nat.le_refl _, fun _ _ _ => rfl, fun q hq => by cases hq⟩, ⟨_, hl, ?_⟩, trivial⟩
    intro j v hj hn
    obtain ⟨x, q1, q2⟩ := ze_il_LL av avs _ 0 hL j v hj hn
    rw [Nat.zero_add] at q1
    exact ⟨x, q1, q2⟩
end ZM
end
section
/-! THE ENGINE, part 13: tables -/
def ZP (m : EM) (q : ZMt) : Prop := m.2.1 = q.2.2.1 ∧ m.2.2.1 = q.2.2.2.2.2.1 ∧ m.2.2.2 = q.2.2.2.2.2.2 ∧ plainName q.1.cls = true ∧ zn q.2.2.2.2.1 = q.1.cls ∧ ∃ ini : Bool, (ini = true → q.1.name = "<init>") ∧ (∀ cs ∈ m.1, zk_code q.2.2.2.2.1 q.2.1 q.2.2.1 q.2.2.2.1 ini m.1 cs = true) ∧ ∃ e r, m.1[0]? = some (e :: r) ∧ e.2.1 = 0
def ZL : List EM → List (Option ZMt) → Prop
  | [], _ => True
  | m :: ms, qs => match qs with
    | [] => True
    | none :: qs => ZL ms qs
    | some q :: qs => ZP m q ∧ ZL ms qs
theorem ZL.nil : ZL [] [] := trivial
theorem ZL.sm {m : EM} {ms : List EM} {q : ZMt} {qs : List (Option ZMt)} (h1 : ZP m q) (h2 : ZL ms qs) : ZL (m :: ms) (some q :: qs) := ⟨h1, h2⟩
theorem ZL.nn {m : EM} {ms : List EM} {qs : List (Option ZMt)} (h2 : ZL ms qs) : ZL (m :: ms) (none :: qs) := h2
theorem ZL.get : ∀ (ms : List EM) (qs : List (Option ZMt)), ZL ms qs → ∀ (i : Nat) (m : EM) (q : ZMt), ms[i]? = some m → qs[i]? = some (some q) → ZP m q := by
  intro ms
  induction ms with
  | nil => intro qs _ i m q h1; cases h1
  | cons a ms ih =>
    intro qs h i m q h1 h2
    cases qs with
    | nil => cases h2
    | cons b qs =>
      cases b with
      | none =>
        cases i with
        | zero => cases h2
        | succ i => exact ih qs h i m q h1 h2
      | some b =>
        cases i with
        | zero => cases h1; cases h2; exact h.1
        | succ i => exact ih qs h.2 i m q h1 h2
def ZLL : List (List EM) → List (List (Option ZMt)) → Prop
  | [], _ => True
  | m :: ms, qs => match qs with
    | [] => True
    | q :: qs => ZL m q ∧ ZLL ms qs
theorem ZLL.nil : ZLL [] [] := trivial
theorem ZLL.cons {m : List EM} {ms : List (List EM)} {q : List (Option ZMt)} {qs : List (List (Option ZMt))} (h1 : ZL m q) (h2 : ZLL ms qs) : ZLL (m :: ms) (q :: qs) := ⟨h1, h2⟩
theorem ZLL.get : ∀ (ms : List (List EM)) (qs : List (List (Option ZMt))), ZLL ms qs → ∀ (i : Nat) (m : List EM) (q : List (Option ZMt)), ms[i]? = some m → qs[i]? = some q → ZL m q := by
  intro ms
  induction ms with
  | nil => intro qs _ i m q h1; cases h1
  | cons a ms ih =>
    intro qs h i m q h1 h2
    cases qs with
    | nil => cases h2
    | cons b qs =>
      cases i with
      | zero => cases h1; cases h2; exact h.1
      | succ i => exact ih qs h.2 i m q h1 h2
theorem ZLL.tab {pr : List (List EM)} (h : ZLL pr zm_) : ZT pr := by
  intro y ch m q h1 h2 h3
  unfold zm at h3
  obtain ⟨c, h4, h5⟩ := Option.bind_eq_some_iff.mp h3
  obtain ⟨q', h6, h7⟩ := Option.bind_eq_some_iff.mp h5
  have h7 : q' = some q := h7
  subst h7
  exact ZL.get _ _ (ZLL.get _ _ h _ _ _ h1 h4) _ _ _ h2 h6
theorem zk_mem1 {o nL : Nat} {cc : ByteArray} {rt : Option FieldType} {ini : Bool} {jt : List (List ECE)} {cs : List ECE} {r : List (List ECE)} (h : zk_code o cc nL rt ini jt cs = true) (h2 : ∀ c ∈ r, zk_code o cc nL rt ini jt c = true) : ∀ c ∈ cs :: r, zk_code o cc nL rt ini jt c = true := fun c hc => (List.mem_cons.mp hc).elim (fun e => e ▸ h) (h2 c)
theorem zk_mem0 {o nL : Nat} {cc : ByteArray} {rt : Option FieldType} {ini : Bool} {jt : List (List ECE)} : ∀ c ∈ ([] : List (List ECE)), zk_code o cc nL rt ini jt c = true := fun c hc => by cases hc
end
section
/-! the rows of code -/
noncomputable def zp_X0_init_0 : List ECE := (.aload_n 0, 0, 0, 0, 0, []) :: (.invokespecial 1, 1, 0, 0, 0, []) :: (.aload_n 0, 4, 0, 0, 0, []) :: (.new 7, 5, 2, 0, 0, [2, 0, 0]) :: (.dup, 8, 0, 0, 0, []) :: (.bipush 10, 9, 10, 0, 0, []) :: (.invokespecial 9, 11, 14, 2, 0, [1, 36]) :: (.putfield 12, 14, 0, 0, 2, []) :: (.return_, 17, 0, 0, 0, []) :: []
noncomputable def zp_X0_init : List (List ECE) := [zp_X0_init_0]
noncomputable def zp_X0_timesWind_0 : List ECE := (.iload_n 0, 0, 0, 0, 0, []) :: (.iconst 5, 1, 5, 0, 0, []) :: (.idiv, 2, 0, 0, 0, []) :: (.ireturn, 3, 0, 0, 0, []) :: []
noncomputable def zp_X0_timesWind : List (List ECE) := [zp_X0_timesWind_0]
noncomputable def zp_X0_timesNumber_0 : List ECE := (.iload_n 0, 0, 0, 0, 0, []) :: (.iconst 5, 1, 5, 0, 0, []) :: (.irem, 2, 0, 0, 0, []) :: (.iconst 2, 3, 2, 0, 0, []) :: (.isub, 4, 0, 0, 0, []) :: (.ireturn, 5, 0, 0, 0, []) :: []
noncomputable def zp_X0_timesNumber : List (List ECE) := [zp_X0_timesNumber_0]
noncomputable def zp_X0_firstOf_0 : List ECE := (.iconst 0, 0, 0, 0, 0, []) :: (.istore_n 1, 1, 1, 0, 0, []) :: (.iload_n 1, 2, 1, 0, 0, []) :: (.bipush 20, 3, 20, 0, 0, []) :: (.if_icmp .ge 17, 5, 13, 0, 0, []) :: (.iload_n 0, 8, 0, 0, 0, []) :: (.iload_n 1, 9, 1, 0, 0, []) :: (.ishr, 10, 0, 0, 0, []) :: (.iconst 1, 11, 1, 0, 0, []) :: (.iand, 12, 0, 0, 0, []) :: (.ifCond .ne 9, 13, 13, 0, 0, []) :: (.iinc 1 1, 16, 1, 1, 0, []) :: (.goto (-17), 19, 2, 0, 0, []) :: (.iload_n 1, 22, 1, 0, 0, []) :: (.ireturn, 23, 0, 0, 0, []) :: []
noncomputable def zp_X0_firstOf : List (List ECE) := [zp_X0_firstOf_0]
noncomputable def zp_X0_wayBy_0 : List ECE := (.iload_n 0, 0, 0, 0, 0, []) :: (.invokestatic 18, 1, 1, 1, 0, [0, 0]) :: (.iload_n 1, 4, 1, 0, 0, []) :: (.imul, 5, 0, 0, 0, []) :: (.iload_n 0, 6, 0, 0, 0, []) :: (.invokestatic 22, 7, 2, 1, 0, [0, 0]) :: (.iload_n 2, 10, 2, 0, 0, []) :: (.imul, 11, 0, 0, 0, []) :: (.iadd, 12, 0, 0, 0, []) :: (.ireturn, 13, 0, 0, 0, []) :: []
noncomputable def zp_X0_wayBy : List (List ECE) := [zp_X0_wayBy_0]
noncomputable def zp_X0_lawsLeft_1 : List ECE := (.iconst 0, 25, 0, 0, 0, []) :: (.ior, 26, 0, 0, 0, []) :: (.istore_n 1, 27, 1, 0, 0, []) :: (.iinc 2 1, 28, 2, 1, 0, []) :: (.goto (-27), 31, 4, 0, 0, []) :: (.iload_n 1, 34, 1, 0, 0, []) :: (.ireturn, 35, 0, 0, 0, []) :: []
noncomputable def zp_X0_lawsLeft_0 : List ECE := (.iconst 0, 0, 0, 0, 0, []) :: (.istore_n 1, 1, 1, 0, 0, []) :: (.iconst 0, 2, 0, 0, 0, []) :: (.istore_n 2, 3, 2, 0, 0, []) :: (.iload_n 2, 4, 2, 0, 0, []) :: (.bipush 20, 5, 20, 0, 0, []) :: (.if_icmp .ge 27, 7, 21, 0, 0, []) :: (.iload_n 1, 10, 1, 0, 0, []) :: (.aload_n 0, 11, 0, 0, 0, []) :: (.iload_n 2, 12, 2, 0, 0, []) :: (.invokevirtual 25, 13, 6, 2, 1, [0, 0]) :: (.ifCond .eq 9, 16, 16, 0, 0, []) :: (.iconst 1, 19, 1, 0, 0, []) :: (.iload_n 2, 20, 2, 0, 0, []) :: (.ishl, 21, 0, 0, 0, []) :: (.goto 4, 22, 17, 0, 0, []) :: zp_X0_lawsLeft_1
noncomputable def zp_X0_lawsLeft : List (List ECE) := [zp_X0_lawsLeft_0, zp_X0_lawsLeft_1]
noncomputable def zp_X0_suits_1 : List ECE := (.iconst 1, 28, 1, 0, 0, []) :: (.invokevirtual 33, 29, 17, 3, 3, [0, 0]) :: (.invokestatic 37, 32, 4, 3, 0, [0, 0]) :: (.aload_n 0, 35, 0, 0, 0, []) :: (.getfield 12, 36, 0, 0, 0, []) :: (.iload_n 2, 39, 2, 0, 0, []) :: (.iconst 2, 40, 2, 0, 0, []) :: (.invokevirtual 33, 41, 17, 3, 3, [0, 0]) :: (.if_icmp .eq 5, 44, 27, 0, 0, []) :: (.iconst 0, 47, 0, 0, 0, []) :: (.ireturn, 48, 1, 0, 0, []) :: (.iinc 2 1, 49, 2, 1, 0, []) :: (.goto (-50), 52, 2, 0, 0, []) :: (.iconst 1, 55, 1, 0, 0, []) :: (.ireturn, 56, 1, 0, 0, []) :: []
noncomputable def zp_X0_suits_0 : List ECE := (.iconst 0, 0, 0, 0, 0, []) :: (.istore_n 2, 1, 2, 0, 0, []) :: (.iload_n 2, 2, 2, 0, 0, []) :: (.aload_n 0, 3, 0, 0, 0, []) :: (.getfield 12, 4, 0, 0, 0, []) :: (.invokevirtual 29, 7, 15, 1, 3, [0, 0]) :: (.if_icmp .ge 45, 10, 29, 0, 0, []) :: (.iload_n 1, 13, 1, 0, 0, []) :: (.aload_n 0, 14, 0, 0, 0, []) :: (.getfield 12, 15, 0, 0, 0, []) :: (.iload_n 2, 18, 2, 0, 0, []) :: (.iconst 0, 19, 0, 0, 0, []) :: (.invokevirtual 33, 20, 17, 3, 3, [0, 0]) :: (.aload_n 0, 23, 0, 0, 0, []) :: (.getfield 12, 24, 0, 0, 0, []) :: (.iload_n 2, 27, 2, 0, 0, []) :: zp_X0_suits_1
noncomputable def zp_X0_suits : List (List ECE) := [zp_X0_suits_0, zp_X0_suits_1]
noncomputable def zp_X0_mostLeft_3 : List ECE := (.goto (-67), 85, 11, 0, 0, []) :: (.iload_n 3, 88, 3, 0, 0, []) :: (.iload 5, 89, 5, 0, 0, []) :: (.invokestatic 41, 91, 325, 2, 0, [0, 0]) :: (.istore_n 3, 94, 3, 0, 0, []) :: (.iinc 4 1, 95, 4, 1, 0, []) :: (.goto (-93), 98, 4, 0, 0, []) :: (.iload_n 3, 101, 3, 0, 0, []) :: (.ireturn, 102, 0, 0, 0, []) :: []
noncomputable def zp_X0_mostLeft_2 : List ECE := (.ifCond .eq 24, 54, 44, 0, 0, []) :: (.iload 4, 57, 4, 0, 0, []) :: (.iload_n 1, 59, 1, 0, 0, []) :: (.iload_n 2, 60, 2, 0, 0, []) :: (.invokestatic 37, 61, 4, 3, 0, [0, 0]) :: (.iload 6, 64, 6, 0, 0, []) :: (.iload_n 1, 66, 1, 0, 0, []) :: (.iload_n 2, 67, 2, 0, 0, []) :: (.invokestatic 37, 68, 4, 3, 0, [0, 0]) :: (.if_icmp .ne 7, 71, 44, 0, 0, []) :: (.iconst 1, 74, 1, 0, 0, []) :: (.goto 4, 75, 45, 0, 0, []) :: (.iconst 0, 78, 0, 0, 0, []) :: (.iadd, 79, 0, 0, 0, []) :: (.istore 5, 80, 5, 0, 0, []) :: (.iinc 6 1, 82, 6, 1, 0, []) :: zp_X0_mostLeft_3
noncomputable def zp_X0_mostLeft_1 : List ECE := (.ishr, 28, 0, 0, 0, []) :: (.iconst 1, 29, 1, 0, 0, []) :: (.iand, 30, 0, 0, 0, []) :: (.ifCond .eq 16, 31, 28, 0, 0, []) :: (.iload_n 0, 34, 0, 0, 0, []) :: (.iload 6, 35, 6, 0, 0, []) :: (.ishr, 37, 0, 0, 0, []) :: (.iconst 1, 38, 1, 0, 0, []) :: (.iand, 39, 0, 0, 0, []) :: (.ifCond .eq 7, 40, 28, 0, 0, []) :: (.iconst 1, 43, 1, 0, 0, []) :: (.goto 4, 44, 29, 0, 0, []) :: (.iconst 0, 47, 0, 0, 0, []) :: (.istore 7, 48, 7, 0, 0, []) :: (.iload 5, 50, 5, 0, 0, []) :: (.iload 7, 52, 7, 0, 0, []) :: zp_X0_mostLeft_2
noncomputable def zp_X0_mostLeft_0 : List ECE := (.iconst 0, 0, 0, 0, 0, []) :: (.istore_n 3, 1, 3, 0, 0, []) :: (.iconst 0, 2, 0, 0, 0, []) :: (.istore 4, 3, 4, 0, 0, []) :: (.iload 4, 5, 4, 0, 0, []) :: (.bipush 20, 7, 20, 0, 0, []) :: (.if_icmp .ge 92, 9, 55, 0, 0, []) :: (.iconst 0, 12, 0, 0, 0, []) :: (.istore 5, 13, 5, 0, 0, []) :: (.iconst 0, 15, 0, 0, 0, []) :: (.istore 6, 16, 6, 0, 0, []) :: (.iload 6, 18, 6, 0, 0, []) :: (.bipush 20, 20, 20, 0, 0, []) :: (.if_icmp .ge 66, 22, 49, 0, 0, []) :: (.iload_n 0, 25, 0, 0, 0, []) :: (.iload 4, 26, 4, 0, 0, []) :: zp_X0_mostLeft_1
noncomputable def zp_X0_mostLeft : List (List ECE) := [zp_X0_mostLeft_0, zp_X0_mostLeft_1, zp_X0_mostLeft_2, zp_X0_mostLeft_3]
noncomputable def zp_X1_init_0 : List ECE := (.aload_n 0, 0, 0, 0, 0, []) :: (.invokespecial 3, 1, 0, 0, 0, []) :: (.aload_n 0, 4, 0, 0, 0, []) :: (.new 9, 5, 2, 0, 0, [2, 0, 0]) :: (.dup, 8, 0, 0, 0, []) :: (.bipush 12, 9, 12, 0, 0, []) :: (.invokespecial 11, 11, 14, 2, 0, [1, 36]) :: (.putfield 14, 14, 1, 0, 2, []) :: (.return_, 17, 0, 0, 0, []) :: []
noncomputable def zp_X1_init : List (List ECE) := [zp_X1_init_0]
noncomputable def zp_X1_isTalk_1 : List ECE := (.ireturn, 54, 1, 0, 0, []) :: (.iconst 0, 55, 0, 0, 0, []) :: (.ireturn, 56, 1, 0, 0, []) :: []
noncomputable def zp_X1_isTalk_0 : List ECE := (.iload_n 0, 0, 0, 0, 0, []) :: (.tableswitch 54 0 3 #[31, 39, 47, 47], 1, 17, 0, 0, [2147483648, 2, 2147483649, 7, 2147483650, 12, 2147483651, 12]) :: (.iload_n 1, 32, 1, 0, 0, []) :: (.iconst 0, 33, 0, 0, 0, []) :: (.bipush 7, 34, 7, 0, 0, []) :: (.invokestatic 20, 36, 191, 3, 0, [0, 0]) :: (.ireturn, 39, 1, 0, 0, []) :: (.iload_n 1, 40, 1, 0, 0, []) :: (.iconst 0, 41, 0, 0, 0, []) :: (.bipush 9, 42, 9, 0, 0, []) :: (.invokestatic 20, 44, 191, 3, 0, [0, 0]) :: (.ireturn, 47, 1, 0, 0, []) :: (.iload_n 1, 48, 1, 0, 0, []) :: (.iconst 0, 49, 0, 0, 0, []) :: (.iconst 4, 50, 4, 0, 0, []) :: (.invokestatic 20, 51, 191, 3, 0, [0, 0]) :: zp_X1_isTalk_1
noncomputable def zp_X1_isTalk : List (List ECE) := [zp_X1_isTalk_0, zp_X1_isTalk_1]
noncomputable def zp_X1_peopleLeft_1 : List ECE := (.ishl, 24, 0, 0, 0, []) :: (.goto 4, 25, 19, 0, 0, []) :: (.iconst 0, 28, 0, 0, 0, []) :: (.ior, 29, 0, 0, 0, []) :: (.istore_n 2, 30, 2, 0, 0, []) :: (.iinc 3 1, 31, 3, 1, 0, []) :: (.goto (-30), 34, 4, 0, 0, []) :: (.iload_n 2, 37, 2, 0, 0, []) :: (.ireturn, 38, 0, 0, 0, []) :: []
noncomputable def zp_X1_peopleLeft_0 : List ECE := (.iconst 0, 0, 0, 0, 0, []) :: (.istore_n 2, 1, 2, 0, 0, []) :: (.iconst 0, 2, 0, 0, 0, []) :: (.istore_n 3, 3, 3, 0, 0, []) :: (.iload_n 3, 4, 3, 0, 0, []) :: (.aload_n 1, 5, 1, 0, 0, []) :: (.getfield 24, 6, 9, 4, 0, []) :: (.if_icmp .ge 28, 9, 23, 0, 0, []) :: (.iload_n 2, 12, 2, 0, 0, []) :: (.aload_n 0, 13, 0, 0, 0, []) :: (.aload_n 1, 14, 1, 0, 0, []) :: (.iload_n 3, 15, 3, 0, 0, []) :: (.invokevirtual 30, 16, 11, 3, 2, [0, 0]) :: (.ifCond .eq 9, 19, 18, 0, 0, []) :: (.iconst 1, 22, 1, 0, 0, []) :: (.iload_n 3, 23, 3, 0, 0, []) :: zp_X1_peopleLeft_1
noncomputable def zp_X1_peopleLeft : List (List ECE) := [zp_X1_peopleLeft_0, zp_X1_peopleLeft_1]
noncomputable def zp_X2_init_0 : List ECE := (.aload_n 0, 0, 0, 0, 0, []) :: (.invokespecial 3, 1, 0, 0, 0, []) :: (.aload_n 0, 4, 0, 0, 0, []) :: (.bipush 36, 5, 36, 0, 0, []) :: (.newarray .int, 7, 100, 0, 0, []) :: (.putfield 11, 9, 2, 0, 2, []) :: (.aload_n 0, 12, 0, 0, 0, []) :: (.iload_n 1, 13, 1, 0, 0, []) :: (.bipush 12, 14, 12, 0, 0, []) :: (.invokestatic 15, 16, 326, 2, 0, [0, 0]) :: (.putfield 21, 19, 2, 1, 0, []) :: (.return_, 22, 0, 0, 0, []) :: []
noncomputable def zp_X2_init : List (List ECE) := [zp_X2_init_0]
noncomputable def zp_X2_size_0 : List ECE := (.aload_n 0, 0, 0, 0, 0, []) :: (.getfield 25, 1, 2, 2, 0, []) :: (.ireturn, 4, 0, 0, 0, []) :: []
noncomputable def zp_X2_size : List (List ECE) := [zp_X2_size_0]
noncomputable def zp_X2_add_2 : List ECE := (.dup, 50, 0, 0, 0, []) :: (.getfield 25, 51, 2, 2, 0, []) :: (.iconst 1, 54, 1, 0, 0, []) :: (.iadd, 55, 0, 0, 0, []) :: (.putfield 25, 56, 2, 2, 0, []) :: (.aload_n 0, 59, 0, 0, 0, []) :: (.getfield 25, 60, 2, 2, 0, []) :: (.ireturn, 63, 0, 0, 0, []) :: []
noncomputable def zp_X2_add_1 : List ECE := (.iastore, 28, 0, 0, 0, []) :: (.aload_n 0, 29, 0, 0, 0, []) :: (.getfield 11, 30, 2, 0, 0, []) :: (.iload 4, 33, 4, 0, 0, []) :: (.iconst 1, 35, 1, 0, 0, []) :: (.iadd, 36, 0, 0, 0, []) :: (.iload_n 2, 37, 2, 0, 0, []) :: (.iastore, 38, 0, 0, 0, []) :: (.aload_n 0, 39, 0, 0, 0, []) :: (.getfield 11, 40, 2, 0, 0, []) :: (.iload 4, 43, 4, 0, 0, []) :: (.iconst 2, 45, 2, 0, 0, []) :: (.iadd, 46, 0, 0, 0, []) :: (.iload_n 3, 47, 3, 0, 0, []) :: (.iastore, 48, 0, 0, 0, []) :: (.aload_n 0, 49, 0, 0, 0, []) :: zp_X2_add_2
noncomputable def zp_X2_add_0 : List ECE := (.aload_n 0, 0, 0, 0, 0, []) :: (.getfield 25, 1, 2, 2, 0, []) :: (.aload_n 0, 4, 0, 0, 0, []) :: (.getfield 21, 5, 2, 1, 0, []) :: (.if_icmp .lt 5, 8, 7, 0, 0, []) :: (.iconst (-1), 11, 4294967295, 0, 0, []) :: (.ireturn, 12, 0, 0, 0, []) :: (.iconst 3, 13, 3, 0, 0, []) :: (.aload_n 0, 14, 0, 0, 0, []) :: (.getfield 25, 15, 2, 2, 0, []) :: (.imul, 18, 0, 0, 0, []) :: (.istore 4, 19, 4, 0, 0, []) :: (.aload_n 0, 21, 0, 0, 0, []) :: (.getfield 11, 22, 2, 0, 0, []) :: (.iload 4, 25, 4, 0, 0, []) :: (.iload_n 1, 27, 1, 0, 0, []) :: zp_X2_add_1
noncomputable def zp_X2_add : List (List ECE) := [zp_X2_add_0, zp_X2_add_1, zp_X2_add_2]
noncomputable def zp_X2_empty_0 : List ECE := (.aload_n 0, 0, 0, 0, 0, []) :: (.getfield 25, 1, 2, 2, 0, []) :: (.istore_n 1, 4, 1, 0, 0, []) :: (.aload_n 0, 5, 0, 0, 0, []) :: (.iconst 0, 6, 0, 0, 0, []) :: (.putfield 25, 7, 2, 2, 0, []) :: (.iload_n 1, 10, 1, 0, 0, []) :: (.ireturn, 11, 0, 0, 0, []) :: []
noncomputable def zp_X2_empty : List (List ECE) := [zp_X2_empty_0]
noncomputable def zp_X3_init_2 : List ECE := (.new 11, 60, 9, 0, 0, [2, 2, 2, 0, 0, 0, 0, 0, 0]) :: (.dup, 63, 0, 0, 0, []) :: (.invokespecial 20, 64, 80, 1, 0, [3, 30]) :: (.aastore, 67, 0, 0, 0, []) :: (.iinc 1 1, 68, 1, 1, 0, []) :: (.goto (-21), 71, 26, 0, 0, []) :: (.return_, 74, 0, 0, 0, []) :: []
noncomputable def zp_X3_init_1 : List ECE := (.getfield 13, 30, 3, 0, 0, []) :: (.iload_n 1, 33, 1, 0, 0, []) :: (.new 11, 34, 9, 0, 0, [2, 2, 2, 0, 0, 0, 0, 0, 0]) :: (.dup, 37, 0, 0, 0, []) :: (.invokespecial 20, 38, 80, 1, 0, [3, 30]) :: (.aastore, 41, 0, 0, 0, []) :: (.iinc 1 1, 42, 1, 1, 0, []) :: (.goto (-22), 45, 12, 0, 0, []) :: (.iconst 0, 48, 0, 0, 0, []) :: (.istore_n 1, 49, 1, 0, 0, []) :: (.iload_n 1, 50, 1, 0, 0, []) :: (.iconst 3, 51, 3, 0, 0, []) :: (.if_icmp .ge 22, 52, 38, 0, 0, []) :: (.aload_n 0, 55, 0, 0, 0, []) :: (.getfield 17, 56, 3, 1, 0, []) :: (.iload_n 1, 59, 1, 0, 0, []) :: zp_X3_init_2
noncomputable def zp_X3_init_0 : List ECE := (.aload_n 0, 0, 0, 0, 0, []) :: (.invokespecial 3, 1, 0, 0, 0, []) :: (.aload_n 0, 4, 0, 0, 0, []) :: (.bipush 15, 5, 15, 0, 0, []) :: (.anewarray 11, 7, 209, 2, 0, []) :: (.putfield 13, 10, 3, 0, 2, []) :: (.aload_n 0, 13, 0, 0, 0, []) :: (.iconst 3, 14, 3, 0, 0, []) :: (.anewarray 11, 15, 209, 2, 0, []) :: (.putfield 17, 18, 3, 1, 2, []) :: (.iconst 0, 21, 0, 0, 0, []) :: (.istore_n 1, 22, 1, 0, 0, []) :: (.iload_n 1, 23, 1, 0, 0, []) :: (.bipush 15, 24, 15, 0, 0, []) :: (.if_icmp .ge 22, 26, 24, 0, 0, []) :: (.aload_n 0, 29, 0, 0, 0, []) :: zp_X3_init_1
noncomputable def zp_X3_init : List (List ECE) := [zp_X3_init_0, zp_X3_init_1, zp_X3_init_2]
noncomputable def zp_X3_size_0 : List ECE := (.aload_n 0, 0, 0, 0, 0, []) :: (.getfield 21, 1, 3, 3, 0, []) :: (.ireturn, 4, 0, 0, 0, []) :: []
noncomputable def zp_X3_size : List (List ECE) := [zp_X3_size_0]
noncomputable def zp_X3_push_2 : List ECE := (.iadd, 56, 0, 0, 0, []) :: (.putfield 21, 57, 3, 3, 0, []) :: (.return_, 60, 0, 0, 0, []) :: []
noncomputable def zp_X3_push_1 : List ECE := (.isub, 28, 0, 0, 0, []) :: (.putfield 21, 29, 3, 3, 0, []) :: (.aload_n 0, 32, 0, 0, 0, []) :: (.aload_n 0, 33, 0, 0, 0, []) :: (.getfield 21, 34, 3, 3, 0, []) :: (.invokevirtual 28, 37, 24, 2, 4, [0, 0]) :: (.astore_n 2, 40, 2, 0, 0, []) :: (.aload_n 2, 41, 2, 0, 0, []) :: (.ifnull 18, 42, 34, 0, 0, []) :: (.aload_n 2, 45, 2, 0, 0, []) :: (.aload_n 1, 46, 1, 0, 0, []) :: (.invokevirtual 32, 47, 81, 2, 10, [0, 0]) :: (.aload_n 0, 50, 0, 0, 0, []) :: (.dup, 51, 0, 0, 0, []) :: (.getfield 21, 52, 3, 3, 0, []) :: (.iconst 1, 55, 1, 0, 0, []) :: zp_X3_push_2
noncomputable def zp_X3_push_0 : List ECE := (.aload_n 0, 0, 0, 0, 0, []) :: (.getfield 21, 1, 3, 3, 0, []) :: (.bipush 15, 4, 15, 0, 0, []) :: (.if_icmp .ne 26, 6, 18, 0, 0, []) :: (.aload_n 0, 9, 0, 0, 0, []) :: (.aload_n 0, 10, 0, 0, 0, []) :: (.getfield 25, 11, 3, 2, 0, []) :: (.iconst 1, 14, 1, 0, 0, []) :: (.iadd, 15, 0, 0, 0, []) :: (.bipush 15, 16, 15, 0, 0, []) :: (.irem, 18, 0, 0, 0, []) :: (.putfield 25, 19, 3, 2, 0, []) :: (.aload_n 0, 22, 0, 0, 0, []) :: (.dup, 23, 0, 0, 0, []) :: (.getfield 21, 24, 3, 3, 0, []) :: (.iconst 1, 27, 1, 0, 0, []) :: zp_X3_push_1
noncomputable def zp_X3_push : List (List ECE) := [zp_X3_push_0, zp_X3_push_1, zp_X3_push_2]
noncomputable def zp_X3_pop_1 : List ECE := (.aload_n 2, 28, 2, 0, 0, []) :: (.ifnull 8, 29, 21, 0, 0, []) :: (.aload_n 1, 32, 1, 0, 0, []) :: (.aload_n 2, 33, 2, 0, 0, []) :: (.invokevirtual 32, 34, 81, 2, 10, [0, 0]) :: (.aload_n 0, 37, 0, 0, 0, []) :: (.getfield 21, 38, 3, 3, 0, []) :: (.ireturn, 41, 0, 0, 0, []) :: []
noncomputable def zp_X3_pop_0 : List ECE := (.aload_n 0, 0, 0, 0, 0, []) :: (.getfield 21, 1, 3, 3, 0, []) :: (.ifCond .ne 5, 4, 5, 0, 0, []) :: (.iconst (-1), 7, 4294967295, 0, 0, []) :: (.ireturn, 8, 0, 0, 0, []) :: (.aload_n 0, 9, 0, 0, 0, []) :: (.dup, 10, 0, 0, 0, []) :: (.getfield 21, 11, 3, 3, 0, []) :: (.iconst 1, 14, 1, 0, 0, []) :: (.isub, 15, 0, 0, 0, []) :: (.putfield 21, 16, 3, 3, 0, []) :: (.aload_n 0, 19, 0, 0, 0, []) :: (.aload_n 0, 20, 0, 0, 0, []) :: (.getfield 21, 21, 3, 3, 0, []) :: (.invokevirtual 28, 24, 24, 2, 4, [0, 0]) :: (.astore_n 2, 27, 2, 0, 0, []) :: zp_X3_pop_1
noncomputable def zp_X3_pop : List (List ECE) := [zp_X3_pop_0, zp_X3_pop_1]
noncomputable def zp_X3_deedAt_0 : List ECE := (.aload_n 0, 0, 0, 0, 0, []) :: (.getfield 25, 1, 3, 2, 0, []) :: (.iload_n 1, 4, 1, 0, 0, []) :: (.iadd, 5, 0, 0, 0, []) :: (.bipush 15, 6, 15, 0, 0, []) :: (.irem, 8, 0, 0, 0, []) :: (.istore_n 2, 9, 2, 0, 0, []) :: (.iload_n 2, 10, 2, 0, 0, []) :: (.ifCond .lt 12, 11, 14, 0, 0, []) :: (.aload_n 0, 14, 0, 0, 0, []) :: (.getfield 13, 15, 3, 0, 0, []) :: (.iload_n 2, 18, 2, 0, 0, []) :: (.aaload, 19, 0, 0, 0, []) :: (.goto 4, 20, 15, 0, 0, []) :: (.aconst_null, 23, 0, 0, 0, []) :: (.areturn, 24, 0, 0, 0, []) :: []
noncomputable def zp_X3_deedAt : List (List ECE) := [zp_X3_deedAt_0]
noncomputable def zp_X3_store_1 : List ECE := (.aload_n 2, 26, 2, 0, 0, []) :: (.invokevirtual 32, 27, 81, 2, 10, [0, 0]) :: (.aload_n 0, 30, 0, 0, 0, []) :: (.dup, 31, 0, 0, 0, []) :: (.getfield 40, 32, 3, 4, 0, []) :: (.iconst 1, 35, 1, 0, 0, []) :: (.iload_n 1, 36, 1, 0, 0, []) :: (.ishl, 37, 0, 0, 0, []) :: (.ior, 38, 0, 0, 0, []) :: (.putfield 40, 39, 3, 4, 0, []) :: (.iconst 1, 42, 1, 0, 0, []) :: (.ireturn, 43, 1, 0, 0, []) :: []
noncomputable def zp_X3_store_0 : List ECE := (.iload_n 1, 0, 1, 0, 0, []) :: (.iconst 0, 1, 0, 0, 0, []) :: (.iconst 2, 2, 2, 0, 0, []) :: (.invokestatic 36, 3, 191, 3, 0, [0, 0]) :: (.ifCond .eq 12, 6, 10, 0, 0, []) :: (.aload_n 0, 9, 0, 0, 0, []) :: (.getfield 17, 10, 3, 1, 0, []) :: (.iload_n 1, 13, 1, 0, 0, []) :: (.aaload, 14, 0, 0, 0, []) :: (.ifnonnull 5, 15, 12, 0, 0, []) :: (.iconst 0, 18, 0, 0, 0, []) :: (.ireturn, 19, 1, 0, 0, []) :: (.aload_n 0, 20, 0, 0, 0, []) :: (.getfield 17, 21, 3, 1, 0, []) :: (.iload_n 1, 24, 1, 0, 0, []) :: (.aaload, 25, 0, 0, 0, []) :: zp_X3_store_1
noncomputable def zp_X3_store : List (List ECE) := [zp_X3_store_0, zp_X3_store_1]
noncomputable def zp_X3_bringBack_1 : List ECE := (.ifnonnull 5, 26, 19, 0, 0, []) :: (.iconst 0, 29, 0, 0, 0, []) :: (.ireturn, 30, 1, 0, 0, []) :: (.aload_n 2, 31, 2, 0, 0, []) :: (.aload_n 0, 32, 0, 0, 0, []) :: (.getfield 17, 33, 3, 1, 0, []) :: (.iload_n 1, 36, 1, 0, 0, []) :: (.aaload, 37, 0, 0, 0, []) :: (.invokevirtual 32, 38, 81, 2, 10, [0, 0]) :: (.aload_n 0, 41, 0, 0, 0, []) :: (.iconst 0, 42, 0, 0, 0, []) :: (.putfield 21, 43, 3, 3, 0, []) :: (.iconst 1, 46, 1, 0, 0, []) :: (.ireturn, 47, 1, 0, 0, []) :: []
noncomputable def zp_X3_bringBack_0 : List ECE := (.iload_n 1, 0, 1, 0, 0, []) :: (.iconst 0, 1, 0, 0, 0, []) :: (.iconst 2, 2, 2, 0, 0, []) :: (.invokestatic 36, 3, 191, 3, 0, [0, 0]) :: (.ifCond .eq 23, 6, 17, 0, 0, []) :: (.aload_n 0, 9, 0, 0, 0, []) :: (.getfield 40, 10, 3, 4, 0, []) :: (.iload_n 1, 13, 1, 0, 0, []) :: (.ishr, 14, 0, 0, 0, []) :: (.iconst 1, 15, 1, 0, 0, []) :: (.iand, 16, 0, 0, 0, []) :: (.ifCond .eq 12, 17, 17, 0, 0, []) :: (.aload_n 0, 20, 0, 0, 0, []) :: (.getfield 17, 21, 3, 1, 0, []) :: (.iload_n 1, 24, 1, 0, 0, []) :: (.aaload, 25, 0, 0, 0, []) :: zp_X3_bringBack_1
noncomputable def zp_X3_bringBack : List (List ECE) := [zp_X3_bringBack_0, zp_X3_bringBack_1]
noncomputable def zp_X4_init_0 : List ECE := (.aload_n 0, 0, 0, 0, 0, []) :: (.invokespecial 1, 1, 0, 0, 0, []) :: (.aload_n 0, 4, 0, 0, 0, []) :: (.bipush 12, 5, 12, 0, 0, []) :: (.newarray .long, 7, 150, 3, 0, []) :: (.putfield 9, 9, 4, 0, 2, []) :: (.return_, 12, 0, 0, 0, []) :: []
noncomputable def zp_X4_init : List (List ECE) := [zp_X4_init_0]
noncomputable def zp_X4_size_0 : List ECE := (.aload_n 0, 0, 0, 0, 0, []) :: (.getfield 13, 1, 4, 1, 0, []) :: (.ireturn, 4, 0, 0, 0, []) :: []
noncomputable def zp_X4_size : List (List ECE) := [zp_X4_size_0]
noncomputable def zp_X4_clear_0 : List ECE := (.aload_n 0, 0, 0, 0, 0, []) :: (.iconst 0, 1, 0, 0, 0, []) :: (.putfield 13, 2, 4, 1, 0, []) :: (.return_, 5, 0, 0, 0, []) :: []
noncomputable def zp_X4_clear : List (List ECE) := [zp_X4_clear_0]
noncomputable def zp_X4_add_1 : List ECE := (.return_, 29, 0, 0, 0, []) :: []
noncomputable def zp_X4_add_0 : List ECE := (.aload_n 0, 0, 0, 0, 0, []) :: (.getfield 13, 1, 4, 1, 0, []) :: (.bipush 12, 4, 12, 0, 0, []) :: (.if_icmp .ge 23, 6, 16, 0, 0, []) :: (.aload_n 0, 9, 0, 0, 0, []) :: (.getfield 9, 10, 4, 0, 0, []) :: (.aload_n 0, 13, 0, 0, 0, []) :: (.getfield 13, 14, 4, 1, 0, []) :: (.lload_n 1, 17, 1, 0, 0, []) :: (.lastore, 18, 0, 0, 0, []) :: (.aload_n 0, 19, 0, 0, 0, []) :: (.dup, 20, 0, 0, 0, []) :: (.getfield 13, 21, 4, 1, 0, []) :: (.iconst 1, 24, 1, 0, 0, []) :: (.iadd, 25, 0, 0, 0, []) :: (.putfield 13, 26, 4, 1, 0, []) :: zp_X4_add_1
noncomputable def zp_X4_add : List (List ECE) := [zp_X4_add_0, zp_X4_add_1]
noncomputable def zp_X4_tell_0 : List ECE := (.aload_n 0, 0, 0, 0, 0, []) :: (.invokevirtual 17, 1, 31, 1, 5, [0, 0]) :: (.aload_n 0, 4, 0, 0, 0, []) :: (.lload_n 1, 5, 1, 0, 0, []) :: (.invokevirtual 20, 6, 32, 2, 5, [0, 0]) :: (.return_, 9, 0, 0, 0, []) :: []
noncomputable def zp_X4_tell : List (List ECE) := [zp_X4_tell_0]
noncomputable def zp_X4_tell__0 : List ECE := (.aload_n 0, 0, 0, 0, 0, []) :: (.invokevirtual 17, 1, 31, 1, 5, [0, 0]) :: (.aload_n 0, 4, 0, 0, 0, []) :: (.lload_n 1, 5, 1, 0, 0, []) :: (.invokevirtual 20, 6, 32, 2, 5, [0, 0]) :: (.aload_n 0, 9, 0, 0, 0, []) :: (.lload_n 3, 10, 3, 0, 0, []) :: (.invokevirtual 20, 11, 32, 2, 5, [0, 0]) :: (.return_, 14, 0, 0, 0, []) :: []
noncomputable def zp_X4_tell_ : List (List ECE) := [zp_X4_tell__0]
noncomputable def zp_X5_init_1 : List ECE := (.newarray .int, 31, 100, 0, 0, []) :: (.putfield 21, 33, 5, 3, 2, []) :: (.return_, 36, 0, 0, 0, []) :: []
noncomputable def zp_X5_init_0 : List ECE := (.aload_n 0, 0, 0, 0, 0, []) :: (.invokespecial 3, 1, 0, 0, 0, []) :: (.aload_n 0, 4, 0, 0, 0, []) :: (.bipush 7, 5, 7, 0, 0, []) :: (.newarray .int, 7, 100, 0, 0, []) :: (.putfield 11, 9, 5, 0, 2, []) :: (.aload_n 0, 12, 0, 0, 0, []) :: (.bipush 40, 13, 40, 0, 0, []) :: (.newarray .int, 15, 100, 0, 0, []) :: (.putfield 15, 17, 5, 1, 2, []) :: (.aload_n 0, 20, 0, 0, 0, []) :: (.bipush 40, 21, 40, 0, 0, []) :: (.newarray .int, 23, 100, 0, 0, []) :: (.putfield 18, 25, 5, 2, 2, []) :: (.aload_n 0, 28, 0, 0, 0, []) :: (.bipush 40, 29, 40, 0, 0, []) :: zp_X5_init_1
noncomputable def zp_X5_init : List (List ECE) := [zp_X5_init_0, zp_X5_init_1]
noncomputable def zp_X5_read_4 : List ECE := (.if_icmp .le 8, 121, 67, 0, 0, []) :: (.bipush 40, 124, 40, 0, 0, []) :: (.goto 4, 126, 68, 0, 0, []) :: (.iconst (-1), 129, 4294967295, 0, 0, []) :: (.ireturn, 130, 0, 0, 0, []) :: []
noncomputable def zp_X5_read_3 : List ECE := (.ireturn, 90, 0, 0, 0, []) :: (.iinc 4 1, 91, 4, 1, 0, []) :: (.goto (-48), 94, 28, 0, 0, []) :: (.aload_n 0, 97, 0, 0, 0, []) :: (.getfield 40, 98, 5, 9, 0, []) :: (.ifCond .ne 10, 101, 57, 0, 0, []) :: (.aload_n 0, 104, 0, 0, 0, []) :: (.getfield 31, 105, 5, 6, 0, []) :: (.ifCond .le 5, 108, 59, 0, 0, []) :: (.iload_n 3, 111, 3, 0, 0, []) :: (.ireturn, 112, 0, 0, 0, []) :: (.aload_n 0, 113, 0, 0, 0, []) :: (.iconst 1, 114, 1, 0, 0, []) :: (.invokevirtual 63, 115, 45, 2, 6, [0, 0]) :: (.iload_n 2, 118, 2, 0, 0, []) :: (.bipush 40, 119, 40, 0, 0, []) :: zp_X5_read_4
noncomputable def zp_X5_read_2 : List ECE := (.iload 4, 53, 4, 0, 0, []) :: (.invokevirtual 50, 55, 56, 2, 7, [0, 0]) :: (.istore 5, 58, 5, 0, 0, []) :: (.aload_n 0, 60, 0, 0, 0, []) :: (.getfield 40, 61, 5, 9, 0, []) :: (.ifCond .eq 15, 64, 43, 0, 0, []) :: (.aload_n 0, 67, 0, 0, 0, []) :: (.iload 5, 68, 5, 0, 0, []) :: (.invokevirtual 56, 70, 41, 2, 6, [0, 0]) :: (.ifCond .eq 15, 73, 47, 0, 0, []) :: (.goto 15, 76, 49, 0, 0, []) :: (.aload_n 0, 79, 0, 0, 0, []) :: (.iload 5, 80, 5, 0, 0, []) :: (.invokevirtual 60, 82, 42, 2, 6, [0, 0]) :: (.ifCond .ne 6, 85, 49, 0, 0, []) :: (.iload 4, 88, 4, 0, 0, []) :: zp_X5_read_3
noncomputable def zp_X5_read_1 : List ECE := (.iconst 1, 26, 1, 0, 0, []) :: (.putfield 40, 27, 5, 9, 1, []) :: (.iload_n 2, 30, 2, 0, 0, []) :: (.ifCond .ne 5, 31, 22, 0, 0, []) :: (.iconst (-1), 34, 4294967295, 0, 0, []) :: (.ireturn, 35, 0, 0, 0, []) :: (.iload_n 2, 36, 2, 0, 0, []) :: (.bipush 40, 37, 40, 0, 0, []) :: (.invokestatic 44, 39, 326, 2, 0, [0, 0]) :: (.istore_n 3, 42, 3, 0, 0, []) :: (.iconst 0, 43, 0, 0, 0, []) :: (.istore 4, 44, 4, 0, 0, []) :: (.iload 4, 46, 4, 0, 0, []) :: (.iload_n 3, 48, 3, 0, 0, []) :: (.if_icmp .ge 48, 49, 51, 0, 0, []) :: (.aload_n 1, 52, 1, 0, 0, []) :: zp_X5_read_2
noncomputable def zp_X5_read_0 : List ECE := (.aload_n 0, 0, 0, 0, 0, []) :: (.iconst 0, 1, 0, 0, 0, []) :: (.putfield 24, 2, 5, 4, 0, []) :: (.aload_n 0, 5, 0, 0, 0, []) :: (.iconst 0, 6, 0, 0, 0, []) :: (.putfield 28, 7, 5, 5, 0, []) :: (.aload_n 0, 10, 0, 0, 0, []) :: (.iconst 0, 11, 0, 0, 0, []) :: (.putfield 31, 12, 5, 6, 0, []) :: (.aload_n 0, 15, 0, 0, 0, []) :: (.iconst 0, 16, 0, 0, 0, []) :: (.putfield 34, 17, 5, 7, 0, []) :: (.aload_n 0, 20, 0, 0, 0, []) :: (.iconst 0, 21, 0, 0, 0, []) :: (.putfield 37, 22, 5, 8, 0, []) :: (.aload_n 0, 25, 0, 0, 0, []) :: zp_X5_read_1
noncomputable def zp_X5_read : List (List ECE) := [zp_X5_read_0, zp_X5_read_1, zp_X5_read_2, zp_X5_read_3, zp_X5_read_4]
noncomputable def zp_X6_init_0 : List ECE := (.aload_n 0, 0, 0, 0, 0, []) :: (.invokespecial 3, 1, 0, 0, 0, []) :: (.aload_n 0, 4, 0, 0, 0, []) :: (.bipush 80, 5, 80, 0, 0, []) :: (.newarray .char, 7, 101, 0, 0, []) :: (.putfield 11, 9, 6, 0, 2, []) :: (.return_, 12, 0, 0, 0, []) :: []
noncomputable def zp_X6_init : List (List ECE) := [zp_X6_init_0]
noncomputable def zp_X6_length_0 : List ECE := (.aload_n 0, 0, 0, 0, 0, []) :: (.getfield 15, 1, 6, 1, 0, []) :: (.ireturn, 4, 0, 0, 0, []) :: []
noncomputable def zp_X6_length : List (List ECE) := [zp_X6_length_0]
noncomputable def zp_X6_append_1 : List ECE := (.iushr, 28, 0, 0, 0, []) :: (.sipush 255, 29, 255, 0, 0, []) :: (.iand, 32, 0, 0, 0, []) :: (.i2c, 33, 0, 0, 0, []) :: (.castore, 34, 0, 0, 0, []) :: (.aload_n 0, 35, 0, 0, 0, []) :: (.dup, 36, 0, 0, 0, []) :: (.getfield 15, 37, 6, 1, 0, []) :: (.iconst 1, 40, 1, 0, 0, []) :: (.iadd, 41, 0, 0, 0, []) :: (.putfield 15, 42, 6, 1, 0, []) :: (.iinc 2 (-8), 45, 2, 4294967288, 0, []) :: (.goto (-34), 48, 8, 0, 0, []) :: (.aload_n 0, 51, 0, 0, 0, []) :: (.getfield 15, 52, 6, 1, 0, []) :: (.ireturn, 55, 0, 0, 0, []) :: []
noncomputable def zp_X6_append_0 : List ECE := (.aload_n 0, 0, 0, 0, 0, []) :: (.getfield 15, 1, 6, 1, 0, []) :: (.bipush 76, 4, 76, 0, 0, []) :: (.if_icmp .le 5, 6, 6, 0, 0, []) :: (.iconst (-1), 9, 4294967295, 0, 0, []) :: (.ireturn, 10, 0, 0, 0, []) :: (.bipush 24, 11, 24, 0, 0, []) :: (.istore_n 2, 13, 2, 0, 0, []) :: (.iload_n 2, 14, 2, 0, 0, []) :: (.ifCond .lt 36, 15, 29, 0, 0, []) :: (.aload_n 0, 18, 0, 0, 0, []) :: (.getfield 11, 19, 6, 0, 0, []) :: (.aload_n 0, 22, 0, 0, 0, []) :: (.getfield 15, 23, 6, 1, 0, []) :: (.iload_n 1, 26, 1, 0, 0, []) :: (.iload_n 2, 27, 2, 0, 0, []) :: zp_X6_append_1
noncomputable def zp_X6_append : List (List ECE) := [zp_X6_append_0, zp_X6_append_1]
noncomputable def zp_X6_cut_0 : List ECE := (.iload_n 1, 0, 1, 0, 0, []) :: (.ifCond .lt 11, 1, 6, 0, 0, []) :: (.iload_n 1, 4, 1, 0, 0, []) :: (.aload_n 0, 5, 0, 0, 0, []) :: (.getfield 15, 6, 6, 1, 0, []) :: (.if_icmp .le 5, 9, 8, 0, 0, []) :: (.iconst 0, 12, 0, 0, 0, []) :: (.ireturn, 13, 1, 0, 0, []) :: (.aload_n 0, 14, 0, 0, 0, []) :: (.iload_n 1, 15, 1, 0, 0, []) :: (.putfield 15, 16, 6, 1, 0, []) :: (.iconst 1, 19, 1, 0, 0, []) :: (.ireturn, 20, 1, 0, 0, []) :: []
noncomputable def zp_X6_cut : List (List ECE) := [zp_X6_cut_0]
noncomputable def zp_X6_take_0 : List ECE := (.aload_n 0, 0, 0, 0, 0, []) :: (.getfield 15, 1, 6, 1, 0, []) :: (.istore_n 1, 4, 1, 0, 0, []) :: (.aload_n 0, 5, 0, 0, 0, []) :: (.iconst 0, 6, 0, 0, 0, []) :: (.putfield 15, 7, 6, 1, 0, []) :: (.iload_n 1, 10, 1, 0, 0, []) :: (.ireturn, 11, 0, 0, 0, []) :: []
noncomputable def zp_X6_take : List (List ECE) := [zp_X6_take_0]
noncomputable def zp_X6_faultOfWedding_3 : List ECE := (.ireturn, 97, 0, 0, 0, []) :: (.iload_n 1, 98, 1, 0, 0, []) :: (.bipush 60, 99, 60, 0, 0, []) :: (.if_icmp .le 8, 101, 54, 0, 0, []) :: (.bipush 60, 104, 60, 0, 0, []) :: (.goto 4, 106, 55, 0, 0, []) :: (.iconst (-1), 109, 4294967295, 0, 0, []) :: (.ireturn, 110, 0, 0, 0, []) :: []
noncomputable def zp_X6_faultOfWedding_2 : List ECE := (.invokestatic 43, 64, 61, 1, 0, [0, 0]) :: (.astore_n 3, 67, 3, 0, 0, []) :: (.iconst 0, 68, 0, 0, 0, []) :: (.istore 4, 69, 4, 0, 0, []) :: (.aload_n 3, 71, 3, 0, 0, []) :: (.nop, 72, 328, 1, 0, [0, 0]) :: (.ifCond .eq 6, 75, 41, 0, 0, []) :: (.iload 5, 78, 5, 0, 0, []) :: (.ireturn, 80, 0, 0, 0, []) :: (.iinc 5 1, 81, 5, 1, 0, []) :: (.goto (-68), 84, 10, 0, 0, []) :: (.iload 4, 87, 4, 0, 0, []) :: (.aload_n 3, 89, 3, 0, 0, []) :: (.nop, 90, 9000, 1, 0, [0, 0]) :: (.if_icmp .ge 5, 93, 49, 0, 0, []) :: (.iload_n 2, 96, 2, 0, 0, []) :: zp_X6_faultOfWedding_3
noncomputable def zp_X6_faultOfWedding_1 : List ECE := (.if_icmp .ge 30, 28, 29, 0, 0, []) :: (.aload_n 3, 31, 3, 0, 0, []) :: (.iload 4, 32, 4, 0, 0, []) :: (.nop, 34, 329, 2, 0, [0, 0]) :: (.aload_n 0, 37, 0, 0, 0, []) :: (.iload 5, 38, 5, 0, 0, []) :: (.invokevirtual 19, 40, 56, 2, 7, [0, 0]) :: (.invokestatic 39, 43, 62, 2, 0, [0, 0]) :: (.ifCond .ne 6, 46, 27, 0, 0, []) :: (.iload 5, 49, 5, 0, 0, []) :: (.ireturn, 51, 0, 0, 0, []) :: (.iinc 4 1, 52, 4, 1, 0, []) :: (.goto 26, 55, 41, 0, 0, []) :: (.aload_n 0, 58, 0, 0, 0, []) :: (.iload 5, 59, 5, 0, 0, []) :: (.invokevirtual 19, 61, 56, 2, 7, [0, 0]) :: zp_X6_faultOfWedding_2
noncomputable def zp_X6_faultOfWedding_0 : List ECE := (.iload_n 1, 0, 1, 0, 0, []) :: (.bipush 60, 1, 60, 0, 0, []) :: (.invokestatic 23, 3, 326, 2, 0, [0, 0]) :: (.istore_n 2, 6, 2, 0, 0, []) :: (.nop, 7, 1, 0, 0, []) :: (.astore_n 3, 9, 3, 0, 0, []) :: (.iconst 0, 10, 0, 0, 0, []) :: (.istore 4, 11, 4, 0, 0, []) :: (.iconst 0, 13, 0, 0, 0, []) :: (.istore 5, 14, 5, 0, 0, []) :: (.iload 5, 16, 5, 0, 0, []) :: (.iload_n 2, 18, 2, 0, 0, []) :: (.if_icmp .ge 68, 19, 43, 0, 0, []) :: (.iload 4, 22, 4, 0, 0, []) :: (.aload_n 3, 24, 3, 0, 0, []) :: (.nop, 25, 9000, 1, 0, [0, 0]) :: zp_X6_faultOfWedding_1
noncomputable def zp_X6_faultOfWedding : List (List ECE) := [zp_X6_faultOfWedding_0, zp_X6_faultOfWedding_1, zp_X6_faultOfWedding_2, zp_X6_faultOfWedding_3]
noncomputable def zp_X7_init_0 : List ECE := (.aload_n 0, 0, 0, 0, 0, []) :: (.invokespecial 3, 1, 0, 0, 0, []) :: (.aload_n 0, 4, 0, 0, 0, []) :: (.iconst 5, 5, 5, 0, 0, []) :: (.newarray .int, 6, 100, 0, 0, []) :: (.putfield 9, 8, 7, 0, 2, []) :: (.aload_n 0, 11, 0, 0, 0, []) :: (.iconst 5, 12, 5, 0, 0, []) :: (.newarray .int, 13, 100, 0, 0, []) :: (.putfield 15, 15, 7, 1, 2, []) :: (.aload_n 0, 18, 0, 0, 0, []) :: (.sipush 192, 19, 192, 0, 0, []) :: (.newarray .int, 22, 100, 0, 0, []) :: (.putfield 18, 24, 7, 2, 2, []) :: (.return_, 27, 0, 0, 0, []) :: []
noncomputable def zp_X7_init : List (List ECE) := [zp_X7_init_0]
noncomputable def zp_X7_lawsHeld_1 : List ECE := (.iadd, 26, 0, 0, 0, []) :: (.istore_n 2, 27, 2, 0, 0, []) :: (.iinc 3 1, 28, 3, 1, 0, []) :: (.goto (-27), 31, 4, 0, 0, []) :: (.iload_n 2, 34, 2, 0, 0, []) :: (.ireturn, 35, 0, 0, 0, []) :: []
noncomputable def zp_X7_lawsHeld_0 : List ECE := (.iconst 0, 0, 0, 0, 0, []) :: (.istore_n 2, 1, 2, 0, 0, []) :: (.iconst 0, 2, 0, 0, 0, []) :: (.istore_n 3, 3, 3, 0, 0, []) :: (.iload_n 3, 4, 3, 0, 0, []) :: (.aload_n 1, 5, 1, 0, 0, []) :: (.getfield 21, 6, 9, 3, 0, []) :: (.if_icmp .ge 25, 9, 20, 0, 0, []) :: (.iload_n 2, 12, 2, 0, 0, []) :: (.aload_n 1, 13, 1, 0, 0, []) :: (.iload_n 3, 14, 3, 0, 0, []) :: (.invokevirtual 27, 15, 100, 2, 10, [0, 0]) :: (.ifCond .le 7, 18, 15, 0, 0, []) :: (.iconst 1, 21, 1, 0, 0, []) :: (.goto 4, 22, 16, 0, 0, []) :: (.iconst 0, 25, 0, 0, 0, []) :: zp_X7_lawsHeld_1
noncomputable def zp_X7_lawsHeld : List (List ECE) := [zp_X7_lawsHeld_0, zp_X7_lawsHeld_1]
noncomputable def zp_X7_hittingSet_2 : List ECE := (.ifCond .eq 18, 51, 40, 0, 0, []) :: (.iload 4, 54, 4, 0, 0, []) :: (.invokestatic 41, 56, 323, 1, 0, [0, 0]) :: (.iload_n 3, 59, 3, 0, 0, []) :: (.invokestatic 41, 60, 323, 1, 0, [0, 0]) :: (.if_icmp .gt 6, 63, 40, 0, 0, []) :: (.iload 4, 66, 4, 0, 0, []) :: (.istore_n 3, 68, 3, 0, 0, []) :: (.iinc 4 (-1), 69, 4, 4294967295, 0, []) :: (.goto (-32), 72, 27, 0, 0, []) :: (.iload_n 3, 75, 3, 0, 0, []) :: (.ireturn, 76, 0, 0, 0, []) :: []
noncomputable def zp_X7_hittingSet_1 : List ECE := (.getfield 34, 26, 9, 4, 0, []) :: (.ishl, 29, 0, 0, 0, []) :: (.istore_n 2, 30, 2, 0, 0, []) :: (.iload_n 2, 31, 2, 0, 0, []) :: (.iconst 1, 32, 1, 0, 0, []) :: (.isub, 33, 0, 0, 0, []) :: (.istore_n 3, 34, 3, 0, 0, []) :: (.iload_n 2, 35, 2, 0, 0, []) :: (.iconst 1, 36, 1, 0, 0, []) :: (.isub, 37, 0, 0, 0, []) :: (.istore 4, 38, 4, 0, 0, []) :: (.iload 4, 40, 4, 0, 0, []) :: (.ifCond .lt 33, 42, 42, 0, 0, []) :: (.aload_n 0, 45, 0, 0, 0, []) :: (.iload 4, 46, 4, 0, 0, []) :: (.invokevirtual 37, 48, 66, 2, 8, [0, 0]) :: zp_X7_hittingSet_2
noncomputable def zp_X7_hittingSet_0 : List ECE := (.iconst 0, 0, 0, 0, 0, []) :: (.istore_n 2, 1, 2, 0, 0, []) :: (.iload_n 2, 2, 2, 0, 0, []) :: (.iconst 5, 3, 5, 0, 0, []) :: (.if_icmp .ge 20, 4, 14, 0, 0, []) :: (.aload_n 0, 7, 0, 0, 0, []) :: (.getfield 9, 8, 7, 0, 0, []) :: (.iload_n 2, 11, 2, 0, 0, []) :: (.aload_n 1, 12, 1, 0, 0, []) :: (.iload_n 2, 13, 2, 0, 0, []) :: (.invokevirtual 31, 14, 103, 2, 10, [0, 0]) :: (.iastore, 17, 0, 0, 0, []) :: (.iinc 2 1, 18, 2, 1, 0, []) :: (.goto (-19), 21, 2, 0, 0, []) :: (.iconst 1, 24, 1, 0, 0, []) :: (.aload_n 1, 25, 1, 0, 0, []) :: zp_X7_hittingSet_1
noncomputable def zp_X7_hittingSet : List (List ECE) := [zp_X7_hittingSet_0, zp_X7_hittingSet_1, zp_X7_hittingSet_2]
noncomputable def zp_X7_hitsAll_1 : List ECE := (.ifCond .ne 5, 24, 19, 0, 0, []) :: (.iconst 0, 27, 0, 0, 0, []) :: (.ireturn, 28, 1, 0, 0, []) :: (.iinc 2 1, 29, 2, 1, 0, []) :: (.goto (-30), 32, 2, 0, 0, []) :: (.iconst 1, 35, 1, 0, 0, []) :: (.ireturn, 36, 1, 0, 0, []) :: []
noncomputable def zp_X7_hitsAll_0 : List ECE := (.iconst 0, 0, 0, 0, 0, []) :: (.istore_n 2, 1, 2, 0, 0, []) :: (.iload_n 2, 2, 2, 0, 0, []) :: (.iconst 5, 3, 5, 0, 0, []) :: (.if_icmp .ge 31, 4, 21, 0, 0, []) :: (.aload_n 0, 7, 0, 0, 0, []) :: (.getfield 9, 8, 7, 0, 0, []) :: (.iload_n 2, 11, 2, 0, 0, []) :: (.iaload, 12, 0, 0, 0, []) :: (.ifCond .eq 16, 13, 19, 0, 0, []) :: (.aload_n 0, 16, 0, 0, 0, []) :: (.getfield 9, 17, 7, 0, 0, []) :: (.iload_n 2, 20, 2, 0, 0, []) :: (.iaload, 21, 0, 0, 0, []) :: (.iload_n 1, 22, 1, 0, 0, []) :: (.iand, 23, 0, 0, 0, []) :: zp_X7_hitsAll_1
noncomputable def zp_X7_hitsAll : List (List ECE) := [zp_X7_hitsAll_0, zp_X7_hitsAll_1]
noncomputable def zp_X7_weighAwards_3 : List ECE := (.iaload, 89, 0, 0, 0, []) :: (.ireturn, 90, 0, 0, 0, []) :: []
noncomputable def zp_X7_weighAwards_2 : List ECE := (.aload_n 0, 59, 0, 0, 0, []) :: (.getfield 18, 60, 7, 2, 0, []) :: (.iload_n 2, 63, 2, 0, 0, []) :: (.bipush 32, 64, 32, 0, 0, []) :: (.imul, 66, 0, 0, 0, []) :: (.iload_n 3, 67, 3, 0, 0, []) :: (.iadd, 68, 0, 0, 0, []) :: (.iload 4, 69, 4, 0, 0, []) :: (.iastore, 71, 0, 0, 0, []) :: (.iinc 3 1, 72, 3, 1, 0, []) :: (.goto (-67), 75, 6, 0, 0, []) :: (.iinc 2 (-1), 78, 2, 4294967295, 0, []) :: (.goto (-79), 81, 2, 0, 0, []) :: (.aload_n 0, 84, 0, 0, 0, []) :: (.getfield 18, 85, 7, 2, 0, []) :: (.iconst 0, 88, 0, 0, 0, []) :: zp_X7_weighAwards_3
noncomputable def zp_X7_weighAwards_1 : List ECE := (.if_icmp .ge 34, 25, 32, 0, 0, []) :: (.iload 5, 28, 5, 0, 0, []) :: (.aload_n 1, 30, 1, 0, 0, []) :: (.getfield 34, 31, 9, 4, 0, []) :: (.if_icmp .ge 25, 34, 32, 0, 0, []) :: (.iload 4, 37, 4, 0, 0, []) :: (.aload_n 0, 39, 0, 0, 0, []) :: (.aload_n 1, 40, 1, 0, 0, []) :: (.iload_n 2, 41, 2, 0, 0, []) :: (.iload_n 3, 42, 3, 0, 0, []) :: (.iload 5, 43, 5, 0, 0, []) :: (.invokevirtual 46, 45, 69, 5, 8, [0, 0]) :: (.invokestatic 50, 48, 325, 2, 0, [0, 0]) :: (.istore 4, 51, 4, 0, 0, []) :: (.iinc 5 1, 53, 5, 1, 0, []) :: (.goto (-36), 56, 13, 0, 0, []) :: zp_X7_weighAwards_2
noncomputable def zp_X7_weighAwards_0 : List ECE := (.iconst 5, 0, 5, 0, 0, []) :: (.istore_n 2, 1, 2, 0, 0, []) :: (.iload_n 2, 2, 2, 0, 0, []) :: (.ifCond .lt 81, 3, 45, 0, 0, []) :: (.iconst 0, 6, 0, 0, 0, []) :: (.istore_n 3, 7, 3, 0, 0, []) :: (.iload_n 3, 8, 3, 0, 0, []) :: (.bipush 32, 9, 32, 0, 0, []) :: (.if_icmp .ge 67, 11, 43, 0, 0, []) :: (.iconst 0, 14, 0, 0, 0, []) :: (.istore 4, 15, 4, 0, 0, []) :: (.iconst (-1), 17, 4294967295, 0, 0, []) :: (.istore 5, 18, 5, 0, 0, []) :: (.iload_n 2, 20, 2, 0, 0, []) :: (.aload_n 1, 21, 1, 0, 0, []) :: (.getfield 21, 22, 9, 3, 0, []) :: zp_X7_weighAwards_1
noncomputable def zp_X7_weighAwards : List (List ECE) := [zp_X7_weighAwards_0, zp_X7_weighAwards_1, zp_X7_weighAwards_2, zp_X7_weighAwards_3]
noncomputable def zp_X7_tellAwards_3 : List ECE := (.goto (-82), 91, 6, 0, 0, []) :: (.return_, 94, 0, 0, 0, []) :: []
noncomputable def zp_X7_tellAwards_2 : List ECE := (.invokevirtual 64, 60, 32, 2, 5, [0, 0]) :: (.iload_n 3, 63, 3, 0, 0, []) :: (.iload 5, 64, 5, 0, 0, []) :: (.ifCond .lt 19, 66, 44, 0, 0, []) :: (.iload 5, 69, 5, 0, 0, []) :: (.aload_n 1, 71, 1, 0, 0, []) :: (.getfield 34, 72, 9, 4, 0, []) :: (.if_icmp .ge 10, 75, 44, 0, 0, []) :: (.iconst 1, 78, 1, 0, 0, []) :: (.iload 5, 79, 5, 0, 0, []) :: (.ishl, 81, 0, 0, 0, []) :: (.goto 4, 82, 45, 0, 0, []) :: (.iconst 0, 85, 0, 0, 0, []) :: (.ior, 86, 0, 0, 0, []) :: (.istore_n 3, 87, 3, 0, 0, []) :: (.iinc 4 1, 88, 4, 1, 0, []) :: zp_X7_tellAwards_3
noncomputable def zp_X7_tellAwards_1 : List ECE := (.aload_n 0, 30, 0, 0, 0, []) :: (.aload_n 1, 31, 1, 0, 0, []) :: (.iload 4, 32, 4, 0, 0, []) :: (.iload_n 3, 34, 3, 0, 0, []) :: (.iload 5, 35, 5, 0, 0, []) :: (.invokevirtual 46, 37, 69, 5, 8, [0, 0]) :: (.aload_n 0, 40, 0, 0, 0, []) :: (.iload 4, 41, 4, 0, 0, []) :: (.iload_n 3, 43, 3, 0, 0, []) :: (.invokevirtual 61, 44, 70, 3, 8, [0, 0]) :: (.if_icmp .ge 9, 47, 29, 0, 0, []) :: (.iinc 5 1, 50, 5, 1, 0, []) :: (.goto (-32), 53, 12, 0, 0, []) :: (.aload_n 2, 56, 2, 0, 0, []) :: (.iload 5, 57, 5, 0, 0, []) :: (.i2l, 59, 0, 0, 0, []) :: zp_X7_tellAwards_2
noncomputable def zp_X7_tellAwards_0 : List ECE := (.iconst 0, 0, 0, 0, 0, []) :: (.istore_n 3, 1, 3, 0, 0, []) :: (.aload_n 2, 2, 2, 0, 0, []) :: (.invokevirtual 56, 3, 31, 1, 5, [0, 0]) :: (.iconst 0, 6, 0, 0, 0, []) :: (.istore 4, 7, 4, 0, 0, []) :: (.iload 4, 9, 4, 0, 0, []) :: (.aload_n 1, 11, 1, 0, 0, []) :: (.getfield 21, 12, 9, 3, 0, []) :: (.if_icmp .ge 79, 15, 49, 0, 0, []) :: (.iconst (-1), 18, 4294967295, 0, 0, []) :: (.istore 5, 19, 5, 0, 0, []) :: (.iload 5, 21, 5, 0, 0, []) :: (.aload_n 1, 23, 1, 0, 0, []) :: (.getfield 34, 24, 9, 4, 0, []) :: (.if_icmp .ge 29, 27, 29, 0, 0, []) :: zp_X7_tellAwards_1
noncomputable def zp_X7_tellAwards : List (List ECE) := [zp_X7_tellAwards_0, zp_X7_tellAwards_1, zp_X7_tellAwards_2, zp_X7_tellAwards_3]
noncomputable def zp_X7_weigh_1 : List ECE := (.invokevirtual 78, 26, 97, 1, 10, [0, 0]) :: (.putfield 82, 29, 7, 3, 0, []) :: (.return_, 32, 0, 0, 0, []) :: []
noncomputable def zp_X7_weigh_0 : List ECE := (.iconst 0, 0, 0, 0, 0, []) :: (.istore_n 2, 1, 2, 0, 0, []) :: (.iload_n 2, 2, 2, 0, 0, []) :: (.iconst 5, 3, 5, 0, 0, []) :: (.if_icmp .ge 20, 4, 14, 0, 0, []) :: (.aload_n 0, 7, 0, 0, 0, []) :: (.getfield 15, 8, 7, 1, 0, []) :: (.iload_n 2, 11, 2, 0, 0, []) :: (.aload_n 1, 12, 1, 0, 0, []) :: (.iload_n 2, 13, 2, 0, 0, []) :: (.invokevirtual 75, 14, 101, 2, 10, [0, 0]) :: (.iastore, 17, 0, 0, 0, []) :: (.iinc 2 1, 18, 2, 1, 0, []) :: (.goto (-19), 21, 2, 0, 0, []) :: (.aload_n 0, 24, 0, 0, 0, []) :: (.aload_n 1, 25, 1, 0, 0, []) :: zp_X7_weigh_1
noncomputable def zp_X7_weigh : List (List ECE) := [zp_X7_weigh_0, zp_X7_weigh_1]
noncomputable def zp_X7_isLeast_2 : List ECE := (.ireturn, 48, 1, 0, 0, []) :: []
noncomputable def zp_X7_isLeast_1 : List ECE := (.ifCond .eq 19, 22, 29, 0, 0, []) :: (.aload_n 0, 25, 0, 0, 0, []) :: (.iload_n 1, 26, 1, 0, 0, []) :: (.iconst 1, 27, 1, 0, 0, []) :: (.iload_n 2, 28, 2, 0, 0, []) :: (.ishl, 29, 0, 0, 0, []) :: (.iconst (-1), 30, 4294967295, 0, 0, []) :: (.ixor, 31, 0, 0, 0, []) :: (.iand, 32, 0, 0, 0, []) :: (.invokevirtual 89, 33, 75, 2, 8, [0, 0]) :: (.ifCond .eq 5, 36, 29, 0, 0, []) :: (.iconst 0, 39, 0, 0, 0, []) :: (.ireturn, 40, 1, 0, 0, []) :: (.iinc 2 1, 41, 2, 1, 0, []) :: (.goto (-32), 44, 8, 0, 0, []) :: (.iconst 1, 47, 1, 0, 0, []) :: zp_X7_isLeast_2
noncomputable def zp_X7_isLeast_0 : List ECE := (.aload_n 0, 0, 0, 0, 0, []) :: (.iload_n 1, 1, 1, 0, 0, []) :: (.invokevirtual 89, 2, 75, 2, 8, [0, 0]) :: (.ifCond .ne 5, 5, 6, 0, 0, []) :: (.iconst 0, 8, 0, 0, 0, []) :: (.ireturn, 9, 1, 0, 0, []) :: (.iconst 0, 10, 0, 0, 0, []) :: (.istore_n 2, 11, 2, 0, 0, []) :: (.iload_n 2, 12, 2, 0, 0, []) :: (.iconst 5, 13, 5, 0, 0, []) :: (.if_icmp .ge 33, 14, 31, 0, 0, []) :: (.iload_n 1, 17, 1, 0, 0, []) :: (.iload_n 2, 18, 2, 0, 0, []) :: (.ishr, 19, 0, 0, 0, []) :: (.iconst 1, 20, 1, 0, 0, []) :: (.iand, 21, 0, 0, 0, []) :: zp_X7_isLeast_1
noncomputable def zp_X7_isLeast : List (List ECE) := [zp_X7_isLeast_0, zp_X7_isLeast_1, zp_X7_isLeast_2]
noncomputable def zp_X7_prevails_2 : List ECE := (.iconst 0, 50, 0, 0, 0, []) :: (.ireturn, 51, 1, 0, 0, []) :: []
noncomputable def zp_X7_prevails_1 : List ECE := (.iload_n 3, 22, 3, 0, 0, []) :: (.iaload, 23, 0, 0, 0, []) :: (.goto 4, 24, 20, 0, 0, []) :: (.iconst 0, 27, 0, 0, 0, []) :: (.iadd, 28, 0, 0, 0, []) :: (.istore_n 2, 29, 2, 0, 0, []) :: (.iinc 3 1, 30, 3, 1, 0, []) :: (.goto (-29), 33, 4, 0, 0, []) :: (.iconst 2, 36, 2, 0, 0, []) :: (.iload_n 2, 37, 2, 0, 0, []) :: (.imul, 38, 0, 0, 0, []) :: (.aload_n 0, 39, 0, 0, 0, []) :: (.getfield 82, 40, 7, 3, 0, []) :: (.if_icmp .le 7, 43, 32, 0, 0, []) :: (.iconst 1, 46, 1, 0, 0, []) :: (.goto 4, 47, 33, 0, 0, []) :: zp_X7_prevails_2
noncomputable def zp_X7_prevails_0 : List ECE := (.iconst 0, 0, 0, 0, 0, []) :: (.istore_n 2, 1, 2, 0, 0, []) :: (.iconst 0, 2, 0, 0, 0, []) :: (.istore_n 3, 3, 3, 0, 0, []) :: (.iload_n 3, 4, 3, 0, 0, []) :: (.iconst 5, 5, 5, 0, 0, []) :: (.if_icmp .ge 30, 6, 24, 0, 0, []) :: (.iload_n 2, 9, 2, 0, 0, []) :: (.iload_n 1, 10, 1, 0, 0, []) :: (.iload_n 3, 11, 3, 0, 0, []) :: (.ishr, 12, 0, 0, 0, []) :: (.iconst 1, 13, 1, 0, 0, []) :: (.iand, 14, 0, 0, 0, []) :: (.ifCond .eq 12, 15, 19, 0, 0, []) :: (.aload_n 0, 18, 0, 0, 0, []) :: (.getfield 15, 19, 7, 1, 0, []) :: zp_X7_prevails_1
noncomputable def zp_X7_prevails : List (List ECE) := [zp_X7_prevails_0, zp_X7_prevails_1, zp_X7_prevails_2]
noncomputable def zp_X8_init_0 : List ECE := (.aload_n 0, 0, 0, 0, 0, []) :: (.invokespecial 3, 1, 0, 0, 0, []) :: (.aload_n 0, 4, 0, 0, 0, []) :: (.new 9, 5, 2, 0, 0, [2, 0, 0]) :: (.dup, 8, 0, 0, 0, []) :: (.bipush 10, 9, 10, 0, 0, []) :: (.invokespecial 11, 11, 14, 2, 0, [1, 36]) :: (.putfield 14, 14, 8, 0, 2, []) :: (.aload_n 0, 17, 0, 0, 0, []) :: (.bipush 8, 18, 8, 0, 0, []) :: (.newarray .int, 20, 100, 0, 0, []) :: (.putfield 20, 22, 8, 1, 2, []) :: (.return_, 25, 0, 0, 0, []) :: []
noncomputable def zp_X8_init : List (List ECE) := [zp_X8_init_0]
noncomputable def zp_X8_windsLeft_1 : List ECE := (.invokevirtual 30, 26, 78, 5, 9, [0, 0]) :: (.ifCond .eq 12, 29, 24, 0, 0, []) :: (.iconst 1, 32, 1, 0, 0, []) :: (.iload 5, 33, 5, 0, 0, []) :: (.iconst 3, 35, 3, 0, 0, []) :: (.iadd, 36, 0, 0, 0, []) :: (.ishl, 37, 0, 0, 0, []) :: (.goto 4, 38, 25, 0, 0, []) :: (.iconst 0, 41, 0, 0, 0, []) :: (.ior, 42, 0, 0, 0, []) :: (.istore 4, 43, 4, 0, 0, []) :: (.iinc 5 1, 45, 5, 1, 0, []) :: (.goto (-36), 48, 7, 0, 0, []) :: (.iload 4, 51, 4, 0, 0, []) :: (.ireturn, 53, 0, 0, 0, []) :: []
noncomputable def zp_X8_windsLeft_0 : List ECE := (.aload_n 3, 0, 3, 0, 0, []) :: (.aload_n 1, 1, 1, 0, 0, []) :: (.invokevirtual 24, 2, 121, 2, 11, [0, 0]) :: (.iconst 0, 5, 0, 0, 0, []) :: (.istore 4, 6, 4, 0, 0, []) :: (.bipush (-3), 8, 4294967293, 0, 0, []) :: (.istore 5, 10, 5, 0, 0, []) :: (.iload 5, 12, 5, 0, 0, []) :: (.iconst 3, 14, 3, 0, 0, []) :: (.if_icmp .gt 36, 15, 29, 0, 0, []) :: (.iload 4, 18, 4, 0, 0, []) :: (.aload_n 0, 20, 0, 0, 0, []) :: (.aload_n 1, 21, 1, 0, 0, []) :: (.aload_n 2, 22, 2, 0, 0, []) :: (.aload_n 3, 23, 3, 0, 0, []) :: (.iload 5, 24, 5, 0, 0, []) :: zp_X8_windsLeft_1
noncomputable def zp_X8_windsLeft : List (List ECE) := [zp_X8_windsLeft_0, zp_X8_windsLeft_1]
noncomputable def zp_X8_suits_2 : List ECE := (.iconst 2, 65, 2, 0, 0, []) :: (.invokevirtual 38, 66, 17, 3, 3, [0, 0]) :: (.if_icmp .eq 5, 69, 37, 0, 0, []) :: (.iconst 0, 72, 0, 0, 0, []) :: (.ireturn, 73, 1, 0, 0, []) :: (.iinc 5 1, 74, 5, 1, 0, []) :: (.goto (-74), 77, 2, 0, 0, []) :: (.iconst 1, 80, 1, 0, 0, []) :: (.ireturn, 81, 1, 0, 0, []) :: []
noncomputable def zp_X8_suits_1 : List ECE := (.invokevirtual 38, 32, 17, 3, 3, [0, 0]) :: (.invokestatic 42, 35, 193, 2, 0, [0, 0]) :: (.istore 6, 38, 6, 0, 0, []) :: (.aload_n 1, 40, 1, 0, 0, []) :: (.iload 6, 41, 6, 0, 0, []) :: (.invokevirtual 45, 43, 94, 2, 10, [0, 0]) :: (.ifCond .eq 26, 46, 35, 0, 0, []) :: (.aload_n 3, 49, 3, 0, 0, []) :: (.aload_n 1, 50, 1, 0, 0, []) :: (.aload_n 2, 51, 2, 0, 0, []) :: (.iload 6, 52, 6, 0, 0, []) :: (.iload 4, 54, 4, 0, 0, []) :: (.invokevirtual 51, 56, 122, 5, 11, [0, 0]) :: (.aload_n 0, 59, 0, 0, 0, []) :: (.getfield 14, 60, 8, 0, 0, []) :: (.iload 5, 63, 5, 0, 0, []) :: zp_X8_suits_2
noncomputable def zp_X8_suits_0 : List ECE := (.iconst 0, 0, 0, 0, 0, []) :: (.istore 5, 1, 5, 0, 0, []) :: (.iload 5, 3, 5, 0, 0, []) :: (.aload_n 0, 5, 0, 0, 0, []) :: (.getfield 14, 6, 8, 0, 0, []) :: (.invokevirtual 34, 9, 15, 1, 3, [0, 0]) :: (.if_icmp .ge 68, 12, 39, 0, 0, []) :: (.aload_n 0, 15, 0, 0, 0, []) :: (.getfield 14, 16, 8, 0, 0, []) :: (.iload 5, 19, 5, 0, 0, []) :: (.iconst 0, 21, 0, 0, 0, []) :: (.invokevirtual 38, 22, 17, 3, 3, [0, 0]) :: (.aload_n 0, 25, 0, 0, 0, []) :: (.getfield 14, 26, 8, 0, 0, []) :: (.iload 5, 29, 5, 0, 0, []) :: (.iconst 1, 31, 1, 0, 0, []) :: zp_X8_suits_1
noncomputable def zp_X8_suits : List (List ECE) := [zp_X8_suits_0, zp_X8_suits_1, zp_X8_suits_2]
noncomputable def zp_X9_init_1 : List ECE := (.putfield 21, 28, 9, 7, 0, []) :: (.iconst 0, 31, 0, 0, 0, []) :: (.istore_n 1, 32, 1, 0, 0, []) :: (.iload_n 1, 33, 1, 0, 0, []) :: (.bipush 20, 34, 20, 0, 0, []) :: (.if_icmp .ge 17, 36, 29, 0, 0, []) :: (.aload_n 0, 39, 0, 0, 0, []) :: (.getfield 18, 40, 9, 2, 0, []) :: (.iload_n 1, 43, 1, 0, 0, []) :: (.bipush 20, 44, 20, 0, 0, []) :: (.iastore, 46, 0, 0, 0, []) :: (.iinc 1 1, 47, 1, 1, 0, []) :: (.goto (-17), 50, 19, 0, 0, []) :: (.return_, 53, 0, 0, 0, []) :: []
noncomputable def zp_X9_init_0 : List ECE := (.aload_n 0, 0, 0, 0, 0, []) :: (.invokespecial 3, 1, 0, 0, 0, []) :: (.aload_n 0, 4, 0, 0, 0, []) :: (.iconst 5, 5, 5, 0, 0, []) :: (.newarray .int, 6, 100, 0, 0, []) :: (.putfield 9, 8, 9, 0, 2, []) :: (.aload_n 0, 11, 0, 0, 0, []) :: (.iconst 5, 12, 5, 0, 0, []) :: (.newarray .int, 13, 100, 0, 0, []) :: (.putfield 15, 15, 9, 1, 2, []) :: (.aload_n 0, 18, 0, 0, 0, []) :: (.bipush 20, 19, 20, 0, 0, []) :: (.newarray .int, 21, 100, 0, 0, []) :: (.putfield 18, 23, 9, 2, 2, []) :: (.aload_n 0, 26, 0, 0, 0, []) :: (.iconst 1, 27, 1, 0, 0, []) :: zp_X9_init_1
noncomputable def zp_X9_init : List (List ECE) := [zp_X9_init_0, zp_X9_init_1]
noncomputable def zp_X9_become_3 : List ECE := (.return_, 91, 0, 0, 0, []) :: []
noncomputable def zp_X9_become_2 : List ECE := (.aload_n 0, 59, 0, 0, 0, []) :: (.aload_n 1, 60, 1, 0, 0, []) :: (.getfield 37, 61, 9, 5, 0, []) :: (.putfield 37, 64, 9, 5, 0, []) :: (.aload_n 0, 67, 0, 0, 0, []) :: (.aload_n 1, 68, 1, 0, 0, []) :: (.getfield 40, 69, 9, 6, 0, []) :: (.putfield 40, 72, 9, 6, 0, []) :: (.aload_n 0, 75, 0, 0, 0, []) :: (.aload_n 1, 76, 1, 0, 0, []) :: (.getfield 21, 77, 9, 7, 0, []) :: (.putfield 21, 80, 9, 7, 0, []) :: (.aload_n 0, 83, 0, 0, 0, []) :: (.aload_n 1, 84, 1, 0, 0, []) :: (.getfield 43, 85, 9, 8, 0, []) :: (.putfield 43, 88, 9, 8, 0, []) :: zp_X9_become_3
noncomputable def zp_X9_become_1 : List ECE := (.aload_n 1, 28, 1, 0, 0, []) :: (.getfield 18, 29, 9, 2, 0, []) :: (.iconst 0, 32, 0, 0, 0, []) :: (.aload_n 0, 33, 0, 0, 0, []) :: (.getfield 18, 34, 9, 2, 0, []) :: (.iconst 0, 37, 0, 0, 0, []) :: (.bipush 20, 38, 20, 0, 0, []) :: (.invokestatic 25, 40, 0, 0, 0, []) :: (.aload_n 0, 43, 0, 0, 0, []) :: (.aload_n 1, 44, 1, 0, 0, []) :: (.getfield 31, 45, 9, 3, 0, []) :: (.putfield 31, 48, 9, 3, 0, []) :: (.aload_n 0, 51, 0, 0, 0, []) :: (.aload_n 1, 52, 1, 0, 0, []) :: (.getfield 34, 53, 9, 4, 0, []) :: (.putfield 34, 56, 9, 4, 0, []) :: zp_X9_become_2
noncomputable def zp_X9_become_0 : List ECE := (.aload_n 1, 0, 1, 0, 0, []) :: (.getfield 9, 1, 9, 0, 0, []) :: (.iconst 0, 4, 0, 0, 0, []) :: (.aload_n 0, 5, 0, 0, 0, []) :: (.getfield 9, 6, 9, 0, 0, []) :: (.iconst 0, 9, 0, 0, 0, []) :: (.iconst 5, 10, 5, 0, 0, []) :: (.invokestatic 25, 11, 0, 0, 0, []) :: (.aload_n 1, 14, 1, 0, 0, []) :: (.getfield 15, 15, 9, 1, 0, []) :: (.iconst 0, 18, 0, 0, 0, []) :: (.aload_n 0, 19, 0, 0, 0, []) :: (.getfield 15, 20, 9, 1, 0, []) :: (.iconst 0, 23, 0, 0, 0, []) :: (.iconst 5, 24, 5, 0, 0, []) :: (.invokestatic 25, 25, 0, 0, 0, []) :: zp_X9_become_1
noncomputable def zp_X9_become : List (List ECE) := [zp_X9_become_0, zp_X9_become_1, zp_X9_become_2, zp_X9_become_3]
noncomputable def zp_X9_hasLaw_0 : List ECE := (.iload_n 1, 0, 1, 0, 0, []) :: (.ifCond .lt 15, 1, 8, 0, 0, []) :: (.iload_n 1, 4, 1, 0, 0, []) :: (.aload_n 0, 5, 0, 0, 0, []) :: (.getfield 31, 6, 9, 3, 0, []) :: (.if_icmp .ge 7, 9, 8, 0, 0, []) :: (.iconst 1, 12, 1, 0, 0, []) :: (.goto 4, 13, 9, 0, 0, []) :: (.iconst 0, 16, 0, 0, 0, []) :: (.ireturn, 17, 1, 0, 0, []) :: []
noncomputable def zp_X9_hasLaw : List (List ECE) := [zp_X9_hasLaw_0]
noncomputable def zp_X9_hasOne_0 : List ECE := (.iload_n 1, 0, 1, 0, 0, []) :: (.ifCond .lt 15, 1, 8, 0, 0, []) :: (.iload_n 1, 4, 1, 0, 0, []) :: (.aload_n 0, 5, 0, 0, 0, []) :: (.getfield 34, 6, 9, 4, 0, []) :: (.if_icmp .ge 7, 9, 8, 0, 0, []) :: (.iconst 1, 12, 1, 0, 0, []) :: (.goto 4, 13, 9, 0, 0, []) :: (.iconst 0, 16, 0, 0, 0, []) :: (.ireturn, 17, 1, 0, 0, []) :: []
noncomputable def zp_X9_hasOne : List (List ECE) := [zp_X9_hasOne_0]
noncomputable def zp_X9_hasBit_0 : List ECE := (.aload_n 0, 0, 0, 0, 0, []) :: (.iload_n 1, 1, 1, 0, 0, []) :: (.invokevirtual 46, 2, 84, 2, 10, [0, 0]) :: (.ifCond .eq 20, 5, 13, 0, 0, []) :: (.iload_n 2, 8, 2, 0, 0, []) :: (.ifCond .lt 16, 9, 13, 0, 0, []) :: (.iload_n 2, 12, 2, 0, 0, []) :: (.aload_n 0, 13, 0, 0, 0, []) :: (.iload_n 1, 14, 1, 0, 0, []) :: (.invokevirtual 50, 15, 89, 2, 10, [0, 0]) :: (.if_icmp .ge 7, 18, 13, 0, 0, []) :: (.iconst 1, 21, 1, 0, 0, []) :: (.goto 4, 22, 14, 0, 0, []) :: (.iconst 0, 25, 0, 0, 0, []) :: (.ireturn, 26, 1, 0, 0, []) :: []
noncomputable def zp_X9_hasBit : List (List ECE) := [zp_X9_hasBit_0]
noncomputable def zp_X9_placeOf_0 : List ECE := (.iload_n 1, 0, 1, 0, 0, []) :: (.ifCond .lt 18, 1, 10, 0, 0, []) :: (.iload_n 1, 4, 1, 0, 0, []) :: (.bipush 20, 5, 20, 0, 0, []) :: (.if_icmp .ge 12, 7, 10, 0, 0, []) :: (.aload_n 0, 10, 0, 0, 0, []) :: (.getfield 18, 11, 9, 2, 0, []) :: (.iload_n 1, 14, 1, 0, 0, []) :: (.iaload, 15, 0, 0, 0, []) :: (.goto 5, 16, 11, 0, 0, []) :: (.bipush 20, 19, 20, 0, 0, []) :: (.ireturn, 21, 0, 0, 0, []) :: []
noncomputable def zp_X9_placeOf : List (List ECE) := [zp_X9_placeOf_0]
noncomputable def zp_X9_lay_0 : List ECE := (.iload_n 1, 0, 1, 0, 0, []) :: (.ifCond .lt 16, 1, 10, 0, 0, []) :: (.iload_n 1, 4, 1, 0, 0, []) :: (.bipush 20, 5, 20, 0, 0, []) :: (.if_icmp .ge 10, 7, 10, 0, 0, []) :: (.aload_n 0, 10, 0, 0, 0, []) :: (.getfield 18, 11, 9, 2, 0, []) :: (.iload_n 1, 14, 1, 0, 0, []) :: (.iload_n 2, 15, 2, 0, 0, []) :: (.iastore, 16, 0, 0, 0, []) :: (.return_, 17, 0, 0, 0, []) :: []
noncomputable def zp_X9_lay : List (List ECE) := [zp_X9_lay_0]
noncomputable def zp_X9_lies_0 : List ECE := (.aload_n 0, 0, 0, 0, 0, []) :: (.iload_n 1, 1, 1, 0, 0, []) :: (.invokevirtual 54, 2, 91, 2, 10, [0, 0]) :: (.bipush 8, 5, 8, 0, 0, []) :: (.if_icmp .ge 7, 7, 7, 0, 0, []) :: (.iconst 1, 10, 1, 0, 0, []) :: (.goto 4, 11, 8, 0, 0, []) :: (.iconst 0, 14, 0, 0, 0, []) :: (.ireturn, 15, 1, 0, 0, []) :: []
noncomputable def zp_X9_lies : List (List ECE) := [zp_X9_lies_0]
noncomputable def zp_X9_isHeld_0 : List ECE := (.aload_n 0, 0, 0, 0, 0, []) :: (.iload_n 1, 1, 1, 0, 0, []) :: (.invokevirtual 54, 2, 91, 2, 10, [0, 0]) :: (.istore_n 2, 5, 2, 0, 0, []) :: (.iload_n 2, 6, 2, 0, 0, []) :: (.bipush 10, 7, 10, 0, 0, []) :: (.if_icmp .lt 13, 9, 12, 0, 0, []) :: (.iload_n 2, 12, 2, 0, 0, []) :: (.bipush 20, 13, 20, 0, 0, []) :: (.if_icmp .ge 7, 15, 12, 0, 0, []) :: (.iconst 1, 18, 1, 0, 0, []) :: (.goto 4, 19, 13, 0, 0, []) :: (.iconst 0, 22, 0, 0, 0, []) :: (.ireturn, 23, 1, 0, 0, []) :: []
noncomputable def zp_X9_isHeld : List (List ECE) := [zp_X9_isHeld_0]
noncomputable def zp_X9_lyingCount_1 : List ECE := (.istore_n 1, 25, 1, 0, 0, []) :: (.iinc 2 1, 26, 2, 1, 0, []) :: (.goto (-25), 29, 4, 0, 0, []) :: (.iload_n 1, 32, 1, 0, 0, []) :: (.ireturn, 33, 0, 0, 0, []) :: []
noncomputable def zp_X9_lyingCount_0 : List ECE := (.iconst 0, 0, 0, 0, 0, []) :: (.istore_n 1, 1, 1, 0, 0, []) :: (.iconst 0, 2, 0, 0, 0, []) :: (.istore_n 2, 3, 2, 0, 0, []) :: (.iload_n 2, 4, 2, 0, 0, []) :: (.bipush 20, 5, 20, 0, 0, []) :: (.if_icmp .ge 25, 7, 19, 0, 0, []) :: (.iload_n 1, 10, 1, 0, 0, []) :: (.aload_n 0, 11, 0, 0, 0, []) :: (.iload_n 2, 12, 2, 0, 0, []) :: (.invokevirtual 57, 13, 94, 2, 10, [0, 0]) :: (.ifCond .eq 7, 16, 14, 0, 0, []) :: (.iconst 1, 19, 1, 0, 0, []) :: (.goto 4, 20, 15, 0, 0, []) :: (.iconst 0, 23, 0, 0, 0, []) :: (.iadd, 24, 0, 0, 0, []) :: zp_X9_lyingCount_1
noncomputable def zp_X9_lyingCount : List (List ECE) := [zp_X9_lyingCount_0, zp_X9_lyingCount_1]
noncomputable def zp_X9_heldCount_1 : List ECE := (.istore_n 1, 25, 1, 0, 0, []) :: (.iinc 2 1, 26, 2, 1, 0, []) :: (.goto (-25), 29, 4, 0, 0, []) :: (.iload_n 1, 32, 1, 0, 0, []) :: (.ireturn, 33, 0, 0, 0, []) :: []
noncomputable def zp_X9_heldCount_0 : List ECE := (.iconst 0, 0, 0, 0, 0, []) :: (.istore_n 1, 1, 1, 0, 0, []) :: (.iconst 0, 2, 0, 0, 0, []) :: (.istore_n 2, 3, 2, 0, 0, []) :: (.iload_n 2, 4, 2, 0, 0, []) :: (.bipush 20, 5, 20, 0, 0, []) :: (.if_icmp .ge 25, 7, 19, 0, 0, []) :: (.iload_n 1, 10, 1, 0, 0, []) :: (.aload_n 0, 11, 0, 0, 0, []) :: (.iload_n 2, 12, 2, 0, 0, []) :: (.invokevirtual 60, 13, 95, 2, 10, [0, 0]) :: (.ifCond .eq 7, 16, 14, 0, 0, []) :: (.iconst 1, 19, 1, 0, 0, []) :: (.goto 4, 20, 15, 0, 0, []) :: (.iconst 0, 23, 0, 0, 0, []) :: (.iadd, 24, 0, 0, 0, []) :: zp_X9_heldCount_1
noncomputable def zp_X9_heldCount : List (List ECE) := [zp_X9_heldCount_0, zp_X9_heldCount_1]
noncomputable def zp_X9_bitsAt_1 : List ECE := (.iconst 0, 25, 0, 0, 0, []) :: (.iadd, 26, 0, 0, 0, []) :: (.istore_n 2, 27, 2, 0, 0, []) :: (.iinc 3 1, 28, 3, 1, 0, []) :: (.goto (-27), 31, 4, 0, 0, []) :: (.iload_n 2, 34, 2, 0, 0, []) :: (.ireturn, 35, 0, 0, 0, []) :: []
noncomputable def zp_X9_bitsAt_0 : List ECE := (.iconst 0, 0, 0, 0, 0, []) :: (.istore_n 2, 1, 2, 0, 0, []) :: (.iconst 0, 2, 0, 0, 0, []) :: (.istore_n 3, 3, 3, 0, 0, []) :: (.iload_n 3, 4, 3, 0, 0, []) :: (.bipush 20, 5, 20, 0, 0, []) :: (.if_icmp .ge 27, 7, 21, 0, 0, []) :: (.iload_n 2, 10, 2, 0, 0, []) :: (.aload_n 0, 11, 0, 0, 0, []) :: (.getfield 18, 12, 9, 2, 0, []) :: (.iload_n 3, 15, 3, 0, 0, []) :: (.iaload, 16, 0, 0, 0, []) :: (.iload_n 1, 17, 1, 0, 0, []) :: (.if_icmp .ne 7, 18, 16, 0, 0, []) :: (.iconst 1, 21, 1, 0, 0, []) :: (.goto 4, 22, 17, 0, 0, []) :: zp_X9_bitsAt_1
noncomputable def zp_X9_bitsAt : List (List ECE) := [zp_X9_bitsAt_0, zp_X9_bitsAt_1]
noncomputable def zp_X9_heldBy_0 : List ECE := (.aload_n 0, 0, 0, 0, 0, []) :: (.bipush 10, 1, 10, 0, 0, []) :: (.iload_n 1, 3, 1, 0, 0, []) :: (.iadd, 4, 0, 0, 0, []) :: (.invokevirtual 67, 5, 98, 2, 10, [0, 0]) :: (.ireturn, 8, 0, 0, 0, []) :: []
noncomputable def zp_X9_heldBy : List (List ECE) := [zp_X9_heldBy_0]
noncomputable def zp_X9_holdersOf_1 : List ECE := (.ishl, 24, 0, 0, 0, []) :: (.goto 4, 25, 19, 0, 0, []) :: (.iconst 0, 28, 0, 0, 0, []) :: (.ior, 29, 0, 0, 0, []) :: (.istore_n 2, 30, 2, 0, 0, []) :: (.iinc 3 1, 31, 3, 1, 0, []) :: (.goto (-30), 34, 4, 0, 0, []) :: (.iload_n 2, 37, 2, 0, 0, []) :: (.ireturn, 38, 0, 0, 0, []) :: []
noncomputable def zp_X9_holdersOf_0 : List ECE := (.iconst 0, 0, 0, 0, 0, []) :: (.istore_n 2, 1, 2, 0, 0, []) :: (.iconst 0, 2, 0, 0, 0, []) :: (.istore_n 3, 3, 3, 0, 0, []) :: (.iload_n 3, 4, 3, 0, 0, []) :: (.aload_n 0, 5, 0, 0, 0, []) :: (.getfield 34, 6, 9, 4, 0, []) :: (.if_icmp .ge 28, 9, 23, 0, 0, []) :: (.iload_n 2, 12, 2, 0, 0, []) :: (.aload_n 0, 13, 0, 0, 0, []) :: (.iload_n 3, 14, 3, 0, 0, []) :: (.iload_n 1, 15, 1, 0, 0, []) :: (.invokevirtual 70, 16, 102, 3, 10, [0, 0]) :: (.ifCond .le 9, 19, 18, 0, 0, []) :: (.iconst 1, 22, 1, 0, 0, []) :: (.iload_n 3, 23, 3, 0, 0, []) :: zp_X9_holdersOf_1
noncomputable def zp_X9_holdersOf : List (List ECE) := [zp_X9_holdersOf_0, zp_X9_holdersOf_1]
noncomputable def zp_X9_rightCount_1 : List ECE := (.iconst 1, 26, 1, 0, 0, []) :: (.iadd, 27, 0, 0, 0, []) :: (.istore_n 1, 28, 1, 0, 0, []) :: (.iinc 2 1, 29, 2, 1, 0, []) :: (.goto (-28), 32, 4, 0, 0, []) :: (.iload_n 1, 35, 1, 0, 0, []) :: (.ireturn, 36, 0, 0, 0, []) :: []
noncomputable def zp_X9_rightCount_0 : List ECE := (.iconst 0, 0, 0, 0, 0, []) :: (.istore_n 1, 1, 1, 0, 0, []) :: (.iconst 0, 2, 0, 0, 0, []) :: (.istore_n 2, 3, 2, 0, 0, []) :: (.iload_n 2, 4, 2, 0, 0, []) :: (.aload_n 0, 5, 0, 0, 0, []) :: (.getfield 31, 6, 9, 3, 0, []) :: (.if_icmp .ge 26, 9, 21, 0, 0, []) :: (.iload_n 1, 12, 1, 0, 0, []) :: (.aload_n 0, 13, 0, 0, 0, []) :: (.iload_n 2, 14, 2, 0, 0, []) :: (.invokevirtual 77, 15, 105, 2, 10, [0, 0]) :: (.iconst 5, 18, 5, 0, 0, []) :: (.if_icmp .ne 7, 19, 16, 0, 0, []) :: (.iconst 0, 22, 0, 0, 0, []) :: (.goto 4, 23, 17, 0, 0, []) :: zp_X9_rightCount_1
noncomputable def zp_X9_rightCount : List (List ECE) := [zp_X9_rightCount_0, zp_X9_rightCount_1]
noncomputable def zp_X9_carry_1 : List ECE := (.iload_n 1, 27, 1, 0, 0, []) :: (.ishl, 28, 0, 0, 0, []) :: (.ior, 29, 0, 0, 0, []) :: (.putfield 37, 30, 9, 5, 0, []) :: (.aload_n 0, 33, 0, 0, 0, []) :: (.getfield 37, 34, 9, 5, 0, []) :: (.invokestatic 83, 37, 323, 1, 0, [0, 0]) :: (.ireturn, 40, 0, 0, 0, []) :: []
noncomputable def zp_X9_carry_0 : List ECE := (.aload_n 0, 0, 0, 0, 0, []) :: (.iload_n 1, 1, 1, 0, 0, []) :: (.invokevirtual 46, 2, 84, 2, 10, [0, 0]) :: (.ifCond .ne 5, 5, 6, 0, 0, []) :: (.iconst (-1), 8, 4294967295, 0, 0, []) :: (.ireturn, 9, 0, 0, 0, []) :: (.aload_n 0, 10, 0, 0, 0, []) :: (.iload_n 1, 11, 1, 0, 0, []) :: (.invokevirtual 80, 12, 87, 2, 10, [0, 0]) :: (.ifCond .eq 6, 15, 12, 0, 0, []) :: (.bipush (-2), 18, 4294967294, 0, 0, []) :: (.ireturn, 20, 0, 0, 0, []) :: (.aload_n 0, 21, 0, 0, 0, []) :: (.dup, 22, 0, 0, 0, []) :: (.getfield 37, 23, 9, 5, 0, []) :: (.iconst 1, 26, 1, 0, 0, []) :: zp_X9_carry_1
noncomputable def zp_X9_carry : List (List ECE) := [zp_X9_carry_0, zp_X9_carry_1]
noncomputable def zp_X9_fling_1 : List ECE := (.ireturn, 30, 0, 0, 0, []) :: (.aload_n 0, 31, 0, 0, 0, []) :: (.iload_n 1, 32, 1, 0, 0, []) :: (.invokevirtual 92, 33, 88, 2, 10, [0, 0]) :: (.ifCond .eq 6, 36, 23, 0, 0, []) :: (.bipush (-3), 39, 4294967293, 0, 0, []) :: (.ireturn, 41, 0, 0, 0, []) :: (.aload_n 0, 42, 0, 0, 0, []) :: (.iload_n 1, 43, 1, 0, 0, []) :: (.iload_n 2, 44, 2, 0, 0, []) :: (.invokevirtual 95, 45, 110, 3, 10, [0, 0]) :: (.aload_n 0, 48, 0, 0, 0, []) :: (.iload_n 1, 49, 1, 0, 0, []) :: (.invokevirtual 50, 50, 89, 2, 10, [0, 0]) :: (.ireturn, 53, 0, 0, 0, []) :: []
noncomputable def zp_X9_fling_0 : List ECE := (.aload_n 0, 0, 0, 0, 0, []) :: (.iload_n 1, 1, 1, 0, 0, []) :: (.invokevirtual 46, 2, 84, 2, 10, [0, 0]) :: (.ifCond .eq 13, 5, 9, 0, 0, []) :: (.iload_n 2, 8, 2, 0, 0, []) :: (.iconst 0, 9, 0, 0, 0, []) :: (.bipush 7, 10, 7, 0, 0, []) :: (.invokestatic 88, 12, 191, 3, 0, [0, 0]) :: (.ifCond .ne 5, 15, 11, 0, 0, []) :: (.iconst (-1), 18, 4294967295, 0, 0, []) :: (.ireturn, 19, 0, 0, 0, []) :: (.aload_n 0, 20, 0, 0, 0, []) :: (.iload_n 1, 21, 1, 0, 0, []) :: (.invokevirtual 80, 22, 87, 2, 10, [0, 0]) :: (.ifCond .ne 6, 25, 17, 0, 0, []) :: (.bipush (-2), 28, 4294967294, 0, 0, []) :: zp_X9_fling_1
noncomputable def zp_X9_fling : List (List ECE) := [zp_X9_fling_0, zp_X9_fling_1]
noncomputable def zp_X9_sweep_2 : List ECE := (.getfield 37, 50, 9, 5, 0, []) :: (.iconst 1, 53, 1, 0, 0, []) :: (.iload_n 1, 54, 1, 0, 0, []) :: (.ishl, 55, 0, 0, 0, []) :: (.iconst (-1), 56, 4294967295, 0, 0, []) :: (.ixor, 57, 0, 0, 0, []) :: (.iand, 58, 0, 0, 0, []) :: (.putfield 37, 59, 9, 5, 0, []) :: (.iload_n 2, 62, 2, 0, 0, []) :: (.ireturn, 63, 0, 0, 0, []) :: []
noncomputable def zp_X9_sweep_1 : List ECE := (.aload_n 0, 27, 0, 0, 0, []) :: (.iload_n 1, 28, 1, 0, 0, []) :: (.bipush 20, 29, 20, 0, 0, []) :: (.invokevirtual 99, 31, 111, 3, 10, [0, 0]) :: (.aload_n 0, 34, 0, 0, 0, []) :: (.dup, 35, 0, 0, 0, []) :: (.getfield 40, 36, 9, 6, 0, []) :: (.iconst 1, 39, 1, 0, 0, []) :: (.iload_n 1, 40, 1, 0, 0, []) :: (.ishl, 41, 0, 0, 0, []) :: (.iconst (-1), 42, 4294967295, 0, 0, []) :: (.ixor, 43, 0, 0, 0, []) :: (.iand, 44, 0, 0, 0, []) :: (.putfield 40, 45, 9, 6, 0, []) :: (.aload_n 0, 48, 0, 0, 0, []) :: (.dup, 49, 0, 0, 0, []) :: zp_X9_sweep_2
noncomputable def zp_X9_sweep_0 : List ECE := (.aload_n 0, 0, 0, 0, 0, []) :: (.iload_n 1, 1, 1, 0, 0, []) :: (.invokevirtual 46, 2, 84, 2, 10, [0, 0]) :: (.ifCond .ne 5, 5, 6, 0, 0, []) :: (.iconst (-1), 8, 4294967295, 0, 0, []) :: (.ireturn, 9, 0, 0, 0, []) :: (.aload_n 0, 10, 0, 0, 0, []) :: (.iload_n 1, 11, 1, 0, 0, []) :: (.invokevirtual 92, 12, 88, 2, 10, [0, 0]) :: (.ifCond .ne 6, 15, 12, 0, 0, []) :: (.bipush (-2), 18, 4294967294, 0, 0, []) :: (.ireturn, 20, 0, 0, 0, []) :: (.aload_n 0, 21, 0, 0, 0, []) :: (.iload_n 1, 22, 1, 0, 0, []) :: (.invokevirtual 105, 23, 100, 2, 10, [0, 0]) :: (.istore_n 2, 26, 2, 0, 0, []) :: zp_X9_sweep_1
noncomputable def zp_X9_sweep : List (List ECE) := [zp_X9_sweep_0, zp_X9_sweep_1, zp_X9_sweep_2]
noncomputable def zp_X9_walk_1 : List ECE := (.invokestatic 114, 27, 324, 1, 0, [0, 0]) :: (.istore_n 3, 30, 3, 0, 0, []) :: (.iload_n 3, 31, 3, 0, 0, []) :: (.ifCond .ne 6, 32, 22, 0, 0, []) :: (.bipush (-2), 35, 4294967294, 0, 0, []) :: (.ireturn, 37, 0, 0, 0, []) :: (.aload_n 0, 38, 0, 0, 0, []) :: (.iload_n 1, 39, 1, 0, 0, []) :: (.iload_n 2, 40, 2, 0, 0, []) :: (.invokevirtual 119, 41, 92, 3, 10, [0, 0]) :: (.iload_n 3, 44, 3, 0, 0, []) :: (.ireturn, 45, 0, 0, 0, []) :: []
noncomputable def zp_X9_walk_0 : List ECE := (.aload_n 0, 0, 0, 0, 0, []) :: (.iload_n 1, 1, 1, 0, 0, []) :: (.invokevirtual 108, 2, 85, 2, 10, [0, 0]) :: (.ifCond .eq 13, 5, 9, 0, 0, []) :: (.iload_n 2, 8, 2, 0, 0, []) :: (.iconst 0, 9, 0, 0, 0, []) :: (.bipush 7, 10, 7, 0, 0, []) :: (.invokestatic 88, 12, 191, 3, 0, [0, 0]) :: (.ifCond .ne 5, 15, 11, 0, 0, []) :: (.iconst (-1), 18, 4294967295, 0, 0, []) :: (.ireturn, 19, 0, 0, 0, []) :: (.iload_n 2, 20, 2, 0, 0, []) :: (.aload_n 0, 21, 0, 0, 0, []) :: (.iload_n 1, 22, 1, 0, 0, []) :: (.invokevirtual 111, 23, 90, 2, 10, [0, 0]) :: (.isub, 26, 0, 0, 0, []) :: zp_X9_walk_1
noncomputable def zp_X9_walk : List (List ECE) := [zp_X9_walk_0, zp_X9_walk_1]
noncomputable def zp_X9_give_3 : List ECE := (.iload 4, 93, 4, 0, 0, []) :: (.ireturn, 95, 0, 0, 0, []) :: []
noncomputable def zp_X9_give_2 : List ECE := (.iload_n 1, 59, 1, 0, 0, []) :: (.iadd, 60, 0, 0, 0, []) :: (.if_icmp .ne 16, 61, 42, 0, 0, []) :: (.aload_n 0, 64, 0, 0, 0, []) :: (.iload 6, 65, 6, 0, 0, []) :: (.bipush 10, 67, 10, 0, 0, []) :: (.iload_n 2, 69, 2, 0, 0, []) :: (.iadd, 70, 0, 0, 0, []) :: (.invokevirtual 102, 71, 93, 3, 10, [0, 0]) :: (.iinc 4 1, 74, 4, 1, 0, []) :: (.iinc 5 1, 77, 5, 1, 0, []) :: (.goto (-43), 80, 21, 0, 0, []) :: (.iload 4, 83, 4, 0, 0, []) :: (.ifCond .ne 8, 85, 48, 0, 0, []) :: (.bipush (-2), 88, 4294967294, 0, 0, []) :: (.goto 5, 90, 49, 0, 0, []) :: zp_X9_give_3
noncomputable def zp_X9_give_1 : List ECE := (.ireturn, 30, 0, 0, 0, []) :: (.iconst 0, 31, 0, 0, 0, []) :: (.istore 4, 32, 4, 0, 0, []) :: (.iconst 0, 34, 0, 0, 0, []) :: (.istore 5, 35, 5, 0, 0, []) :: (.iload 5, 37, 5, 0, 0, []) :: (.iconst 4, 39, 4, 0, 0, []) :: (.if_icmp .ge 43, 40, 44, 0, 0, []) :: (.iload_n 3, 43, 3, 0, 0, []) :: (.iload 5, 44, 5, 0, 0, []) :: (.invokestatic 63, 46, 193, 2, 0, [0, 0]) :: (.istore 6, 49, 6, 0, 0, []) :: (.aload_n 0, 51, 0, 0, 0, []) :: (.iload 6, 52, 6, 0, 0, []) :: (.invokevirtual 54, 54, 91, 2, 10, [0, 0]) :: (.bipush 10, 57, 10, 0, 0, []) :: zp_X9_give_2
noncomputable def zp_X9_give_0 : List ECE := (.aload_n 0, 0, 0, 0, 0, []) :: (.iload_n 1, 1, 1, 0, 0, []) :: (.invokevirtual 108, 2, 85, 2, 10, [0, 0]) :: (.ifCond .eq 24, 5, 15, 0, 0, []) :: (.aload_n 0, 8, 0, 0, 0, []) :: (.iload_n 2, 9, 2, 0, 0, []) :: (.invokevirtual 108, 10, 85, 2, 10, [0, 0]) :: (.ifCond .eq 16, 13, 15, 0, 0, []) :: (.iload_n 1, 16, 1, 0, 0, []) :: (.iload_n 2, 17, 2, 0, 0, []) :: (.if_icmp .eq 11, 18, 15, 0, 0, []) :: (.aload_n 0, 21, 0, 0, 0, []) :: (.iload_n 3, 22, 3, 0, 0, []) :: (.invokevirtual 46, 23, 84, 2, 10, [0, 0]) :: (.ifCond .ne 5, 26, 17, 0, 0, []) :: (.iconst (-1), 29, 4294967295, 0, 0, []) :: zp_X9_give_1
noncomputable def zp_X9_give : List (List ECE) := [zp_X9_give_0, zp_X9_give_1, zp_X9_give_2, zp_X9_give_3]
noncomputable def zp_X9_letFall_2 : List ECE := (.goto 4, 57, 34, 0, 0, []) :: (.iload_n 2, 60, 2, 0, 0, []) :: (.ireturn, 61, 0, 0, 0, []) :: []
noncomputable def zp_X9_letFall_1 : List ECE := (.bipush 10, 25, 10, 0, 0, []) :: (.iload_n 1, 27, 1, 0, 0, []) :: (.iadd, 28, 0, 0, 0, []) :: (.if_icmp .ne 16, 29, 27, 0, 0, []) :: (.aload_n 0, 32, 0, 0, 0, []) :: (.iload_n 3, 33, 3, 0, 0, []) :: (.aload_n 0, 34, 0, 0, 0, []) :: (.iload_n 1, 35, 1, 0, 0, []) :: (.invokevirtual 111, 36, 90, 2, 10, [0, 0]) :: (.invokevirtual 102, 39, 93, 3, 10, [0, 0]) :: (.iinc 2 1, 42, 2, 1, 0, []) :: (.iinc 3 1, 45, 3, 1, 0, []) :: (.goto (-34), 48, 10, 0, 0, []) :: (.iload_n 2, 51, 2, 0, 0, []) :: (.ifCond .ne 8, 52, 33, 0, 0, []) :: (.bipush (-2), 55, 4294967294, 0, 0, []) :: zp_X9_letFall_2
noncomputable def zp_X9_letFall_0 : List ECE := (.aload_n 0, 0, 0, 0, 0, []) :: (.iload_n 1, 1, 1, 0, 0, []) :: (.invokevirtual 108, 2, 85, 2, 10, [0, 0]) :: (.ifCond .ne 5, 5, 6, 0, 0, []) :: (.iconst (-1), 8, 4294967295, 0, 0, []) :: (.ireturn, 9, 0, 0, 0, []) :: (.iconst 0, 10, 0, 0, 0, []) :: (.istore_n 2, 11, 2, 0, 0, []) :: (.iconst 0, 12, 0, 0, 0, []) :: (.istore_n 3, 13, 3, 0, 0, []) :: (.iload_n 3, 14, 3, 0, 0, []) :: (.bipush 20, 15, 20, 0, 0, []) :: (.if_icmp .ge 34, 17, 29, 0, 0, []) :: (.aload_n 0, 20, 0, 0, 0, []) :: (.iload_n 3, 21, 3, 0, 0, []) :: (.invokevirtual 54, 22, 91, 2, 10, [0, 0]) :: zp_X9_letFall_1
noncomputable def zp_X9_letFall : List (List ECE) := [zp_X9_letFall_0, zp_X9_letFall_1, zp_X9_letFall_2]
noncomputable def zp_X9_turnWind_1 : List ECE := (.aload_n 0, 28, 0, 0, 0, []) :: (.iload_n 1, 29, 1, 0, 0, []) :: (.putfield 21, 30, 9, 7, 0, []) :: (.bipush 10, 33, 10, 0, 0, []) :: (.iload_n 2, 35, 2, 0, 0, []) :: (.iadd, 36, 0, 0, 0, []) :: (.ireturn, 37, 0, 0, 0, []) :: []
noncomputable def zp_X9_turnWind_0 : List ECE := (.iload_n 1, 0, 1, 0, 0, []) :: (.bipush (-3), 1, 4294967293, 0, 0, []) :: (.iconst 3, 3, 3, 0, 0, []) :: (.invokestatic 88, 4, 191, 3, 0, [0, 0]) :: (.ifCond .ne 5, 7, 7, 0, 0, []) :: (.iconst (-1), 10, 4294967295, 0, 0, []) :: (.ireturn, 11, 0, 0, 0, []) :: (.iload_n 1, 12, 1, 0, 0, []) :: (.aload_n 0, 13, 0, 0, 0, []) :: (.getfield 21, 14, 9, 7, 0, []) :: (.if_icmp .ne 6, 17, 13, 0, 0, []) :: (.bipush (-2), 20, 4294967294, 0, 0, []) :: (.ireturn, 22, 0, 0, 0, []) :: (.aload_n 0, 23, 0, 0, 0, []) :: (.getfield 21, 24, 9, 7, 0, []) :: (.istore_n 2, 27, 2, 0, 0, []) :: zp_X9_turnWind_1
noncomputable def zp_X9_turnWind : List (List ECE) := [zp_X9_turnWind_0, zp_X9_turnWind_1]
noncomputable def zp_X10_init_0 : List ECE := (.aload_n 0, 0, 0, 0, 0, []) :: (.invokespecial 3, 1, 0, 0, 0, []) :: (.aload_n 0, 4, 0, 0, 0, []) :: (.bipush 8, 5, 8, 0, 0, []) :: (.newarray .int, 7, 100, 0, 0, []) :: (.putfield 9, 9, 10, 0, 2, []) :: (.aload_n 0, 12, 0, 0, 0, []) :: (.bipush 20, 13, 20, 0, 0, []) :: (.newarray .int, 15, 100, 0, 0, []) :: (.putfield 15, 17, 10, 1, 2, []) :: (.return_, 20, 0, 0, 0, []) :: []
noncomputable def zp_X10_init : List (List ECE) := [zp_X10_init_0]
noncomputable def zp_X10_passDays_2 : List ECE := (.goto (-54), 60, 4, 0, 0, []) :: (.iload 4, 63, 4, 0, 0, []) :: (.ireturn, 65, 0, 0, 0, []) :: []
noncomputable def zp_X10_passDays_1 : List ECE := (.if_icmp .ge 20, 27, 25, 0, 0, []) :: (.iload 4, 30, 4, 0, 0, []) :: (.aload_n 1, 32, 1, 0, 0, []) :: (.iload 6, 33, 6, 0, 0, []) :: (.invokevirtual 28, 35, 117, 2, 10, [0, 0]) :: (.iadd, 38, 0, 0, 0, []) :: (.istore 4, 39, 4, 0, 0, []) :: (.iinc 6 1, 41, 6, 1, 0, []) :: (.goto (-23), 44, 13, 0, 0, []) :: (.aload_n 1, 47, 1, 0, 0, []) :: (.dup, 48, 0, 0, 0, []) :: (.getfield 32, 49, 9, 8, 0, []) :: (.iconst 1, 52, 1, 0, 0, []) :: (.iadd, 53, 0, 0, 0, []) :: (.putfield 32, 54, 9, 8, 0, []) :: (.iinc 5 1, 57, 5, 1, 0, []) :: zp_X10_passDays_2
noncomputable def zp_X10_passDays_0 : List ECE := (.iconst 0, 0, 0, 0, 0, []) :: (.istore 4, 1, 4, 0, 0, []) :: (.iconst 0, 3, 0, 0, 0, []) :: (.istore 5, 4, 5, 0, 0, []) :: (.iload 5, 6, 5, 0, 0, []) :: (.iload_n 3, 8, 3, 0, 0, []) :: (.if_icmp .ge 54, 9, 33, 0, 0, []) :: (.aload_n 0, 12, 0, 0, 0, []) :: (.aload_n 1, 13, 1, 0, 0, []) :: (.aload_n 2, 14, 2, 0, 0, []) :: (.invokevirtual 18, 15, 123, 3, 11, [0, 0]) :: (.iconst 0, 18, 0, 0, 0, []) :: (.istore 6, 19, 6, 0, 0, []) :: (.iload 6, 21, 6, 0, 0, []) :: (.aload_n 1, 23, 1, 0, 0, []) :: (.getfield 22, 24, 9, 4, 0, []) :: zp_X10_passDays_1
noncomputable def zp_X10_passDays : List (List ECE) := [zp_X10_passDays_0, zp_X10_passDays_1, zp_X10_passDays_2]
noncomputable def zp_X10_passYears_3 : List ECE := (.bipush 8, 88, 8, 0, 0, []) :: (.invokevirtual 38, 90, 124, 2, 11, [0, 0]) :: (.invokevirtual 48, 93, 92, 3, 10, [0, 0]) :: (.iinc 6 1, 96, 6, 1, 0, []) :: (.goto (-88), 99, 7, 0, 0, []) :: (.iload 5, 102, 5, 0, 0, []) :: (.ireturn, 104, 0, 0, 0, []) :: []
noncomputable def zp_X10_passYears_2 : List ECE := (.invokevirtual 38, 56, 124, 2, 11, [0, 0]) :: (.iconst 3, 59, 3, 0, 0, []) :: (.isub, 60, 0, 0, 0, []) :: (.putfield 45, 61, 9, 7, 0, []) :: (.goto 32, 64, 51, 0, 0, []) :: (.aload_n 1, 67, 1, 0, 0, []) :: (.getfield 22, 68, 9, 4, 0, []) :: (.ifCond .le 25, 71, 51, 0, 0, []) :: (.aload_n 0, 74, 0, 0, 0, []) :: (.aload_n 1, 75, 1, 0, 0, []) :: (.getfield 22, 76, 9, 4, 0, []) :: (.invokevirtual 38, 79, 124, 2, 11, [0, 0]) :: (.istore 8, 82, 8, 0, 0, []) :: (.aload_n 1, 84, 1, 0, 0, []) :: (.iload 8, 85, 8, 0, 0, []) :: (.aload_n 0, 87, 0, 0, 0, []) :: zp_X10_passYears_3
noncomputable def zp_X10_passYears_1 : List ECE := (.if_icmp .ge 18, 28, 26, 0, 0, []) :: (.iload 5, 31, 5, 0, 0, []) :: (.aload_n 0, 33, 0, 0, 0, []) :: (.aload_n 1, 34, 1, 0, 0, []) :: (.aload_n 2, 35, 2, 0, 0, []) :: (.iconst 1, 36, 1, 0, 0, []) :: (.invokevirtual 41, 37, 119, 4, 11, [0, 0]) :: (.iadd, 40, 0, 0, 0, []) :: (.istore 5, 41, 5, 0, 0, []) :: (.goto 53, 43, 51, 0, 0, []) :: (.iload 7, 46, 7, 0, 0, []) :: (.iconst 2, 48, 2, 0, 0, []) :: (.if_icmp .ne 18, 49, 37, 0, 0, []) :: (.aload_n 1, 52, 1, 0, 0, []) :: (.aload_n 0, 53, 0, 0, 0, []) :: (.bipush 7, 54, 7, 0, 0, []) :: zp_X10_passYears_2
noncomputable def zp_X10_passYears_0 : List ECE := (.aload_n 0, 0, 0, 0, 0, []) :: (.iload_n 3, 1, 3, 0, 0, []) :: (.putfield 35, 2, 10, 2, 0, []) :: (.iconst 0, 5, 0, 0, 0, []) :: (.istore 5, 6, 5, 0, 0, []) :: (.iconst 0, 8, 0, 0, 0, []) :: (.istore 6, 9, 6, 0, 0, []) :: (.iload 6, 11, 6, 0, 0, []) :: (.iload 4, 13, 4, 0, 0, []) :: (.if_icmp .ge 87, 15, 53, 0, 0, []) :: (.aload_n 0, 18, 0, 0, 0, []) :: (.iconst 4, 19, 4, 0, 0, []) :: (.invokevirtual 38, 20, 124, 2, 11, [0, 0]) :: (.istore 7, 23, 7, 0, 0, []) :: (.iload 7, 25, 7, 0, 0, []) :: (.iconst 2, 27, 2, 0, 0, []) :: zp_X10_passYears_1
noncomputable def zp_X10_passYears : List (List ECE) := [zp_X10_passYears_0, zp_X10_passYears_1, zp_X10_passYears_2, zp_X10_passYears_3]
noncomputable def zp_X10_countCrowd_2 : List ECE := (.iadd, 53, 0, 0, 0, []) :: (.iastore, 54, 0, 0, 0, []) :: (.iinc 2 1, 55, 2, 1, 0, []) :: (.goto (-35), 58, 14, 0, 0, []) :: (.return_, 61, 0, 0, 0, []) :: []
noncomputable def zp_X10_countCrowd_1 : List ECE := (.if_icmp .ge 35, 26, 36, 0, 0, []) :: (.aload_n 1, 29, 1, 0, 0, []) :: (.iload_n 2, 30, 2, 0, 0, []) :: (.invokevirtual 52, 31, 91, 2, 10, [0, 0]) :: (.istore_n 3, 34, 3, 0, 0, []) :: (.iload_n 3, 35, 3, 0, 0, []) :: (.ifCond .lt 19, 36, 34, 0, 0, []) :: (.iload_n 3, 39, 3, 0, 0, []) :: (.bipush 8, 40, 8, 0, 0, []) :: (.if_icmp .ge 13, 42, 34, 0, 0, []) :: (.aload_n 0, 45, 0, 0, 0, []) :: (.getfield 9, 46, 10, 0, 0, []) :: (.iload_n 3, 49, 3, 0, 0, []) :: (.dup2, 50, 0, 0, 0, []) :: (.iaload, 51, 0, 0, 0, []) :: (.iconst 1, 52, 1, 0, 0, []) :: zp_X10_countCrowd_2
noncomputable def zp_X10_countCrowd_0 : List ECE := (.iconst 0, 0, 0, 0, 0, []) :: (.istore_n 2, 1, 2, 0, 0, []) :: (.iload_n 2, 2, 2, 0, 0, []) :: (.bipush 8, 3, 8, 0, 0, []) :: (.if_icmp .ge 16, 5, 12, 0, 0, []) :: (.aload_n 0, 8, 0, 0, 0, []) :: (.getfield 9, 9, 10, 0, 0, []) :: (.iload_n 2, 12, 2, 0, 0, []) :: (.iconst 0, 13, 0, 0, 0, []) :: (.iastore, 14, 0, 0, 0, []) :: (.iinc 2 1, 15, 2, 1, 0, []) :: (.goto (-16), 18, 2, 0, 0, []) :: (.iconst 0, 21, 0, 0, 0, []) :: (.istore_n 2, 22, 2, 0, 0, []) :: (.iload_n 2, 23, 2, 0, 0, []) :: (.bipush 20, 24, 20, 0, 0, []) :: zp_X10_countCrowd_1
noncomputable def zp_X10_countCrowd : List (List ECE) := [zp_X10_countCrowd_0, zp_X10_countCrowd_1, zp_X10_countCrowd_2]
noncomputable def zp_X10_blow_2 : List ECE := (.bipush 20, 55, 20, 0, 0, []) :: (.if_icmp .ge 20, 57, 43, 0, 0, []) :: (.aload_n 1, 60, 1, 0, 0, []) :: (.iload_n 3, 61, 3, 0, 0, []) :: (.aload_n 0, 62, 0, 0, 0, []) :: (.getfield 15, 63, 10, 1, 0, []) :: (.iload_n 3, 66, 3, 0, 0, []) :: (.iaload, 67, 0, 0, 0, []) :: (.invokevirtual 81, 68, 93, 3, 10, [0, 0]) :: (.iinc 3 1, 71, 3, 1, 0, []) :: (.goto (-20), 74, 31, 0, 0, []) :: (.return_, 77, 0, 0, 0, []) :: []
noncomputable def zp_X10_blow_1 : List ECE := (.aload_n 1, 27, 1, 0, 0, []) :: (.aload_n 2, 28, 2, 0, 0, []) :: (.iload_n 3, 29, 3, 0, 0, []) :: (.aload_n 1, 30, 1, 0, 0, []) :: (.getfield 45, 31, 9, 7, 0, []) :: (.invokevirtual 77, 34, 122, 5, 11, [0, 0]) :: (.goto 8, 37, 26, 0, 0, []) :: (.aload_n 1, 40, 1, 0, 0, []) :: (.iload_n 3, 41, 3, 0, 0, []) :: (.invokevirtual 52, 42, 91, 2, 10, [0, 0]) :: (.iastore, 45, 0, 0, 0, []) :: (.iinc 3 1, 46, 3, 1, 0, []) :: (.goto (-42), 49, 5, 0, 0, []) :: (.iconst 0, 52, 0, 0, 0, []) :: (.istore_n 3, 53, 3, 0, 0, []) :: (.iload_n 3, 54, 3, 0, 0, []) :: zp_X10_blow_2
noncomputable def zp_X10_blow_0 : List ECE := (.aload_n 0, 0, 0, 0, 0, []) :: (.aload_n 1, 1, 1, 0, 0, []) :: (.invokevirtual 69, 2, 121, 2, 11, [0, 0]) :: (.iconst 0, 5, 0, 0, 0, []) :: (.istore_n 3, 6, 3, 0, 0, []) :: (.iload_n 3, 7, 3, 0, 0, []) :: (.bipush 20, 8, 20, 0, 0, []) :: (.if_icmp .ge 42, 10, 29, 0, 0, []) :: (.aload_n 0, 13, 0, 0, 0, []) :: (.getfield 15, 14, 10, 1, 0, []) :: (.iload_n 3, 17, 3, 0, 0, []) :: (.aload_n 1, 18, 1, 0, 0, []) :: (.iload_n 3, 19, 3, 0, 0, []) :: (.invokevirtual 73, 20, 94, 2, 10, [0, 0]) :: (.ifCond .eq 17, 23, 23, 0, 0, []) :: (.aload_n 0, 26, 0, 0, 0, []) :: zp_X10_blow_1
noncomputable def zp_X10_blow : List (List ECE) := [zp_X10_blow_0, zp_X10_blow_1, zp_X10_blow_2]
noncomputable def zp_X10_draw_1 : List ECE := (.goto 4, 28, 18, 0, 0, []) :: (.iconst 0, 31, 0, 0, 0, []) :: (.ireturn, 32, 0, 0, 0, []) :: []
noncomputable def zp_X10_draw_0 : List ECE := (.aload_n 0, 0, 0, 0, 0, []) :: (.aload_n 0, 1, 0, 0, 0, []) :: (.getfield 35, 2, 10, 2, 0, []) :: (.ldc 84, 5, 1103515245, 0, 0, []) :: (.imul, 7, 0, 0, 0, []) :: (.sipush 12345, 8, 12345, 0, 0, []) :: (.iadd, 11, 0, 0, 0, []) :: (.putfield 35, 12, 10, 2, 0, []) :: (.iload_n 1, 15, 1, 0, 0, []) :: (.ifCond .le 15, 16, 17, 0, 0, []) :: (.aload_n 0, 19, 0, 0, 0, []) :: (.getfield 35, 20, 10, 2, 0, []) :: (.bipush 16, 23, 16, 0, 0, []) :: (.iushr, 25, 0, 0, 0, []) :: (.iload_n 1, 26, 1, 0, 0, []) :: (.irem, 27, 0, 0, 0, []) :: zp_X10_draw_1
noncomputable def zp_X10_draw : List (List ECE) := [zp_X10_draw_0, zp_X10_draw_1]
noncomputable def zp_X11_init_4 : List ECE := (.dup, 140, 0, 0, 0, []) :: (.invokespecial 80, 141, 36, 1, 0, [4, 127]) :: (.putfield 85, 144, 11, 12, 2, []) :: (.return_, 147, 0, 0, 0, []) :: []
noncomputable def zp_X11_init_3 : List ECE := (.new 64, 104, 1, 0, 0, [2]) :: (.dup, 107, 0, 0, 0, []) :: (.invokespecial 66, 108, 8, 1, 0, [2, 39]) :: (.putfield 67, 111, 11, 9, 2, []) :: (.aload_n 0, 114, 0, 0, 0, []) :: (.new 71, 115, 0, 0, 0, [2]) :: (.dup, 118, 0, 0, 0, []) :: (.invokespecial 73, 119, 0, 1, 0, [2, 39]) :: (.putfield 74, 122, 11, 10, 2, []) :: (.aload_n 0, 125, 0, 0, 0, []) :: (.new 78, 126, 5, 0, 0, [2, 2, 2, 2, 0, 0, 0, 0, 0, 1]) :: (.dup, 129, 0, 0, 0, []) :: (.invokespecial 80, 130, 36, 1, 0, [4, 127]) :: (.putfield 81, 133, 11, 11, 2, []) :: (.aload_n 0, 136, 0, 0, 0, []) :: (.new 78, 137, 5, 0, 0, [2, 2, 2, 2, 0, 0, 0, 0, 0, 1]) :: zp_X11_init_4
noncomputable def zp_X11_init_2 : List ECE := (.aload_n 0, 70, 0, 0, 0, []) :: (.new 43, 71, 10, 0, 0, [2, 2, 0]) :: (.dup, 74, 0, 0, 0, []) :: (.invokespecial 45, 75, 118, 1, 0, [2, 28]) :: (.putfield 46, 78, 11, 6, 2, []) :: (.aload_n 0, 81, 0, 0, 0, []) :: (.new 50, 82, 7, 0, 0, [2, 2, 2, 0]) :: (.dup, 85, 0, 0, 0, []) :: (.invokespecial 52, 86, 63, 1, 0, [3, 202]) :: (.putfield 53, 89, 11, 7, 2, []) :: (.aload_n 0, 92, 0, 0, 0, []) :: (.new 57, 93, 8, 0, 0, [2, 2]) :: (.dup, 96, 0, 0, 0, []) :: (.invokespecial 59, 97, 76, 1, 0, [3, 47]) :: (.putfield 60, 100, 11, 8, 2, []) :: (.aload_n 0, 103, 0, 0, 0, []) :: zp_X11_init_3
noncomputable def zp_X11_init_1 : List ECE := (.putfield 26, 34, 11, 2, 2, []) :: (.aload_n 0, 37, 0, 0, 0, []) :: (.new 23, 38, 9, 0, 0, [2, 2, 2, 0, 0, 0, 0, 0, 0]) :: (.dup, 41, 0, 0, 0, []) :: (.invokespecial 25, 42, 80, 1, 0, [3, 30]) :: (.putfield 30, 45, 11, 3, 2, []) :: (.aload_n 0, 48, 0, 0, 0, []) :: (.new 23, 49, 9, 0, 0, [2, 2, 2, 0, 0, 0, 0, 0, 0]) :: (.dup, 52, 0, 0, 0, []) :: (.invokespecial 25, 53, 80, 1, 0, [3, 30]) :: (.putfield 33, 56, 11, 4, 2, []) :: (.aload_n 0, 59, 0, 0, 0, []) :: (.new 36, 60, 3, 0, 0, [2, 2, 0, 0, 0]) :: (.dup, 63, 0, 0, 0, []) :: (.invokespecial 38, 64, 20, 1, 0, [74, 720]) :: (.putfield 39, 67, 11, 5, 2, []) :: zp_X11_init_2
noncomputable def zp_X11_init_0 : List ECE := (.aload_n 0, 0, 0, 0, 0, []) :: (.invokespecial 1, 1, 0, 0, 0, []) :: (.aload_n 0, 4, 0, 0, 0, []) :: (.new 7, 5, 6, 0, 0, [2, 0]) :: (.dup, 8, 0, 0, 0, []) :: (.invokespecial 9, 9, 51, 1, 0, [1, 80]) :: (.putfield 10, 12, 11, 0, 2, []) :: (.aload_n 0, 15, 0, 0, 0, []) :: (.new 16, 16, 4, 0, 0, [2, 0]) :: (.dup, 19, 0, 0, 0, []) :: (.invokespecial 18, 20, 28, 1, 0, [1, 12]) :: (.putfield 19, 23, 11, 1, 2, []) :: (.aload_n 0, 26, 0, 0, 0, []) :: (.new 23, 27, 9, 0, 0, [2, 2, 2, 0, 0, 0, 0, 0, 0]) :: (.dup, 30, 0, 0, 0, []) :: (.invokespecial 25, 31, 80, 1, 0, [3, 30]) :: zp_X11_init_1
noncomputable def zp_X11_init : List (List ECE) := [zp_X11_init_0, zp_X11_init_1, zp_X11_init_2, zp_X11_init_3, zp_X11_init_4]
noncomputable def zp_X11_sign_0 : List ECE := (.aload_n 0, 0, 0, 0, 0, []) :: (.getfield 10, 1, 11, 0, 0, []) :: (.iload_n 1, 4, 1, 0, 0, []) :: (.invokevirtual 88, 5, 53, 2, 7, [0, 0]) :: (.ireturn, 8, 0, 0, 0, []) :: []
noncomputable def zp_X11_sign : List (List ECE) := [zp_X11_sign_0]
noncomputable def zp_X11_end_0 : List ECE := (.aload_n 0, 0, 0, 0, 0, []) :: (.getfield 10, 1, 11, 0, 0, []) :: (.iload_n 1, 4, 1, 0, 0, []) :: (.invokevirtual 92, 5, 54, 2, 7, [0, 0]) :: (.ireturn, 8, 1, 0, 0, []) :: []
noncomputable def zp_X11_end : List (List ECE) := [zp_X11_end_0]
noncomputable def zp_X11_laws_0 : List ECE := (.aload_n 0, 0, 0, 0, 0, []) :: (.bipush 49, 1, 49, 0, 0, []) :: (.bipush 52, 3, 52, 0, 0, []) :: (.iconst 1, 5, 1, 0, 0, []) :: (.invokevirtual 96, 6, 181, 4, 12, [0, 0]) :: (.ireturn, 9, 0, 0, 0, []) :: []
noncomputable def zp_X11_laws : List (List ECE) := [zp_X11_laws_0]
noncomputable def zp_X11_people_0 : List ECE := (.aload_n 0, 0, 0, 0, 0, []) :: (.bipush 48, 1, 48, 0, 0, []) :: (.bipush 55, 3, 55, 0, 0, []) :: (.iconst 0, 5, 0, 0, 0, []) :: (.invokevirtual 96, 6, 181, 4, 12, [0, 0]) :: (.ireturn, 9, 0, 0, 0, []) :: []
noncomputable def zp_X11_people : List (List ECE) := [zp_X11_people_0]
noncomputable def zp_X11_rule_1 : List ECE := (.getfield 81, 28, 11, 11, 0, []) :: (.astore_n 2, 31, 2, 0, 0, []) :: (.aload_n 0, 32, 0, 0, 0, []) :: (.aload_n 0, 33, 0, 0, 0, []) :: (.getfield 85, 34, 11, 12, 0, []) :: (.putfield 81, 37, 11, 11, 2, []) :: (.aload_n 0, 40, 0, 0, 0, []) :: (.aload_n 2, 41, 2, 0, 0, []) :: (.putfield 85, 42, 11, 12, 2, []) :: (.iconst 0, 45, 0, 0, 0, []) :: (.ireturn, 46, 0, 0, 0, []) :: []
noncomputable def zp_X11_rule_0 : List ECE := (.aload_n 0, 0, 0, 0, 0, []) :: (.getfield 85, 1, 11, 12, 0, []) :: (.aload_n 0, 4, 0, 0, 0, []) :: (.getfield 10, 5, 11, 0, 0, []) :: (.aload_n 0, 8, 0, 0, 0, []) :: (.getfield 10, 9, 11, 0, 0, []) :: (.invokevirtual 100, 12, 55, 1, 7, [0, 0]) :: (.invokevirtual 104, 15, 37, 3, 6, [0, 0]) :: (.istore_n 1, 18, 1, 0, 0, []) :: (.iload_n 1, 19, 1, 0, 0, []) :: (.ifCond .lt 7, 20, 15, 0, 0, []) :: (.iconst (-1), 23, 4294967295, 0, 0, []) :: (.iload_n 1, 24, 1, 0, 0, []) :: (.isub, 25, 0, 0, 0, []) :: (.ireturn, 26, 0, 0, 0, []) :: (.aload_n 0, 27, 0, 0, 0, []) :: zp_X11_rule_1
noncomputable def zp_X11_rule : List (List ECE) := [zp_X11_rule_0, zp_X11_rule_1]
noncomputable def zp_X11_law_3 : List ECE := (.getfield 26, 116, 11, 2, 0, []) :: (.iload_n 1, 119, 1, 0, 0, []) :: (.invokevirtual 134, 120, 105, 2, 10, [0, 0]) :: (.ireturn, 123, 0, 0, 0, []) :: []
noncomputable def zp_X11_law_2 : List ECE := (.iload_n 1, 92, 1, 0, 0, []) :: (.ishr, 93, 0, 0, 0, []) :: (.iconst 1, 94, 1, 0, 0, []) :: (.iand, 95, 0, 0, 0, []) :: (.ireturn, 96, 0, 0, 0, []) :: (.aload_n 0, 97, 0, 0, 0, []) :: (.getfield 26, 98, 11, 2, 0, []) :: (.iload_n 1, 101, 1, 0, 0, []) :: (.invokevirtual 128, 102, 99, 2, 10, [0, 0]) :: (.ireturn, 105, 0, 0, 0, []) :: (.aload_n 0, 106, 0, 0, 0, []) :: (.getfield 26, 107, 11, 2, 0, []) :: (.iload_n 1, 110, 1, 0, 0, []) :: (.invokevirtual 131, 111, 100, 2, 10, [0, 0]) :: (.ireturn, 114, 0, 0, 0, []) :: (.aload_n 0, 115, 0, 0, 0, []) :: zp_X11_law_3
noncomputable def zp_X11_law_1 : List ECE := (.aload_n 0, 64, 0, 0, 0, []) :: (.getfield 26, 65, 11, 2, 0, []) :: (.iload_n 1, 68, 1, 0, 0, []) :: (.invokevirtual 118, 69, 89, 2, 10, [0, 0]) :: (.ireturn, 72, 0, 0, 0, []) :: (.aload_n 0, 73, 0, 0, 0, []) :: (.getfield 26, 74, 11, 2, 0, []) :: (.getfield 121, 77, 9, 5, 0, []) :: (.iload_n 1, 80, 1, 0, 0, []) :: (.ishr, 81, 0, 0, 0, []) :: (.iconst 1, 82, 1, 0, 0, []) :: (.iand, 83, 0, 0, 0, []) :: (.ireturn, 84, 0, 0, 0, []) :: (.aload_n 0, 85, 0, 0, 0, []) :: (.getfield 26, 86, 11, 2, 0, []) :: (.getfield 125, 89, 9, 6, 0, []) :: zp_X11_law_2
noncomputable def zp_X11_law_0 : List ECE := (.aload_n 0, 0, 0, 0, 0, []) :: (.getfield 26, 1, 11, 2, 0, []) :: (.iload_n 1, 4, 1, 0, 0, []) :: (.invokevirtual 108, 5, 84, 2, 10, [0, 0]) :: (.ifCond .eq 12, 8, 10, 0, 0, []) :: (.iload_n 2, 11, 2, 0, 0, []) :: (.iconst 0, 12, 0, 0, 0, []) :: (.iconst 5, 13, 5, 0, 0, []) :: (.invokestatic 111, 14, 191, 3, 0, [0, 0]) :: (.ifCond .ne 11, 17, 14, 0, 0, []) :: (.nop, 20, 0, 0, 0, []) :: (.dup, 23, 0, 0, 0, []) :: (.nop, 24, 0, 0, 0, []) :: (.athrow, 27, 0, 0, 0, []) :: (.iload_n 2, 28, 2, 0, 0, []) :: (.tableswitch 86 0 4 #[35, 44, 56, 68, 77], 29, 47, 0, 0, [2147483648, 16, 2147483649, 21, 2147483650, 29, 2147483651, 37, 2147483652, 42]) :: zp_X11_law_1
noncomputable def zp_X11_law : List (List ECE) := [zp_X11_law_0, zp_X11_law_1, zp_X11_law_2, zp_X11_law_3]
noncomputable def zp_X11_bit_1 : List ECE := (.ireturn, 32, 0, 0, 0, []) :: []
noncomputable def zp_X11_bit_0 : List ECE := (.aload_n 0, 0, 0, 0, 0, []) :: (.getfield 26, 1, 11, 2, 0, []) :: (.iload_n 1, 4, 1, 0, 0, []) :: (.iload_n 2, 5, 2, 0, 0, []) :: (.invokevirtual 137, 6, 86, 3, 10, [0, 0]) :: (.ifCond .ne 11, 9, 10, 0, 0, []) :: (.nop, 12, 0, 0, 0, []) :: (.dup, 15, 0, 0, 0, []) :: (.nop, 16, 0, 0, 0, []) :: (.athrow, 19, 0, 0, 0, []) :: (.aload_n 0, 20, 0, 0, 0, []) :: (.getfield 26, 21, 11, 2, 0, []) :: (.iload_n 1, 24, 1, 0, 0, []) :: (.iload_n 2, 25, 2, 0, 0, []) :: (.invokestatic 141, 26, 193, 2, 0, [0, 0]) :: (.invokevirtual 145, 29, 91, 2, 10, [0, 0]) :: zp_X11_bit_1
noncomputable def zp_X11_bit : List (List ECE) := [zp_X11_bit_0, zp_X11_bit_1]
noncomputable def zp_X11_one_1 : List ECE := (.aload_n 0, 56, 0, 0, 0, []) :: (.getfield 26, 57, 11, 2, 0, []) :: (.iload_n 1, 60, 1, 0, 0, []) :: (.invokevirtual 151, 61, 90, 2, 10, [0, 0]) :: (.ireturn, 64, 0, 0, 0, []) :: (.aload_n 0, 65, 0, 0, 0, []) :: (.getfield 26, 66, 11, 2, 0, []) :: (.iload_n 1, 69, 1, 0, 0, []) :: (.invokevirtual 154, 70, 106, 2, 10, [0, 0]) :: (.ireturn, 73, 0, 0, 0, []) :: (.aload_n 0, 74, 0, 0, 0, []) :: (.getfield 26, 75, 11, 2, 0, []) :: (.iload_n 1, 78, 1, 0, 0, []) :: (.invokevirtual 157, 79, 101, 2, 10, [0, 0]) :: (.ireturn, 82, 0, 0, 0, []) :: []
noncomputable def zp_X11_one_0 : List ECE := (.aload_n 0, 0, 0, 0, 0, []) :: (.getfield 26, 1, 11, 2, 0, []) :: (.iload_n 1, 4, 1, 0, 0, []) :: (.invokevirtual 148, 5, 85, 2, 10, [0, 0]) :: (.ifCond .eq 12, 8, 10, 0, 0, []) :: (.iload_n 2, 11, 2, 0, 0, []) :: (.iconst 0, 12, 0, 0, 0, []) :: (.iconst 2, 13, 2, 0, 0, []) :: (.invokestatic 111, 14, 191, 3, 0, [0, 0]) :: (.ifCond .ne 11, 17, 14, 0, 0, []) :: (.nop, 20, 0, 0, 0, []) :: (.dup, 23, 0, 0, 0, []) :: (.nop, 24, 0, 0, 0, []) :: (.athrow, 27, 0, 0, 0, []) :: (.iload_n 2, 28, 2, 0, 0, []) :: (.lookupswitch 45 #[(0, 27), (1, 36)], 29, 26, 0, 0, [2147483648, 16, 2147483649, 21]) :: zp_X11_one_1
noncomputable def zp_X11_one : List (List ECE) := [zp_X11_one_0, zp_X11_one_1]
noncomputable def zp_X11_sheet_3 : List ECE := (.getfield 26, 87, 11, 2, 0, []) :: (.iload 7, 90, 7, 0, 0, []) :: (.iload 8, 92, 8, 0, 0, []) :: (.invokevirtual 166, 94, 92, 3, 10, [0, 0]) :: (.iload 6, 97, 6, 0, 0, []) :: (.iload 8, 99, 8, 0, 0, []) :: (.iadd, 101, 0, 0, 0, []) :: (.istore 6, 102, 6, 0, 0, []) :: (.iinc 7 1, 104, 7, 1, 0, []) :: (.goto (-61), 107, 27, 0, 0, []) :: (.iload 5, 110, 5, 0, 0, []) :: (.ifCond .eq 8, 112, 62, 0, 0, []) :: (.bipush (-3), 115, 4294967293, 0, 0, []) :: (.goto 5, 117, 63, 0, 0, []) :: (.iload 6, 120, 6, 0, 0, []) :: (.ireturn, 122, 0, 0, 0, []) :: []
noncomputable def zp_X11_sheet_2 : List ECE := (.iload 5, 58, 5, 0, 0, []) :: (.ifCond .ne 9, 60, 37, 0, 0, []) :: (.iload 7, 63, 7, 0, 0, []) :: (.iload_n 2, 65, 2, 0, 0, []) :: (.if_icmp .lt 7, 66, 39, 0, 0, []) :: (.iconst 0, 69, 0, 0, 0, []) :: (.goto 14, 70, 46, 0, 0, []) :: (.iload_n 1, 73, 1, 0, 0, []) :: (.iload_n 3, 74, 3, 0, 0, []) :: (.iload 7, 75, 7, 0, 0, []) :: (.iload 4, 77, 4, 0, 0, []) :: (.imul, 79, 0, 0, 0, []) :: (.iadd, 80, 0, 0, 0, []) :: (.invokestatic 163, 81, 185, 2, 0, [0, 0]) :: (.istore 8, 84, 8, 0, 0, []) :: (.aload_n 0, 86, 0, 0, 0, []) :: zp_X11_sheet_3
noncomputable def zp_X11_sheet_1 : List ECE := (.ireturn, 27, 0, 0, 0, []) :: (.iload 5, 28, 5, 0, 0, []) :: (.ifCond .ne 10, 30, 23, 0, 0, []) :: (.iload_n 2, 33, 2, 0, 0, []) :: (.ifCond .ge 6, 34, 23, 0, 0, []) :: (.bipush (-2), 37, 4294967294, 0, 0, []) :: (.ireturn, 39, 0, 0, 0, []) :: (.iconst 0, 40, 0, 0, 0, []) :: (.istore 6, 41, 6, 0, 0, []) :: (.iconst 0, 43, 0, 0, 0, []) :: (.istore 7, 44, 7, 0, 0, []) :: (.iload 7, 46, 7, 0, 0, []) :: (.aload_n 0, 48, 0, 0, 0, []) :: (.getfield 26, 49, 11, 2, 0, []) :: (.getfield 160, 52, 9, 4, 0, []) :: (.if_icmp .ge 55, 55, 58, 0, 0, []) :: zp_X11_sheet_2
noncomputable def zp_X11_sheet_0 : List ECE := (.iload_n 1, 0, 1, 0, 0, []) :: (.iconst 3, 1, 3, 0, 0, []) :: (.if_icmp .ne 7, 2, 5, 0, 0, []) :: (.iconst 1, 5, 1, 0, 0, []) :: (.goto 4, 6, 6, 0, 0, []) :: (.iconst 0, 9, 0, 0, 0, []) :: (.istore 5, 10, 5, 0, 0, []) :: (.iload_n 1, 12, 1, 0, 0, []) :: (.iconst 0, 13, 0, 0, 0, []) :: (.iconst 3, 14, 3, 0, 0, []) :: (.invokestatic 111, 15, 191, 3, 0, [0, 0]) :: (.ifCond .eq 8, 18, 15, 0, 0, []) :: (.iload_n 2, 21, 2, 0, 0, []) :: (.iconst 5, 22, 5, 0, 0, []) :: (.if_icmp .le 5, 23, 17, 0, 0, []) :: (.iconst (-1), 26, 4294967295, 0, 0, []) :: zp_X11_sheet_1
noncomputable def zp_X11_sheet : List (List ECE) := [zp_X11_sheet_0, zp_X11_sheet_1, zp_X11_sheet_2, zp_X11_sheet_3]
noncomputable def zp_X11_carries_0 : List ECE := (.aload_n 0, 0, 0, 0, 0, []) :: (.getfield 30, 1, 11, 3, 0, []) :: (.aload_n 0, 4, 0, 0, 0, []) :: (.getfield 26, 5, 11, 2, 0, []) :: (.invokevirtual 170, 8, 81, 2, 10, [0, 0]) :: (.aload_n 0, 11, 0, 0, 0, []) :: (.aload_n 0, 12, 0, 0, 0, []) :: (.getfield 26, 13, 11, 2, 0, []) :: (.iload_n 1, 16, 1, 0, 0, []) :: (.invokevirtual 174, 17, 108, 2, 10, [0, 0]) :: (.invokevirtual 177, 20, 182, 2, 12, [0, 0]) :: (.ireturn, 23, 0, 0, 0, []) :: []
noncomputable def zp_X11_carries : List (List ECE) := [zp_X11_carries_0]
noncomputable def zp_X11_flings_0 : List ECE := (.aload_n 0, 0, 0, 0, 0, []) :: (.getfield 30, 1, 11, 3, 0, []) :: (.aload_n 0, 4, 0, 0, 0, []) :: (.getfield 26, 5, 11, 2, 0, []) :: (.invokevirtual 170, 8, 81, 2, 10, [0, 0]) :: (.aload_n 0, 11, 0, 0, 0, []) :: (.aload_n 0, 12, 0, 0, 0, []) :: (.getfield 26, 13, 11, 2, 0, []) :: (.iload_n 1, 16, 1, 0, 0, []) :: (.iload_n 2, 17, 2, 0, 0, []) :: (.invokevirtual 180, 18, 109, 3, 10, [0, 0]) :: (.invokevirtual 177, 21, 182, 2, 12, [0, 0]) :: (.ireturn, 24, 0, 0, 0, []) :: []
noncomputable def zp_X11_flings : List (List ECE) := [zp_X11_flings_0]
noncomputable def zp_X11_sweeps_0 : List ECE := (.aload_n 0, 0, 0, 0, 0, []) :: (.getfield 30, 1, 11, 3, 0, []) :: (.aload_n 0, 4, 0, 0, 0, []) :: (.getfield 26, 5, 11, 2, 0, []) :: (.invokevirtual 170, 8, 81, 2, 10, [0, 0]) :: (.aload_n 0, 11, 0, 0, 0, []) :: (.aload_n 0, 12, 0, 0, 0, []) :: (.getfield 26, 13, 11, 2, 0, []) :: (.iload_n 1, 16, 1, 0, 0, []) :: (.invokevirtual 183, 17, 112, 2, 10, [0, 0]) :: (.invokevirtual 177, 20, 182, 2, 12, [0, 0]) :: (.ireturn, 23, 0, 0, 0, []) :: []
noncomputable def zp_X11_sweeps : List (List ECE) := [zp_X11_sweeps_0]
noncomputable def zp_X11_days_2 : List ECE := (.i2l, 63, 0, 0, 0, []) :: (.invokevirtual 196, 64, 34, 3, 5, [0, 0]) :: (.iload_n 2, 67, 2, 0, 0, []) :: (.ireturn, 68, 0, 0, 0, []) :: []
noncomputable def zp_X11_days_1 : List ECE := (.getfield 26, 29, 11, 2, 0, []) :: (.aload_n 0, 32, 0, 0, 0, []) :: (.getfield 81, 33, 11, 11, 0, []) :: (.iload_n 1, 36, 1, 0, 0, []) :: (.invokevirtual 186, 37, 119, 4, 11, [0, 0]) :: (.invokevirtual 177, 40, 182, 2, 12, [0, 0]) :: (.istore_n 2, 43, 2, 0, 0, []) :: (.aload_n 0, 44, 0, 0, 0, []) :: (.getfield 19, 45, 11, 1, 0, []) :: (.aload_n 0, 48, 0, 0, 0, []) :: (.getfield 26, 49, 11, 2, 0, []) :: (.invokevirtual 190, 52, 96, 1, 10, [0, 0]) :: (.i2l, 55, 0, 0, 0, []) :: (.aload_n 0, 56, 0, 0, 0, []) :: (.getfield 26, 57, 11, 2, 0, []) :: (.invokevirtual 193, 60, 107, 1, 10, [0, 0]) :: zp_X11_days_2
noncomputable def zp_X11_days_0 : List ECE := (.iload_n 1, 0, 1, 0, 0, []) :: (.iconst 0, 1, 0, 0, 0, []) :: (.bipush 60, 2, 60, 0, 0, []) :: (.invokestatic 111, 4, 191, 3, 0, [0, 0]) :: (.ifCond .ne 5, 7, 7, 0, 0, []) :: (.iconst (-1), 10, 4294967295, 0, 0, []) :: (.ireturn, 11, 0, 0, 0, []) :: (.aload_n 0, 12, 0, 0, 0, []) :: (.getfield 30, 13, 11, 3, 0, []) :: (.aload_n 0, 16, 0, 0, 0, []) :: (.getfield 26, 17, 11, 2, 0, []) :: (.invokevirtual 170, 20, 81, 2, 10, [0, 0]) :: (.aload_n 0, 23, 0, 0, 0, []) :: (.aload_n 0, 24, 0, 0, 0, []) :: (.getfield 46, 25, 11, 6, 0, []) :: (.aload_n 0, 28, 0, 0, 0, []) :: zp_X11_days_1
noncomputable def zp_X11_days : List (List ECE) := [zp_X11_days_0, zp_X11_days_1, zp_X11_days_2]
noncomputable def zp_X11_walks_0 : List ECE := (.aload_n 0, 0, 0, 0, 0, []) :: (.getfield 30, 1, 11, 3, 0, []) :: (.aload_n 0, 4, 0, 0, 0, []) :: (.getfield 26, 5, 11, 2, 0, []) :: (.invokevirtual 170, 8, 81, 2, 10, [0, 0]) :: (.aload_n 0, 11, 0, 0, 0, []) :: (.aload_n 0, 12, 0, 0, 0, []) :: (.getfield 26, 13, 11, 2, 0, []) :: (.iload_n 1, 16, 1, 0, 0, []) :: (.iload_n 2, 17, 2, 0, 0, []) :: (.invokevirtual 200, 18, 113, 3, 10, [0, 0]) :: (.invokevirtual 177, 21, 182, 2, 12, [0, 0]) :: (.ireturn, 24, 0, 0, 0, []) :: []
noncomputable def zp_X11_walks : List (List ECE) := [zp_X11_walks_0]
noncomputable def zp_X11_gives_0 : List ECE := (.aload_n 0, 0, 0, 0, 0, []) :: (.getfield 30, 1, 11, 3, 0, []) :: (.aload_n 0, 4, 0, 0, 0, []) :: (.getfield 26, 5, 11, 2, 0, []) :: (.invokevirtual 170, 8, 81, 2, 10, [0, 0]) :: (.aload_n 0, 11, 0, 0, 0, []) :: (.aload_n 0, 12, 0, 0, 0, []) :: (.getfield 26, 13, 11, 2, 0, []) :: (.iload_n 1, 16, 1, 0, 0, []) :: (.iload_n 2, 17, 2, 0, 0, []) :: (.iload_n 3, 18, 3, 0, 0, []) :: (.invokevirtual 203, 19, 114, 4, 10, [0, 0]) :: (.invokevirtual 177, 22, 182, 2, 12, [0, 0]) :: (.ireturn, 25, 0, 0, 0, []) :: []
noncomputable def zp_X11_gives : List (List ECE) := [zp_X11_gives_0]
noncomputable def zp_X11_falls_0 : List ECE := (.aload_n 0, 0, 0, 0, 0, []) :: (.getfield 30, 1, 11, 3, 0, []) :: (.aload_n 0, 4, 0, 0, 0, []) :: (.getfield 26, 5, 11, 2, 0, []) :: (.invokevirtual 170, 8, 81, 2, 10, [0, 0]) :: (.aload_n 0, 11, 0, 0, 0, []) :: (.aload_n 0, 12, 0, 0, 0, []) :: (.getfield 26, 13, 11, 2, 0, []) :: (.iload_n 1, 16, 1, 0, 0, []) :: (.invokevirtual 207, 17, 115, 2, 10, [0, 0]) :: (.invokevirtual 177, 20, 182, 2, 12, [0, 0]) :: (.ireturn, 23, 0, 0, 0, []) :: []
noncomputable def zp_X11_falls : List (List ECE) := [zp_X11_falls_0]
noncomputable def zp_X11_wind_0 : List ECE := (.aload_n 0, 0, 0, 0, 0, []) :: (.getfield 30, 1, 11, 3, 0, []) :: (.aload_n 0, 4, 0, 0, 0, []) :: (.getfield 26, 5, 11, 2, 0, []) :: (.invokevirtual 170, 8, 81, 2, 10, [0, 0]) :: (.aload_n 0, 11, 0, 0, 0, []) :: (.aload_n 0, 12, 0, 0, 0, []) :: (.getfield 26, 13, 11, 2, 0, []) :: (.iload_n 1, 16, 1, 0, 0, []) :: (.invokevirtual 210, 17, 116, 2, 10, [0, 0]) :: (.invokevirtual 177, 20, 182, 2, 12, [0, 0]) :: (.ireturn, 23, 0, 0, 0, []) :: []
noncomputable def zp_X11_wind : List (List ECE) := [zp_X11_wind_0]
noncomputable def zp_X11_wedding_4 : List ECE := (.aload_n 0, 125, 0, 0, 0, []) :: (.getfield 26, 126, 11, 2, 0, []) :: (.invokevirtual 225, 129, 97, 1, 10, [0, 0]) :: (.i2l, 132, 0, 0, 0, []) :: (.invokevirtual 196, 133, 34, 3, 5, [0, 0]) :: (.iload_n 3, 136, 3, 0, 0, []) :: (.ireturn, 137, 0, 0, 0, []) :: []
noncomputable def zp_X11_wedding_3 : List ECE := (.istore 4, 89, 4, 0, 0, []) :: (.goto 6, 91, 51, 0, 0, []) :: (.iinc 3 1, 94, 3, 1, 0, []) :: (.iinc 6 1, 97, 6, 1, 0, []) :: (.goto (-53), 100, 28, 0, 0, []) :: (.iload_n 3, 103, 3, 0, 0, []) :: (.ifCond .le 14, 104, 60, 0, 0, []) :: (.aload_n 0, 107, 0, 0, 0, []) :: (.getfield 39, 108, 11, 5, 0, []) :: (.aload_n 0, 111, 0, 0, 0, []) :: (.getfield 30, 112, 11, 3, 0, []) :: (.invokevirtual 222, 115, 22, 2, 4, [0, 0]) :: (.aload_n 0, 118, 0, 0, 0, []) :: (.getfield 19, 119, 11, 1, 0, []) :: (.iload 4, 122, 4, 0, 0, []) :: (.i2l, 124, 0, 0, 0, []) :: zp_X11_wedding_4
noncomputable def zp_X11_wedding_2 : List ECE := (.ifCond .ne 48, 55, 53, 0, 0, []) :: (.iload 6, 58, 6, 0, 0, []) :: (.iload 5, 60, 5, 0, 0, []) :: (.if_icmp .ne 35, 62, 51, 0, 0, []) :: (.iload 6, 65, 6, 0, 0, []) :: (.aload_n 0, 67, 0, 0, 0, []) :: (.getfield 10, 68, 11, 0, 0, []) :: (.iload 6, 71, 6, 0, 0, []) :: (.invokevirtual 216, 73, 60, 2, 7, [0, 0]) :: (.iadd, 76, 0, 0, 0, []) :: (.istore 5, 77, 5, 0, 0, []) :: (.aload_n 0, 79, 0, 0, 0, []) :: (.iload 6, 80, 6, 0, 0, []) :: (.invokevirtual 219, 82, 183, 2, 12, [0, 0]) :: (.ifCond .ge 9, 85, 50, 0, 0, []) :: (.iconst 1, 88, 1, 0, 0, []) :: zp_X11_wedding_3
noncomputable def zp_X11_wedding_1 : List ECE := (.getfield 30, 26, 11, 3, 0, []) :: (.aload_n 0, 29, 0, 0, 0, []) :: (.getfield 26, 30, 11, 2, 0, []) :: (.invokevirtual 170, 33, 81, 2, 10, [0, 0]) :: (.iconst 0, 36, 0, 0, 0, []) :: (.istore_n 3, 37, 3, 0, 0, []) :: (.iconst 0, 38, 0, 0, 0, []) :: (.istore 4, 39, 4, 0, 0, []) :: (.iconst 0, 41, 0, 0, 0, []) :: (.istore 5, 42, 5, 0, 0, []) :: (.iconst 0, 44, 0, 0, 0, []) :: (.istore 6, 45, 6, 0, 0, []) :: (.iload 6, 47, 6, 0, 0, []) :: (.iload_n 1, 49, 1, 0, 0, []) :: (.if_icmp .ge 53, 50, 53, 0, 0, []) :: (.iload 4, 53, 4, 0, 0, []) :: zp_X11_wedding_2
noncomputable def zp_X11_wedding_0 : List ECE := (.aload_n 0, 0, 0, 0, 0, []) :: (.getfield 10, 1, 11, 0, 0, []) :: (.invokevirtual 100, 4, 55, 1, 7, [0, 0]) :: (.istore_n 1, 7, 1, 0, 0, []) :: (.aload_n 0, 8, 0, 0, 0, []) :: (.getfield 10, 9, 11, 0, 0, []) :: (.iload_n 1, 12, 1, 0, 0, []) :: (.invokevirtual 213, 13, 59, 2, 7, [0, 0]) :: (.istore_n 2, 16, 2, 0, 0, []) :: (.iload_n 2, 17, 2, 0, 0, []) :: (.ifCond .lt 7, 18, 15, 0, 0, []) :: (.iconst (-1), 21, 4294967295, 0, 0, []) :: (.iload_n 2, 22, 2, 0, 0, []) :: (.isub, 23, 0, 0, 0, []) :: (.ireturn, 24, 0, 0, 0, []) :: (.aload_n 0, 25, 0, 0, 0, []) :: zp_X11_wedding_1
noncomputable def zp_X11_wedding : List (List ECE) := [zp_X11_wedding_0, zp_X11_wedding_1, zp_X11_wedding_2, zp_X11_wedding_3, zp_X11_wedding_4]
noncomputable def zp_X11_undo_0 : List ECE := (.aload_n 0, 0, 0, 0, 0, []) :: (.getfield 39, 1, 11, 5, 0, []) :: (.aload_n 0, 4, 0, 0, 0, []) :: (.getfield 26, 5, 11, 2, 0, []) :: (.invokevirtual 228, 8, 23, 2, 4, [0, 0]) :: (.ireturn, 11, 0, 0, 0, []) :: []
noncomputable def zp_X11_undo : List (List ECE) := [zp_X11_undo_0]
noncomputable def zp_X11_later_2 : List ECE := (.iload_n 2, 61, 2, 0, 0, []) :: (.invokestatic 141, 62, 193, 2, 0, [0, 0]) :: (.invokevirtual 145, 65, 91, 2, 10, [0, 0]) :: (.ireturn, 68, 0, 0, 0, []) :: []
noncomputable def zp_X11_later_1 : List ECE := (.iload_n 3, 29, 3, 0, 0, []) :: (.invokevirtual 232, 30, 184, 3, 12, [0, 0]) :: (.aload_n 0, 33, 0, 0, 0, []) :: (.getfield 19, 34, 11, 1, 0, []) :: (.aload_n 0, 37, 0, 0, 0, []) :: (.getfield 33, 38, 11, 4, 0, []) :: (.invokevirtual 190, 41, 96, 1, 10, [0, 0]) :: (.i2l, 44, 0, 0, 0, []) :: (.aload_n 0, 45, 0, 0, 0, []) :: (.getfield 33, 46, 11, 4, 0, []) :: (.invokevirtual 225, 49, 97, 1, 10, [0, 0]) :: (.i2l, 52, 0, 0, 0, []) :: (.invokevirtual 196, 53, 34, 3, 5, [0, 0]) :: (.aload_n 0, 56, 0, 0, 0, []) :: (.getfield 33, 57, 11, 4, 0, []) :: (.iload_n 1, 60, 1, 0, 0, []) :: zp_X11_later_2
noncomputable def zp_X11_later_0 : List ECE := (.aload_n 0, 0, 0, 0, 0, []) :: (.getfield 26, 1, 11, 2, 0, []) :: (.iload_n 1, 4, 1, 0, 0, []) :: (.iload_n 2, 5, 2, 0, 0, []) :: (.invokevirtual 137, 6, 86, 3, 10, [0, 0]) :: (.ifCond .eq 13, 9, 11, 0, 0, []) :: (.iload_n 3, 12, 3, 0, 0, []) :: (.iconst 0, 13, 0, 0, 0, []) :: (.bipush 60, 14, 60, 0, 0, []) :: (.invokestatic 111, 16, 191, 3, 0, [0, 0]) :: (.ifCond .ne 5, 19, 13, 0, 0, []) :: (.iconst (-1), 22, 4294967295, 0, 0, []) :: (.ireturn, 23, 0, 0, 0, []) :: (.aload_n 0, 24, 0, 0, 0, []) :: (.aload_n 0, 25, 0, 0, 0, []) :: (.getfield 81, 26, 11, 11, 0, []) :: zp_X11_later_1
noncomputable def zp_X11_later : List (List ECE) := [zp_X11_later_0, zp_X11_later_1, zp_X11_later_2]
noncomputable def zp_X11_when_3 : List ECE := (.getfield 81, 91, 11, 11, 0, []) :: (.iconst 1, 94, 1, 0, 0, []) :: (.invokevirtual 186, 95, 119, 4, 11, [0, 0]) :: (.pop, 98, 0, 0, 0, []) :: (.iinc 3 1, 99, 3, 1, 0, []) :: (.goto (-65), 102, 19, 0, 0, []) :: (.bipush (-2), 105, 4294967294, 0, 0, []) :: (.ireturn, 107, 0, 0, 0, []) :: []
noncomputable def zp_X11_when_2 : List ECE := (.iload_n 1, 63, 1, 0, 0, []) :: (.iload_n 2, 64, 2, 0, 0, []) :: (.invokevirtual 239, 65, 102, 3, 10, [0, 0]) :: (.i2l, 68, 0, 0, 0, []) :: (.aload_n 0, 69, 0, 0, 0, []) :: (.getfield 33, 70, 11, 4, 0, []) :: (.invokevirtual 190, 73, 96, 1, 10, [0, 0]) :: (.i2l, 76, 0, 0, 0, []) :: (.invokevirtual 196, 77, 34, 3, 5, [0, 0]) :: (.iload_n 3, 80, 3, 0, 0, []) :: (.ireturn, 81, 0, 0, 0, []) :: (.aload_n 0, 82, 0, 0, 0, []) :: (.getfield 46, 83, 11, 6, 0, []) :: (.aload_n 0, 86, 0, 0, 0, []) :: (.getfield 33, 87, 11, 4, 0, []) :: (.aload_n 0, 90, 0, 0, 0, []) :: zp_X11_when_3
noncomputable def zp_X11_when_1 : List ECE := (.invokevirtual 170, 32, 81, 2, 10, [0, 0]) :: (.iconst 0, 35, 0, 0, 0, []) :: (.istore_n 3, 36, 3, 0, 0, []) :: (.iload_n 3, 37, 3, 0, 0, []) :: (.bipush 60, 38, 60, 0, 0, []) :: (.if_icmp .gt 65, 40, 54, 0, 0, []) :: (.aload_n 0, 43, 0, 0, 0, []) :: (.getfield 33, 44, 11, 4, 0, []) :: (.iload_n 1, 47, 1, 0, 0, []) :: (.iload_n 2, 48, 2, 0, 0, []) :: (.invokevirtual 236, 49, 104, 3, 10, [0, 0]) :: (.ifCond .eq 30, 52, 43, 0, 0, []) :: (.aload_n 0, 55, 0, 0, 0, []) :: (.getfield 19, 56, 11, 1, 0, []) :: (.aload_n 0, 59, 0, 0, 0, []) :: (.getfield 33, 60, 11, 4, 0, []) :: zp_X11_when_2
noncomputable def zp_X11_when_0 : List ECE := (.aload_n 0, 0, 0, 0, 0, []) :: (.getfield 26, 1, 11, 2, 0, []) :: (.iload_n 1, 4, 1, 0, 0, []) :: (.invokevirtual 148, 5, 85, 2, 10, [0, 0]) :: (.ifCond .eq 14, 8, 10, 0, 0, []) :: (.aload_n 0, 11, 0, 0, 0, []) :: (.getfield 26, 12, 11, 2, 0, []) :: (.iload_n 2, 15, 2, 0, 0, []) :: (.invokevirtual 108, 16, 84, 2, 10, [0, 0]) :: (.ifCond .ne 5, 19, 12, 0, 0, []) :: (.iconst (-1), 22, 4294967295, 0, 0, []) :: (.ireturn, 23, 0, 0, 0, []) :: (.aload_n 0, 24, 0, 0, 0, []) :: (.getfield 33, 25, 11, 4, 0, []) :: (.aload_n 0, 28, 0, 0, 0, []) :: (.getfield 26, 29, 11, 2, 0, []) :: zp_X11_when_1
noncomputable def zp_X11_when : List (List ECE) := [zp_X11_when_0, zp_X11_when_1, zp_X11_when_2, zp_X11_when_3]
noncomputable def zp_X11_clean_2 : List ECE := (.iinc 1 1, 63, 1, 1, 0, []) :: (.goto (-53), 66, 7, 0, 0, []) :: (.bipush (-2), 69, 4294967294, 0, 0, []) :: (.ireturn, 71, 0, 0, 0, []) :: []
noncomputable def zp_X11_clean_1 : List ECE := (.aload_n 0, 33, 0, 0, 0, []) :: (.getfield 33, 34, 11, 4, 0, []) :: (.invokevirtual 193, 37, 107, 1, 10, [0, 0]) :: (.i2l, 40, 0, 0, 0, []) :: (.invokevirtual 242, 41, 33, 2, 5, [0, 0]) :: (.iload_n 1, 44, 1, 0, 0, []) :: (.ireturn, 45, 0, 0, 0, []) :: (.aload_n 0, 46, 0, 0, 0, []) :: (.getfield 46, 47, 11, 6, 0, []) :: (.aload_n 0, 50, 0, 0, 0, []) :: (.getfield 33, 51, 11, 4, 0, []) :: (.aload_n 0, 54, 0, 0, 0, []) :: (.getfield 81, 55, 11, 11, 0, []) :: (.iconst 1, 58, 1, 0, 0, []) :: (.invokevirtual 186, 59, 119, 4, 11, [0, 0]) :: (.pop, 62, 0, 0, 0, []) :: zp_X11_clean_2
noncomputable def zp_X11_clean_0 : List ECE := (.aload_n 0, 0, 0, 0, 0, []) :: (.getfield 33, 1, 11, 4, 0, []) :: (.aload_n 0, 4, 0, 0, 0, []) :: (.getfield 26, 5, 11, 2, 0, []) :: (.invokevirtual 170, 8, 81, 2, 10, [0, 0]) :: (.iconst 0, 11, 0, 0, 0, []) :: (.istore_n 1, 12, 1, 0, 0, []) :: (.iload_n 1, 13, 1, 0, 0, []) :: (.bipush 60, 14, 60, 0, 0, []) :: (.if_icmp .gt 53, 16, 34, 0, 0, []) :: (.aload_n 0, 19, 0, 0, 0, []) :: (.getfield 33, 20, 11, 4, 0, []) :: (.invokevirtual 190, 23, 96, 1, 10, [0, 0]) :: (.ifCond .ne 20, 26, 23, 0, 0, []) :: (.aload_n 0, 29, 0, 0, 0, []) :: (.getfield 19, 30, 11, 1, 0, []) :: zp_X11_clean_1
noncomputable def zp_X11_clean : List (List ECE) := [zp_X11_clean_0, zp_X11_clean_1, zp_X11_clean_2]
noncomputable def zp_X11_drifts_3 : List ECE := (.i2l, 87, 0, 0, 0, []) :: (.invokevirtual 248, 88, 32, 2, 5, [0, 0]) :: (.iinc 3 1, 91, 3, 1, 0, []) :: (.goto (-25), 94, 39, 0, 0, []) :: (.aload_n 0, 97, 0, 0, 0, []) :: (.getfield 33, 98, 11, 4, 0, []) :: (.iload_n 2, 101, 2, 0, 0, []) :: (.invokevirtual 245, 102, 98, 2, 10, [0, 0]) :: (.ireturn, 105, 0, 0, 0, []) :: []
noncomputable def zp_X11_drifts_2 : List ECE := (.aload_n 0, 58, 0, 0, 0, []) :: (.getfield 19, 59, 11, 1, 0, []) :: (.iload_n 2, 62, 2, 0, 0, []) :: (.i2l, 63, 0, 0, 0, []) :: (.invokevirtual 242, 64, 33, 2, 5, [0, 0]) :: (.iconst 0, 67, 0, 0, 0, []) :: (.istore_n 3, 68, 3, 0, 0, []) :: (.iload_n 3, 69, 3, 0, 0, []) :: (.bipush 8, 70, 8, 0, 0, []) :: (.if_icmp .ge 25, 72, 52, 0, 0, []) :: (.aload_n 0, 75, 0, 0, 0, []) :: (.getfield 19, 76, 11, 1, 0, []) :: (.aload_n 0, 79, 0, 0, 0, []) :: (.getfield 33, 80, 11, 4, 0, []) :: (.iload_n 3, 83, 3, 0, 0, []) :: (.invokevirtual 245, 84, 98, 2, 10, [0, 0]) :: zp_X11_drifts_3
noncomputable def zp_X11_drifts_1 : List ECE := (.iload_n 3, 25, 3, 0, 0, []) :: (.bipush 8, 26, 8, 0, 0, []) :: (.if_icmp .ge 30, 28, 32, 0, 0, []) :: (.aload_n 0, 31, 0, 0, 0, []) :: (.getfield 33, 32, 11, 4, 0, []) :: (.iload_n 3, 35, 3, 0, 0, []) :: (.invokevirtual 245, 36, 98, 2, 10, [0, 0]) :: (.aload_n 0, 39, 0, 0, 0, []) :: (.getfield 33, 40, 11, 4, 0, []) :: (.iload_n 2, 43, 2, 0, 0, []) :: (.invokevirtual 245, 44, 98, 2, 10, [0, 0]) :: (.if_icmp .le 5, 47, 30, 0, 0, []) :: (.iload_n 3, 50, 3, 0, 0, []) :: (.istore_n 2, 51, 2, 0, 0, []) :: (.iinc 3 1, 52, 3, 1, 0, []) :: (.goto (-30), 55, 16, 0, 0, []) :: zp_X11_drifts_2
noncomputable def zp_X11_drifts_0 : List ECE := (.iload_n 1, 0, 1, 0, 0, []) :: (.iconst 0, 1, 0, 0, 0, []) :: (.bipush 60, 2, 60, 0, 0, []) :: (.invokestatic 111, 4, 191, 3, 0, [0, 0]) :: (.ifCond .ne 5, 7, 7, 0, 0, []) :: (.iconst (-1), 10, 4294967295, 0, 0, []) :: (.ireturn, 11, 0, 0, 0, []) :: (.aload_n 0, 12, 0, 0, 0, []) :: (.aload_n 0, 13, 0, 0, 0, []) :: (.getfield 81, 14, 11, 11, 0, []) :: (.iload_n 1, 17, 1, 0, 0, []) :: (.invokevirtual 232, 18, 184, 3, 12, [0, 0]) :: (.iconst 0, 21, 0, 0, 0, []) :: (.istore_n 2, 22, 2, 0, 0, []) :: (.iconst 1, 23, 1, 0, 0, []) :: (.istore_n 3, 24, 3, 0, 0, []) :: zp_X11_drifts_1
noncomputable def zp_X11_drifts : List (List ECE) := [zp_X11_drifts_0, zp_X11_drifts_1, zp_X11_drifts_2, zp_X11_drifts_3]
noncomputable def zp_X11_aims_4 : List ECE := (.aload_n 0, 132, 0, 0, 0, []) :: (.getfield 19, 133, 11, 1, 0, []) :: (.iload 5, 136, 5, 0, 0, []) :: (.i2l, 138, 0, 0, 0, []) :: (.invokevirtual 242, 139, 33, 2, 5, [0, 0]) :: (.iload 4, 142, 4, 0, 0, []) :: (.ireturn, 144, 0, 0, 0, []) :: []
noncomputable def zp_X11_aims_3 : List ECE := (.iload_n 3, 97, 3, 0, 0, []) :: (.invokevirtual 186, 98, 119, 4, 11, [0, 0]) :: (.pop, 101, 0, 0, 0, []) :: (.aload_n 0, 102, 0, 0, 0, []) :: (.getfield 33, 103, 11, 4, 0, []) :: (.iload_n 2, 106, 2, 0, 0, []) :: (.iload_n 1, 107, 1, 0, 0, []) :: (.invokevirtual 236, 108, 104, 3, 10, [0, 0]) :: (.ifCond .eq 10, 111, 60, 0, 0, []) :: (.iload 6, 114, 6, 0, 0, []) :: (.istore 4, 116, 4, 0, 0, []) :: (.iinc 5 1, 118, 5, 1, 0, []) :: (.iinc 6 (-1), 121, 6, 4294967295, 0, []) :: (.goto (-65), 124, 30, 0, 0, []) :: (.iload 5, 127, 5, 0, 0, []) :: (.ifCond .le 13, 129, 69, 0, 0, []) :: zp_X11_aims_4
noncomputable def zp_X11_aims_2 : List ECE := (.aload_n 0, 64, 0, 0, 0, []) :: (.getfield 33, 65, 11, 4, 0, []) :: (.aload_n 0, 68, 0, 0, 0, []) :: (.getfield 26, 69, 11, 2, 0, []) :: (.invokevirtual 170, 72, 81, 2, 10, [0, 0]) :: (.aload_n 0, 75, 0, 0, 0, []) :: (.getfield 33, 76, 11, 4, 0, []) :: (.iload_n 1, 79, 1, 0, 0, []) :: (.iload 6, 80, 6, 0, 0, []) :: (.invokevirtual 254, 82, 110, 3, 10, [0, 0]) :: (.aload_n 0, 85, 0, 0, 0, []) :: (.getfield 46, 86, 11, 6, 0, []) :: (.aload_n 0, 89, 0, 0, 0, []) :: (.getfield 33, 90, 11, 4, 0, []) :: (.aload_n 0, 93, 0, 0, 0, []) :: (.getfield 81, 94, 11, 11, 0, []) :: zp_X11_aims_3
noncomputable def zp_X11_aims_1 : List ECE := (.ireturn, 33, 0, 0, 0, []) :: (.aload_n 0, 34, 0, 0, 0, []) :: (.getfield 26, 35, 11, 2, 0, []) :: (.iload_n 1, 38, 1, 0, 0, []) :: (.invokevirtual 251, 39, 88, 2, 10, [0, 0]) :: (.ifCond .eq 6, 42, 24, 0, 0, []) :: (.bipush (-3), 45, 4294967293, 0, 0, []) :: (.ireturn, 47, 0, 0, 0, []) :: (.bipush (-2), 48, 4294967294, 0, 0, []) :: (.istore 4, 50, 4, 0, 0, []) :: (.iconst 0, 52, 0, 0, 0, []) :: (.istore 5, 53, 5, 0, 0, []) :: (.bipush 7, 55, 7, 0, 0, []) :: (.istore 6, 57, 6, 0, 0, []) :: (.iload 6, 59, 6, 0, 0, []) :: (.ifCond .lt 66, 61, 62, 0, 0, []) :: zp_X11_aims_2
noncomputable def zp_X11_aims_0 : List ECE := (.aload_n 0, 0, 0, 0, 0, []) :: (.getfield 26, 1, 11, 2, 0, []) :: (.iload_n 1, 4, 1, 0, 0, []) :: (.invokevirtual 108, 5, 84, 2, 10, [0, 0]) :: (.ifCond .eq 24, 8, 15, 0, 0, []) :: (.aload_n 0, 11, 0, 0, 0, []) :: (.getfield 26, 12, 11, 2, 0, []) :: (.iload_n 2, 15, 2, 0, 0, []) :: (.invokevirtual 148, 16, 85, 2, 10, [0, 0]) :: (.ifCond .eq 13, 19, 15, 0, 0, []) :: (.iload_n 3, 22, 3, 0, 0, []) :: (.iconst 0, 23, 0, 0, 0, []) :: (.bipush 30, 24, 30, 0, 0, []) :: (.invokestatic 111, 26, 191, 3, 0, [0, 0]) :: (.ifCond .ne 5, 29, 17, 0, 0, []) :: (.iconst (-1), 32, 4294967295, 0, 0, []) :: zp_X11_aims_1
noncomputable def zp_X11_aims : List (List ECE) := [zp_X11_aims_0, zp_X11_aims_1, zp_X11_aims_2, zp_X11_aims_3, zp_X11_aims_4]
noncomputable def zp_X11_prays_4 : List ECE := (.iload 4, 129, 4, 0, 0, []) :: (.i2l, 131, 0, 0, 0, []) :: (.iload 5, 132, 5, 0, 0, []) :: (.i2l, 134, 0, 0, 0, []) :: (.invokevirtual 196, 135, 34, 3, 5, [0, 0]) :: (.bipush 10, 138, 10, 0, 0, []) :: (.iload_n 3, 140, 3, 0, 0, []) :: (.iadd, 141, 0, 0, 0, []) :: (.ireturn, 142, 0, 0, 0, []) :: []
noncomputable def zp_X11_prays_3 : List ECE := (.if_icmp .le 10, 93, 53, 0, 0, []) :: (.iload 7, 96, 7, 0, 0, []) :: (.istore 4, 98, 4, 0, 0, []) :: (.iload 6, 100, 6, 0, 0, []) :: (.istore_n 3, 102, 3, 0, 0, []) :: (.iload 6, 103, 6, 0, 0, []) :: (.aload_n 0, 105, 0, 0, 0, []) :: (.getfield 26, 106, 11, 2, 0, []) :: (.getfield 257, 109, 9, 7, 0, []) :: (.if_icmp .ne 7, 112, 60, 0, 0, []) :: (.iload 7, 115, 7, 0, 0, []) :: (.istore 5, 117, 5, 0, 0, []) :: (.iinc 6 1, 119, 6, 1, 0, []) :: (.goto (-86), 122, 20, 0, 0, []) :: (.aload_n 0, 125, 0, 0, 0, []) :: (.getfield 19, 126, 11, 1, 0, []) :: zp_X11_prays_4
noncomputable def zp_X11_prays_2 : List ECE := (.aload_n 0, 62, 0, 0, 0, []) :: (.getfield 46, 63, 11, 6, 0, []) :: (.aload_n 0, 66, 0, 0, 0, []) :: (.getfield 33, 67, 11, 4, 0, []) :: (.aload_n 0, 70, 0, 0, 0, []) :: (.getfield 81, 71, 11, 11, 0, []) :: (.iload_n 2, 74, 2, 0, 0, []) :: (.invokevirtual 186, 75, 119, 4, 11, [0, 0]) :: (.pop, 78, 0, 0, 0, []) :: (.aload_n 0, 79, 0, 0, 0, []) :: (.getfield 33, 80, 11, 4, 0, []) :: (.iload_n 1, 83, 1, 0, 0, []) :: (.invokevirtual 157, 84, 101, 2, 10, [0, 0]) :: (.istore 7, 87, 7, 0, 0, []) :: (.iload 7, 89, 7, 0, 0, []) :: (.iload 4, 91, 4, 0, 0, []) :: zp_X11_prays_3
noncomputable def zp_X11_prays_1 : List ECE := (.iconst 0, 29, 0, 0, 0, []) :: (.istore 5, 30, 5, 0, 0, []) :: (.bipush (-3), 32, 4294967293, 0, 0, []) :: (.istore 6, 34, 6, 0, 0, []) :: (.iload 6, 36, 6, 0, 0, []) :: (.iconst 3, 38, 3, 0, 0, []) :: (.if_icmp .gt 86, 39, 62, 0, 0, []) :: (.aload_n 0, 42, 0, 0, 0, []) :: (.getfield 33, 43, 11, 4, 0, []) :: (.aload_n 0, 46, 0, 0, 0, []) :: (.getfield 26, 47, 11, 2, 0, []) :: (.invokevirtual 170, 50, 81, 2, 10, [0, 0]) :: (.aload_n 0, 53, 0, 0, 0, []) :: (.getfield 33, 54, 11, 4, 0, []) :: (.iload 6, 57, 6, 0, 0, []) :: (.putfield 257, 59, 9, 7, 0, []) :: zp_X11_prays_2
noncomputable def zp_X11_prays_0 : List ECE := (.aload_n 0, 0, 0, 0, 0, []) :: (.getfield 26, 1, 11, 2, 0, []) :: (.iload_n 1, 4, 1, 0, 0, []) :: (.invokevirtual 148, 5, 85, 2, 10, [0, 0]) :: (.ifCond .eq 13, 8, 10, 0, 0, []) :: (.iload_n 2, 11, 2, 0, 0, []) :: (.iconst 0, 12, 0, 0, 0, []) :: (.bipush 30, 13, 30, 0, 0, []) :: (.invokestatic 111, 15, 191, 3, 0, [0, 0]) :: (.ifCond .ne 5, 18, 12, 0, 0, []) :: (.iconst (-1), 21, 4294967295, 0, 0, []) :: (.ireturn, 22, 0, 0, 0, []) :: (.bipush (-3), 23, 4294967293, 0, 0, []) :: (.istore_n 3, 25, 3, 0, 0, []) :: (.iconst (-1), 26, 4294967295, 0, 0, []) :: (.istore 4, 27, 4, 0, 0, []) :: zp_X11_prays_1
noncomputable def zp_X11_prays : List (List ECE) := [zp_X11_prays_0, zp_X11_prays_1, zp_X11_prays_2, zp_X11_prays_3, zp_X11_prays_4]
noncomputable def zp_X11_seeks_5 : List ECE := (.ireturn, 157, 0, 0, 0, []) :: []
noncomputable def zp_X11_seeks_4 : List ECE := (.iload 7, 126, 7, 0, 0, []) :: (.istore 4, 128, 4, 0, 0, []) :: (.iload 6, 130, 6, 0, 0, []) :: (.istore_n 3, 132, 3, 0, 0, []) :: (.iload 8, 133, 8, 0, 0, []) :: (.istore 5, 135, 5, 0, 0, []) :: (.iinc 6 1, 137, 6, 1, 0, []) :: (.goto (-106), 140, 20, 0, 0, []) :: (.aload_n 0, 143, 0, 0, 0, []) :: (.getfield 19, 144, 11, 1, 0, []) :: (.iload 4, 147, 4, 0, 0, []) :: (.i2l, 149, 0, 0, 0, []) :: (.iload 5, 150, 5, 0, 0, []) :: (.i2l, 152, 0, 0, 0, []) :: (.invokevirtual 196, 153, 34, 3, 5, [0, 0]) :: (.iload_n 3, 156, 3, 0, 0, []) :: zp_X11_seeks_5
noncomputable def zp_X11_seeks_3 : List ECE := (.aload_n 0, 91, 0, 0, 0, []) :: (.getfield 26, 92, 11, 2, 0, []) :: (.iload_n 1, 95, 1, 0, 0, []) :: (.invokevirtual 151, 96, 90, 2, 10, [0, 0]) :: (.isub, 99, 0, 0, 0, []) :: (.invokestatic 260, 100, 324, 1, 0, [0, 0]) :: (.istore 8, 103, 8, 0, 0, []) :: (.iload 7, 105, 7, 0, 0, []) :: (.iload 4, 107, 4, 0, 0, []) :: (.if_icmp .gt 17, 109, 64, 0, 0, []) :: (.iload 7, 112, 7, 0, 0, []) :: (.iload 4, 114, 4, 0, 0, []) :: (.if_icmp .ne 21, 116, 70, 0, 0, []) :: (.iload 8, 119, 8, 0, 0, []) :: (.iload 5, 121, 5, 0, 0, []) :: (.if_icmp .ge 14, 123, 70, 0, 0, []) :: zp_X11_seeks_4
noncomputable def zp_X11_seeks_2 : List ECE := (.invokevirtual 166, 59, 92, 3, 10, [0, 0]) :: (.aload_n 0, 62, 0, 0, 0, []) :: (.getfield 46, 63, 11, 6, 0, []) :: (.aload_n 0, 66, 0, 0, 0, []) :: (.getfield 33, 67, 11, 4, 0, []) :: (.aload_n 0, 70, 0, 0, 0, []) :: (.getfield 81, 71, 11, 11, 0, []) :: (.iload_n 2, 74, 2, 0, 0, []) :: (.invokevirtual 186, 75, 119, 4, 11, [0, 0]) :: (.pop, 78, 0, 0, 0, []) :: (.aload_n 0, 79, 0, 0, 0, []) :: (.getfield 33, 80, 11, 4, 0, []) :: (.iload_n 1, 83, 1, 0, 0, []) :: (.invokevirtual 157, 84, 101, 2, 10, [0, 0]) :: (.istore 7, 87, 7, 0, 0, []) :: (.iload 6, 89, 6, 0, 0, []) :: zp_X11_seeks_3
noncomputable def zp_X11_seeks_1 : List ECE := (.iconst 0, 28, 0, 0, 0, []) :: (.istore 5, 29, 5, 0, 0, []) :: (.iconst 0, 31, 0, 0, 0, []) :: (.istore 6, 32, 6, 0, 0, []) :: (.iload 6, 34, 6, 0, 0, []) :: (.bipush 8, 36, 8, 0, 0, []) :: (.if_icmp .ge 105, 38, 72, 0, 0, []) :: (.aload_n 0, 41, 0, 0, 0, []) :: (.getfield 33, 42, 11, 4, 0, []) :: (.aload_n 0, 45, 0, 0, 0, []) :: (.getfield 26, 46, 11, 2, 0, []) :: (.invokevirtual 170, 49, 81, 2, 10, [0, 0]) :: (.aload_n 0, 52, 0, 0, 0, []) :: (.getfield 33, 53, 11, 4, 0, []) :: (.iload_n 1, 56, 1, 0, 0, []) :: (.iload 6, 57, 6, 0, 0, []) :: zp_X11_seeks_2
noncomputable def zp_X11_seeks_0 : List ECE := (.aload_n 0, 0, 0, 0, 0, []) :: (.getfield 26, 1, 11, 2, 0, []) :: (.iload_n 1, 4, 1, 0, 0, []) :: (.invokevirtual 148, 5, 85, 2, 10, [0, 0]) :: (.ifCond .eq 13, 8, 10, 0, 0, []) :: (.iload_n 2, 11, 2, 0, 0, []) :: (.iconst 0, 12, 0, 0, 0, []) :: (.bipush 30, 13, 30, 0, 0, []) :: (.invokestatic 111, 15, 191, 3, 0, [0, 0]) :: (.ifCond .ne 5, 18, 12, 0, 0, []) :: (.iconst (-1), 21, 4294967295, 0, 0, []) :: (.ireturn, 22, 0, 0, 0, []) :: (.iconst 0, 23, 0, 0, 0, []) :: (.istore_n 3, 24, 3, 0, 0, []) :: (.iconst (-1), 25, 4294967295, 0, 0, []) :: (.istore 4, 26, 4, 0, 0, []) :: zp_X11_seeks_1
noncomputable def zp_X11_seeks : List (List ECE) := [zp_X11_seeks_0, zp_X11_seeks_1, zp_X11_seeks_2, zp_X11_seeks_3, zp_X11_seeks_4, zp_X11_seeks_5]
noncomputable def zp_X11_whole_1 : List ECE := (.bipush (-2), 32, 4294967294, 0, 0, []) :: (.ireturn, 34, 0, 0, 0, []) :: (.aload_n 0, 35, 0, 0, 0, []) :: (.getfield 26, 36, 11, 2, 0, []) :: (.iload_n 1, 39, 1, 0, 0, []) :: (.invokevirtual 265, 40, 103, 2, 10, [0, 0]) :: (.istore_n 2, 43, 2, 0, 0, []) :: (.aload_n 0, 44, 0, 0, 0, []) :: (.getfield 19, 45, 11, 1, 0, []) :: (.iload_n 2, 48, 2, 0, 0, []) :: (.i2l, 49, 0, 0, 0, []) :: (.invokevirtual 242, 50, 33, 2, 5, [0, 0]) :: (.iload_n 2, 53, 2, 0, 0, []) :: (.invokestatic 268, 54, 323, 1, 0, [0, 0]) :: (.ireturn, 57, 0, 0, 0, []) :: []
noncomputable def zp_X11_whole_0 : List ECE := (.aload_n 0, 0, 0, 0, 0, []) :: (.getfield 26, 1, 11, 2, 0, []) :: (.iload_n 1, 4, 1, 0, 0, []) :: (.invokevirtual 108, 5, 84, 2, 10, [0, 0]) :: (.ifCond .ne 5, 8, 7, 0, 0, []) :: (.iconst (-1), 11, 4294967295, 0, 0, []) :: (.ireturn, 12, 0, 0, 0, []) :: (.aload_n 0, 13, 0, 0, 0, []) :: (.getfield 26, 14, 11, 2, 0, []) :: (.iload_n 1, 17, 1, 0, 0, []) :: (.invokevirtual 131, 18, 100, 2, 10, [0, 0]) :: (.aload_n 0, 21, 0, 0, 0, []) :: (.getfield 26, 22, 11, 2, 0, []) :: (.iload_n 1, 25, 1, 0, 0, []) :: (.invokevirtual 118, 26, 89, 2, 10, [0, 0]) :: (.if_icmp .ge 6, 29, 18, 0, 0, []) :: zp_X11_whole_1
noncomputable def zp_X11_whole : List (List ECE) := [zp_X11_whole_0, zp_X11_whole_1]
noncomputable def zp_X11_quorum_1 : List ECE := (.invokevirtual 196, 30, 34, 3, 5, [0, 0]) :: (.iload_n 1, 33, 1, 0, 0, []) :: (.invokestatic 268, 34, 323, 1, 0, [0, 0]) :: (.ireturn, 37, 0, 0, 0, []) :: []
noncomputable def zp_X11_quorum_0 : List ECE := (.aload_n 0, 0, 0, 0, 0, []) :: (.getfield 53, 1, 11, 7, 0, []) :: (.aload_n 0, 4, 0, 0, 0, []) :: (.getfield 26, 5, 11, 2, 0, []) :: (.invokevirtual 273, 8, 65, 2, 8, [0, 0]) :: (.istore_n 1, 11, 1, 0, 0, []) :: (.aload_n 0, 12, 0, 0, 0, []) :: (.getfield 19, 13, 11, 1, 0, []) :: (.iload_n 1, 16, 1, 0, 0, []) :: (.i2l, 17, 0, 0, 0, []) :: (.aload_n 0, 18, 0, 0, 0, []) :: (.getfield 53, 19, 11, 7, 0, []) :: (.aload_n 0, 22, 0, 0, 0, []) :: (.getfield 26, 23, 11, 2, 0, []) :: (.invokevirtual 276, 26, 64, 2, 8, [0, 0]) :: (.i2l, 29, 0, 0, 0, []) :: zp_X11_quorum_1
noncomputable def zp_X11_quorum : List (List ECE) := [zp_X11_quorum_0, zp_X11_quorum_1]
noncomputable def zp_X11_awards_0 : List ECE := (.aload_n 0, 0, 0, 0, 0, []) :: (.getfield 53, 1, 11, 7, 0, []) :: (.aload_n 0, 4, 0, 0, 0, []) :: (.getfield 26, 5, 11, 2, 0, []) :: (.invokevirtual 279, 8, 67, 2, 8, [0, 0]) :: (.istore_n 1, 11, 1, 0, 0, []) :: (.aload_n 0, 12, 0, 0, 0, []) :: (.getfield 53, 13, 11, 7, 0, []) :: (.aload_n 0, 16, 0, 0, 0, []) :: (.getfield 26, 17, 11, 2, 0, []) :: (.aload_n 0, 20, 0, 0, 0, []) :: (.getfield 19, 21, 11, 1, 0, []) :: (.invokevirtual 282, 24, 68, 3, 8, [0, 0]) :: (.iload_n 1, 27, 1, 0, 0, []) :: (.ireturn, 28, 0, 0, 0, []) :: []
noncomputable def zp_X11_awards : List (List ECE) := [zp_X11_awards_0]
noncomputable def zp_X11_needs_3 : List ECE := (.iload_n 3, 87, 3, 0, 0, []) :: (.i2l, 88, 0, 0, 0, []) :: (.invokevirtual 242, 89, 33, 2, 5, [0, 0]) :: (.iload 4, 92, 4, 0, 0, []) :: (.ireturn, 94, 0, 0, 0, []) :: []
noncomputable def zp_X11_needs_2 : List ECE := (.getfield 26, 55, 11, 2, 0, []) :: (.iload_n 2, 58, 2, 0, 0, []) :: (.invokevirtual 251, 59, 88, 2, 10, [0, 0]) :: (.ifCond .eq 18, 62, 44, 0, 0, []) :: (.iload 4, 65, 4, 0, 0, []) :: (.aload_n 0, 67, 0, 0, 0, []) :: (.getfield 26, 68, 11, 2, 0, []) :: (.iload_n 2, 71, 2, 0, 0, []) :: (.invokevirtual 131, 72, 100, 2, 10, [0, 0]) :: (.iload_n 3, 75, 3, 0, 0, []) :: (.isub, 76, 0, 0, 0, []) :: (.if_icmp .le 6, 77, 46, 0, 0, []) :: (.bipush (-2), 80, 4294967294, 0, 0, []) :: (.ireturn, 82, 0, 0, 0, []) :: (.aload_n 0, 83, 0, 0, 0, []) :: (.getfield 19, 84, 11, 1, 0, []) :: zp_X11_needs_3
noncomputable def zp_X11_needs_1 : List ECE := (.invokevirtual 239, 30, 102, 3, 10, [0, 0]) :: (.istore_n 3, 33, 3, 0, 0, []) :: (.iconst 0, 34, 0, 0, 0, []) :: (.aload_n 0, 35, 0, 0, 0, []) :: (.getfield 26, 36, 11, 2, 0, []) :: (.iload_n 2, 39, 2, 0, 0, []) :: (.invokevirtual 118, 40, 89, 2, 10, [0, 0]) :: (.iconst 2, 43, 2, 0, 0, []) :: (.idiv, 44, 0, 0, 0, []) :: (.iconst 1, 45, 1, 0, 0, []) :: (.iadd, 46, 0, 0, 0, []) :: (.iload_n 3, 47, 3, 0, 0, []) :: (.isub, 48, 0, 0, 0, []) :: (.invokestatic 286, 49, 325, 2, 0, [0, 0]) :: (.istore 4, 52, 4, 0, 0, []) :: (.aload_n 0, 54, 0, 0, 0, []) :: zp_X11_needs_2
noncomputable def zp_X11_needs_0 : List ECE := (.aload_n 0, 0, 0, 0, 0, []) :: (.getfield 26, 1, 11, 2, 0, []) :: (.iload_n 1, 4, 1, 0, 0, []) :: (.invokevirtual 148, 5, 85, 2, 10, [0, 0]) :: (.ifCond .eq 14, 8, 10, 0, 0, []) :: (.aload_n 0, 11, 0, 0, 0, []) :: (.getfield 26, 12, 11, 2, 0, []) :: (.iload_n 2, 15, 2, 0, 0, []) :: (.invokevirtual 108, 16, 84, 2, 10, [0, 0]) :: (.ifCond .ne 5, 19, 12, 0, 0, []) :: (.iconst (-1), 22, 4294967295, 0, 0, []) :: (.ireturn, 23, 0, 0, 0, []) :: (.aload_n 0, 24, 0, 0, 0, []) :: (.getfield 26, 25, 11, 2, 0, []) :: (.iload_n 1, 28, 1, 0, 0, []) :: (.iload_n 2, 29, 2, 0, 0, []) :: zp_X11_needs_1
noncomputable def zp_X11_needs : List (List ECE) := [zp_X11_needs_0, zp_X11_needs_1, zp_X11_needs_2, zp_X11_needs_3]
noncomputable def zp_X11_line_2 : List ECE := (.aload_n 0, 56, 0, 0, 0, []) :: (.getfield 26, 57, 11, 2, 0, []) :: (.getfield 160, 60, 9, 4, 0, []) :: (.ireturn, 63, 0, 0, 0, []) :: []
noncomputable def zp_X11_line_1 : List ECE := (.iload_n 1, 30, 1, 0, 0, []) :: (.invokevirtual 292, 31, 71, 3, 8, [0, 0]) :: (.istore_n 3, 34, 3, 0, 0, []) :: (.aload_n 0, 35, 0, 0, 0, []) :: (.getfield 19, 36, 11, 1, 0, []) :: (.iload_n 3, 39, 3, 0, 0, []) :: (.i2l, 40, 0, 0, 0, []) :: (.invokevirtual 248, 41, 32, 2, 5, [0, 0]) :: (.iload_n 1, 44, 1, 0, 0, []) :: (.iconst 1, 45, 1, 0, 0, []) :: (.iload_n 3, 46, 3, 0, 0, []) :: (.ishl, 47, 0, 0, 0, []) :: (.ior, 48, 0, 0, 0, []) :: (.istore_n 1, 49, 1, 0, 0, []) :: (.iinc 2 1, 50, 2, 1, 0, []) :: (.goto (-42), 53, 7, 0, 0, []) :: zp_X11_line_2
noncomputable def zp_X11_line_0 : List ECE := (.aload_n 0, 0, 0, 0, 0, []) :: (.getfield 19, 1, 11, 1, 0, []) :: (.invokevirtual 289, 4, 31, 1, 5, [0, 0]) :: (.iconst 0, 7, 0, 0, 0, []) :: (.istore_n 1, 8, 1, 0, 0, []) :: (.iconst 0, 9, 0, 0, 0, []) :: (.istore_n 2, 10, 2, 0, 0, []) :: (.iload_n 2, 11, 2, 0, 0, []) :: (.aload_n 0, 12, 0, 0, 0, []) :: (.getfield 26, 13, 11, 2, 0, []) :: (.getfield 160, 16, 9, 4, 0, []) :: (.if_icmp .ge 37, 19, 32, 0, 0, []) :: (.aload_n 0, 22, 0, 0, 0, []) :: (.getfield 53, 23, 11, 7, 0, []) :: (.aload_n 0, 26, 0, 0, 0, []) :: (.getfield 26, 27, 11, 2, 0, []) :: zp_X11_line_1
noncomputable def zp_X11_line : List (List ECE) := [zp_X11_line_0, zp_X11_line_1, zp_X11_line_2]
noncomputable def zp_X11_power_1 : List ECE := (.iload_n 2, 30, 2, 0, 0, []) :: (.i2l, 31, 0, 0, 0, []) :: (.lconst 1, 32, 1, 0, 0, []) :: (.aload_n 0, 33, 0, 0, 0, []) :: (.getfield 26, 34, 11, 2, 0, []) :: (.getfield 160, 37, 9, 4, 0, []) :: (.iconst 1, 40, 1, 0, 0, []) :: (.isub, 41, 0, 0, 0, []) :: (.lshl, 42, 0, 0, 0, []) :: (.invokevirtual 299, 43, 35, 3, 5, [0, 0]) :: (.iconst 0, 46, 0, 0, 0, []) :: (.ireturn, 47, 0, 0, 0, []) :: []
noncomputable def zp_X11_power_0 : List ECE := (.aload_n 0, 0, 0, 0, 0, []) :: (.getfield 26, 1, 11, 2, 0, []) :: (.iload_n 1, 4, 1, 0, 0, []) :: (.invokevirtual 148, 5, 85, 2, 10, [0, 0]) :: (.ifCond .ne 5, 8, 7, 0, 0, []) :: (.iconst (-1), 11, 4294967295, 0, 0, []) :: (.ireturn, 12, 0, 0, 0, []) :: (.aload_n 0, 13, 0, 0, 0, []) :: (.getfield 53, 14, 11, 7, 0, []) :: (.aload_n 0, 17, 0, 0, 0, []) :: (.getfield 26, 18, 11, 2, 0, []) :: (.iload_n 1, 21, 1, 0, 0, []) :: (.invokevirtual 296, 22, 73, 3, 8, [0, 0]) :: (.istore_n 2, 25, 2, 0, 0, []) :: (.aload_n 0, 26, 0, 0, 0, []) :: (.getfield 19, 27, 11, 1, 0, []) :: zp_X11_power_1
noncomputable def zp_X11_power : List (List ECE) := [zp_X11_power_0, zp_X11_power_1]
noncomputable def zp_X11_least_2 : List ECE := (.iinc 2 1, 62, 2, 1, 0, []) :: (.goto (-43), 65, 12, 0, 0, []) :: (.iload_n 1, 68, 1, 0, 0, []) :: (.ireturn, 69, 0, 0, 0, []) :: []
noncomputable def zp_X11_least_1 : List ECE := (.getfield 160, 28, 9, 4, 0, []) :: (.ishl, 31, 0, 0, 0, []) :: (.if_icmp .ge 36, 32, 34, 0, 0, []) :: (.aload_n 0, 35, 0, 0, 0, []) :: (.getfield 53, 36, 11, 7, 0, []) :: (.iload_n 2, 39, 2, 0, 0, []) :: (.invokevirtual 305, 40, 74, 2, 8, [0, 0]) :: (.ifCond .eq 19, 43, 32, 0, 0, []) :: (.iload_n 1, 46, 1, 0, 0, []) :: (.ifCond .ne 12, 47, 31, 0, 0, []) :: (.aload_n 0, 50, 0, 0, 0, []) :: (.getfield 19, 51, 11, 1, 0, []) :: (.iload_n 2, 54, 2, 0, 0, []) :: (.i2l, 55, 0, 0, 0, []) :: (.invokevirtual 248, 56, 32, 2, 5, [0, 0]) :: (.iinc 1 1, 59, 1, 1, 0, []) :: zp_X11_least_2
noncomputable def zp_X11_least_0 : List ECE := (.aload_n 0, 0, 0, 0, 0, []) :: (.getfield 53, 1, 11, 7, 0, []) :: (.aload_n 0, 4, 0, 0, 0, []) :: (.getfield 26, 5, 11, 2, 0, []) :: (.invokevirtual 302, 8, 72, 2, 8, [0, 0]) :: (.iconst 0, 11, 0, 0, 0, []) :: (.istore_n 1, 12, 1, 0, 0, []) :: (.aload_n 0, 13, 0, 0, 0, []) :: (.getfield 19, 14, 11, 1, 0, []) :: (.invokevirtual 289, 17, 31, 1, 5, [0, 0]) :: (.iconst 0, 20, 0, 0, 0, []) :: (.istore_n 2, 21, 2, 0, 0, []) :: (.iload_n 2, 22, 2, 0, 0, []) :: (.iconst 1, 23, 1, 0, 0, []) :: (.aload_n 0, 24, 0, 0, 0, []) :: (.getfield 26, 25, 11, 2, 0, []) :: zp_X11_least_1
noncomputable def zp_X11_least : List (List ECE) := [zp_X11_least_0, zp_X11_least_1, zp_X11_least_2]
noncomputable def zp_X11_seen_2 : List ECE := (.goto 5, 65, 34, 0, 0, []) :: (.bipush (-2), 68, 4294967294, 0, 0, []) :: (.ireturn, 70, 0, 0, 0, []) :: []
noncomputable def zp_X11_seen_1 : List ECE := (.iconst (-1), 35, 4294967295, 0, 0, []) :: (.ireturn, 36, 0, 0, 0, []) :: (.aload_n 0, 37, 0, 0, 0, []) :: (.getfield 26, 38, 11, 2, 0, []) :: (.iload_n 1, 41, 1, 0, 0, []) :: (.iload_n 2, 42, 2, 0, 0, []) :: (.invokestatic 141, 43, 193, 2, 0, [0, 0]) :: (.invokevirtual 318, 46, 94, 2, 10, [0, 0]) :: (.ifCond .eq 19, 49, 33, 0, 0, []) :: (.aload_n 0, 52, 0, 0, 0, []) :: (.getfield 60, 53, 11, 8, 0, []) :: (.getfield 308, 56, 8, 0, 0, []) :: (.iload_n 1, 59, 1, 0, 0, []) :: (.iload_n 2, 60, 2, 0, 0, []) :: (.iload_n 3, 61, 3, 0, 0, []) :: (.invokevirtual 321, 62, 16, 4, 3, [0, 0]) :: zp_X11_seen_2
noncomputable def zp_X11_seen_0 : List ECE := (.aload_n 0, 0, 0, 0, 0, []) :: (.getfield 26, 1, 11, 2, 0, []) :: (.iload_n 1, 4, 1, 0, 0, []) :: (.iload_n 2, 5, 2, 0, 0, []) :: (.invokevirtual 137, 6, 86, 3, 10, [0, 0]) :: (.ifCond .eq 26, 9, 16, 0, 0, []) :: (.iload_n 3, 12, 3, 0, 0, []) :: (.iconst 0, 13, 0, 0, 0, []) :: (.bipush 7, 14, 7, 0, 0, []) :: (.invokestatic 111, 16, 191, 3, 0, [0, 0]) :: (.ifCond .eq 16, 19, 16, 0, 0, []) :: (.aload_n 0, 22, 0, 0, 0, []) :: (.getfield 60, 23, 11, 8, 0, []) :: (.getfield 308, 26, 8, 0, 0, []) :: (.invokevirtual 312, 29, 18, 1, 3, [0, 0]) :: (.ifCond .eq 5, 32, 18, 0, 0, []) :: zp_X11_seen_1
noncomputable def zp_X11_seen : List (List ECE) := [zp_X11_seen_0, zp_X11_seen_1, zp_X11_seen_2]
noncomputable def zp_X11_forget_0 : List ECE := (.aload_n 0, 0, 0, 0, 0, []) :: (.getfield 60, 1, 11, 8, 0, []) :: (.getfield 308, 4, 8, 0, 0, []) :: (.invokevirtual 323, 7, 19, 1, 3, [0, 0]) :: (.ireturn, 10, 0, 0, 0, []) :: []
noncomputable def zp_X11_forget : List (List ECE) := [zp_X11_forget_0]
noncomputable def zp_X11_guess_1 : List ECE := (.aload_n 0, 30, 0, 0, 0, []) :: (.getfield 26, 31, 11, 2, 0, []) :: (.getfield 257, 34, 9, 7, 0, []) :: (.iconst 3, 37, 3, 0, 0, []) :: (.iadd, 38, 0, 0, 0, []) :: (.ishr, 39, 0, 0, 0, []) :: (.iconst 1, 40, 1, 0, 0, []) :: (.iand, 41, 0, 0, 0, []) :: (.i2l, 42, 0, 0, 0, []) :: (.invokevirtual 196, 43, 34, 3, 5, [0, 0]) :: (.iload_n 1, 46, 1, 0, 0, []) :: (.ireturn, 47, 0, 0, 0, []) :: []
noncomputable def zp_X11_guess_0 : List ECE := (.aload_n 0, 0, 0, 0, 0, []) :: (.getfield 60, 1, 11, 8, 0, []) :: (.aload_n 0, 4, 0, 0, 0, []) :: (.getfield 26, 5, 11, 2, 0, []) :: (.aload_n 0, 8, 0, 0, 0, []) :: (.getfield 81, 9, 11, 11, 0, []) :: (.aload_n 0, 12, 0, 0, 0, []) :: (.getfield 46, 13, 11, 6, 0, []) :: (.invokevirtual 326, 16, 77, 4, 9, [0, 0]) :: (.istore_n 1, 19, 1, 0, 0, []) :: (.aload_n 0, 20, 0, 0, 0, []) :: (.getfield 19, 21, 11, 1, 0, []) :: (.iload_n 1, 24, 1, 0, 0, []) :: (.invokestatic 268, 25, 323, 1, 0, [0, 0]) :: (.i2l, 28, 0, 0, 0, []) :: (.iload_n 1, 29, 1, 0, 0, []) :: zp_X11_guess_1
noncomputable def zp_X11_guess : List (List ECE) := [zp_X11_guess_0, zp_X11_guess_1]
noncomputable def zp_X11_looks_4 : List ECE := (.iconst 4, 122, 4, 0, 0, []) :: (.irem, 123, 0, 0, 0, []) :: (.iadd, 124, 0, 0, 0, []) :: (.ireturn, 125, 0, 0, 0, []) :: []
noncomputable def zp_X11_looks_3 : List ECE := (.istore_n 3, 96, 3, 0, 0, []) :: (.iload 4, 97, 4, 0, 0, []) :: (.istore_n 2, 99, 2, 0, 0, []) :: (.iinc 4 1, 100, 4, 1, 0, []) :: (.goto (-58), 103, 24, 0, 0, []) :: (.aload_n 0, 106, 0, 0, 0, []) :: (.getfield 19, 107, 11, 1, 0, []) :: (.iload_n 3, 110, 3, 0, 0, []) :: (.i2l, 111, 0, 0, 0, []) :: (.invokevirtual 242, 112, 33, 2, 5, [0, 0]) :: (.bipush 10, 115, 10, 0, 0, []) :: (.iload_n 2, 117, 2, 0, 0, []) :: (.iconst 4, 118, 4, 0, 0, []) :: (.idiv, 119, 0, 0, 0, []) :: (.imul, 120, 0, 0, 0, []) :: (.iload_n 2, 121, 2, 0, 0, []) :: zp_X11_looks_4
noncomputable def zp_X11_looks_2 : List ECE := (.aload_n 0, 64, 0, 0, 0, []) :: (.getfield 60, 65, 11, 8, 0, []) :: (.aload_n 0, 68, 0, 0, 0, []) :: (.getfield 26, 69, 11, 2, 0, []) :: (.aload_n 0, 72, 0, 0, 0, []) :: (.getfield 81, 73, 11, 11, 0, []) :: (.aload_n 0, 76, 0, 0, 0, []) :: (.getfield 46, 77, 11, 6, 0, []) :: (.iload_n 1, 80, 1, 0, 0, []) :: (.iload 4, 81, 4, 0, 0, []) :: (.invokevirtual 330, 83, 79, 6, 9, [0, 0]) :: (.istore 5, 86, 5, 0, 0, []) :: (.iload 5, 88, 5, 0, 0, []) :: (.iload_n 3, 90, 3, 0, 0, []) :: (.if_icmp .ge 9, 91, 51, 0, 0, []) :: (.iload 5, 94, 5, 0, 0, []) :: zp_X11_looks_3
noncomputable def zp_X11_looks_1 : List ECE := (.bipush (-2), 34, 4294967294, 0, 0, []) :: (.ireturn, 36, 0, 0, 0, []) :: (.iconst 0, 37, 0, 0, 0, []) :: (.istore_n 2, 38, 2, 0, 0, []) :: (.bipush 8, 39, 8, 0, 0, []) :: (.istore_n 3, 41, 3, 0, 0, []) :: (.iconst 0, 42, 0, 0, 0, []) :: (.istore 4, 43, 4, 0, 0, []) :: (.iload 4, 45, 4, 0, 0, []) :: (.bipush 20, 47, 20, 0, 0, []) :: (.if_icmp .ge 57, 49, 53, 0, 0, []) :: (.aload_n 0, 52, 0, 0, 0, []) :: (.getfield 26, 53, 11, 2, 0, []) :: (.iload 4, 56, 4, 0, 0, []) :: (.invokevirtual 318, 58, 94, 2, 10, [0, 0]) :: (.ifCond .eq 39, 61, 51, 0, 0, []) :: zp_X11_looks_2
noncomputable def zp_X11_looks_0 : List ECE := (.aload_n 0, 0, 0, 0, 0, []) :: (.getfield 60, 1, 11, 8, 0, []) :: (.aload_n 0, 4, 0, 0, 0, []) :: (.getfield 26, 5, 11, 2, 0, []) :: (.aload_n 0, 8, 0, 0, 0, []) :: (.getfield 81, 9, 11, 11, 0, []) :: (.aload_n 0, 12, 0, 0, 0, []) :: (.getfield 46, 13, 11, 6, 0, []) :: (.invokevirtual 326, 16, 77, 4, 9, [0, 0]) :: (.istore_n 1, 19, 1, 0, 0, []) :: (.iload_n 1, 20, 1, 0, 0, []) :: (.ifCond .eq 13, 21, 16, 0, 0, []) :: (.aload_n 0, 24, 0, 0, 0, []) :: (.getfield 26, 25, 11, 2, 0, []) :: (.invokevirtual 190, 28, 96, 1, 10, [0, 0]) :: (.ifCond .ne 6, 31, 18, 0, 0, []) :: zp_X11_looks_1
noncomputable def zp_X11_looks : List (List ECE) := [zp_X11_looks_0, zp_X11_looks_1, zp_X11_looks_2, zp_X11_looks_3, zp_X11_looks_4]
noncomputable def zp_X11_heard_0 : List ECE := (.iload_n 1, 0, 1, 0, 0, []) :: (.iload_n 2, 1, 2, 0, 0, []) :: (.invokestatic 334, 2, 9, 2, 0, [0, 0]) :: (.ifCond .eq 19, 5, 12, 0, 0, []) :: (.aload_n 0, 8, 0, 0, 0, []) :: (.getfield 67, 9, 11, 9, 0, []) :: (.getfield 337, 12, 1, 0, 0, []) :: (.iload_n 1, 15, 1, 0, 0, []) :: (.iload_n 2, 16, 2, 0, 0, []) :: (.iconst 0, 17, 0, 0, 0, []) :: (.invokevirtual 321, 18, 16, 4, 3, [0, 0]) :: (.goto 4, 21, 13, 0, 0, []) :: (.iconst (-1), 24, 4294967295, 0, 0, []) :: (.ireturn, 25, 0, 0, 0, []) :: []
noncomputable def zp_X11_heard : List (List ECE) := [zp_X11_heard_0]
noncomputable def zp_X11_denies_0 : List ECE := (.aload_n 0, 0, 0, 0, 0, []) :: (.getfield 67, 1, 11, 9, 0, []) :: (.getfield 337, 4, 1, 0, 0, []) :: (.invokevirtual 323, 7, 19, 1, 3, [0, 0]) :: (.ireturn, 10, 0, 0, 0, []) :: []
noncomputable def zp_X11_denies : List (List ECE) := [zp_X11_denies_0]
noncomputable def zp_X11_fits_0 : List ECE := (.aload_n 0, 0, 0, 0, 0, []) :: (.getfield 67, 1, 11, 9, 0, []) :: (.aload_n 0, 4, 0, 0, 0, []) :: (.getfield 26, 5, 11, 2, 0, []) :: (.invokevirtual 338, 8, 10, 2, 2, [0, 0]) :: (.istore_n 1, 11, 1, 0, 0, []) :: (.aload_n 0, 12, 0, 0, 0, []) :: (.getfield 19, 13, 11, 1, 0, []) :: (.iload_n 1, 16, 1, 0, 0, []) :: (.invokestatic 268, 17, 323, 1, 0, [0, 0]) :: (.i2l, 20, 0, 0, 0, []) :: (.invokevirtual 242, 21, 33, 2, 5, [0, 0]) :: (.iload_n 1, 24, 1, 0, 0, []) :: (.ireturn, 25, 0, 0, 0, []) :: []
noncomputable def zp_X11_fits : List (List ECE) := [zp_X11_fits_0]
noncomputable def zp_X11_asks_3 : List ECE := (.getfield 19, 91, 11, 1, 0, []) :: (.iload_n 3, 94, 3, 0, 0, []) :: (.i2l, 95, 0, 0, 0, []) :: (.invokevirtual 242, 96, 33, 2, 5, [0, 0]) :: (.iload_n 2, 99, 2, 0, 0, []) :: (.ireturn, 100, 0, 0, 0, []) :: []
noncomputable def zp_X11_asks_2 : List ECE := (.getfield 26, 59, 11, 2, 0, []) :: (.iload_n 1, 62, 1, 0, 0, []) :: (.iload 5, 63, 5, 0, 0, []) :: (.iload 6, 65, 6, 0, 0, []) :: (.invokestatic 341, 67, 13, 4, 0, [0, 0]) :: (.istore 7, 70, 7, 0, 0, []) :: (.iload 7, 72, 7, 0, 0, []) :: (.iload_n 3, 74, 3, 0, 0, []) :: (.if_icmp .ge 9, 75, 45, 0, 0, []) :: (.iload 7, 78, 7, 0, 0, []) :: (.istore_n 3, 80, 3, 0, 0, []) :: (.iload 4, 81, 4, 0, 0, []) :: (.istore_n 2, 83, 2, 0, 0, []) :: (.iinc 4 1, 84, 4, 1, 0, []) :: (.goto (-60), 87, 16, 0, 0, []) :: (.aload_n 0, 90, 0, 0, 0, []) :: zp_X11_asks_3
noncomputable def zp_X11_asks_1 : List ECE := (.iload 4, 27, 4, 0, 0, []) :: (.bipush 40, 29, 40, 0, 0, []) :: (.if_icmp .ge 59, 31, 47, 0, 0, []) :: (.iload 4, 34, 4, 0, 0, []) :: (.bipush 10, 36, 10, 0, 0, []) :: (.idiv, 38, 0, 0, 0, []) :: (.istore 5, 39, 5, 0, 0, []) :: (.iload 4, 41, 4, 0, 0, []) :: (.bipush 10, 43, 10, 0, 0, []) :: (.irem, 45, 0, 0, 0, []) :: (.istore 6, 46, 6, 0, 0, []) :: (.iload 5, 48, 5, 0, 0, []) :: (.iload 6, 50, 6, 0, 0, []) :: (.invokestatic 334, 52, 9, 2, 0, [0, 0]) :: (.ifCond .eq 29, 55, 45, 0, 0, []) :: (.aload_n 0, 58, 0, 0, 0, []) :: zp_X11_asks_2
noncomputable def zp_X11_asks_0 : List ECE := (.aload_n 0, 0, 0, 0, 0, []) :: (.getfield 67, 1, 11, 9, 0, []) :: (.aload_n 0, 4, 0, 0, 0, []) :: (.getfield 26, 5, 11, 2, 0, []) :: (.invokevirtual 338, 8, 10, 2, 2, [0, 0]) :: (.istore_n 1, 11, 1, 0, 0, []) :: (.iload_n 1, 12, 1, 0, 0, []) :: (.ifCond .ne 6, 13, 10, 0, 0, []) :: (.bipush (-2), 16, 4294967294, 0, 0, []) :: (.ireturn, 18, 0, 0, 0, []) :: (.iconst 0, 19, 0, 0, 0, []) :: (.istore_n 2, 20, 2, 0, 0, []) :: (.bipush 6, 21, 6, 0, 0, []) :: (.istore_n 3, 23, 3, 0, 0, []) :: (.iconst 0, 24, 0, 0, 0, []) :: (.istore 4, 25, 4, 0, 0, []) :: zp_X11_asks_1
noncomputable def zp_X11_asks : List (List ECE) := [zp_X11_asks_0, zp_X11_asks_1, zp_X11_asks_2, zp_X11_asks_3]
noncomputable def zp_X11_odds_4 : List ECE := (.getfield 19, 124, 11, 1, 0, []) :: (.iload 5, 127, 5, 0, 0, []) :: (.i2l, 129, 0, 0, 0, []) :: (.iload 6, 130, 6, 0, 0, []) :: (.i2l, 132, 0, 0, 0, []) :: (.invokevirtual 299, 133, 35, 3, 5, [0, 0]) :: (.iconst 0, 136, 0, 0, 0, []) :: (.ireturn, 137, 0, 0, 0, []) :: []
noncomputable def zp_X11_odds_3 : List ECE := (.imul, 92, 0, 0, 0, []) :: (.aload_n 0, 93, 0, 0, 0, []) :: (.getfield 26, 94, 11, 2, 0, []) :: (.iload_n 2, 97, 2, 0, 0, []) :: (.invokevirtual 118, 98, 89, 2, 10, [0, 0]) :: (.if_icmp .le 16, 101, 61, 0, 0, []) :: (.iload 5, 104, 5, 0, 0, []) :: (.iload 7, 106, 7, 0, 0, []) :: (.iload 4, 108, 4, 0, 0, []) :: (.iload_n 3, 110, 3, 0, 0, []) :: (.invokestatic 344, 111, 186, 3, 0, [0, 0]) :: (.iadd, 114, 0, 0, 0, []) :: (.istore 5, 115, 5, 0, 0, []) :: (.iinc 7 1, 117, 7, 1, 0, []) :: (.goto (-43), 120, 40, 0, 0, []) :: (.aload_n 0, 123, 0, 0, 0, []) :: zp_X11_odds_4
noncomputable def zp_X11_odds_2 : List ECE := (.iload 6, 61, 6, 0, 0, []) :: (.bipush 10, 63, 10, 0, 0, []) :: (.imul, 65, 0, 0, 0, []) :: (.istore 6, 66, 6, 0, 0, []) :: (.iinc 7 1, 68, 7, 1, 0, []) :: (.goto (-17), 71, 29, 0, 0, []) :: (.iconst 0, 74, 0, 0, 0, []) :: (.istore 7, 75, 7, 0, 0, []) :: (.iload 7, 77, 7, 0, 0, []) :: (.iconst 1, 79, 1, 0, 0, []) :: (.iload 4, 80, 4, 0, 0, []) :: (.ishl, 82, 0, 0, 0, []) :: (.if_icmp .ge 40, 83, 63, 0, 0, []) :: (.iconst 2, 86, 2, 0, 0, []) :: (.iload 7, 87, 7, 0, 0, []) :: (.invokestatic 268, 89, 323, 1, 0, [0, 0]) :: zp_X11_odds_3
noncomputable def zp_X11_odds_1 : List ECE := (.ireturn, 33, 0, 0, 0, []) :: (.aload_n 0, 34, 0, 0, 0, []) :: (.getfield 26, 35, 11, 2, 0, []) :: (.iload_n 1, 38, 1, 0, 0, []) :: (.iload_n 2, 39, 2, 0, 0, []) :: (.invokevirtual 239, 40, 102, 3, 10, [0, 0]) :: (.istore 4, 43, 4, 0, 0, []) :: (.iconst 0, 45, 0, 0, 0, []) :: (.istore 5, 46, 5, 0, 0, []) :: (.iconst 1, 48, 1, 0, 0, []) :: (.istore 6, 49, 6, 0, 0, []) :: (.iconst 0, 51, 0, 0, 0, []) :: (.istore 7, 52, 7, 0, 0, []) :: (.iload 7, 54, 7, 0, 0, []) :: (.iload 4, 56, 4, 0, 0, []) :: (.if_icmp .ge 16, 58, 38, 0, 0, []) :: zp_X11_odds_2
noncomputable def zp_X11_odds_0 : List ECE := (.aload_n 0, 0, 0, 0, 0, []) :: (.getfield 26, 1, 11, 2, 0, []) :: (.iload_n 1, 4, 1, 0, 0, []) :: (.invokevirtual 148, 5, 85, 2, 10, [0, 0]) :: (.ifCond .eq 24, 8, 15, 0, 0, []) :: (.aload_n 0, 11, 0, 0, 0, []) :: (.getfield 26, 12, 11, 2, 0, []) :: (.iload_n 2, 15, 2, 0, 0, []) :: (.invokevirtual 108, 16, 84, 2, 10, [0, 0]) :: (.ifCond .eq 13, 19, 15, 0, 0, []) :: (.iload_n 3, 22, 3, 0, 0, []) :: (.iconst 0, 23, 0, 0, 0, []) :: (.bipush 10, 24, 10, 0, 0, []) :: (.invokestatic 111, 26, 191, 3, 0, [0, 0]) :: (.ifCond .ne 5, 29, 17, 0, 0, []) :: (.iconst (-1), 32, 4294967295, 0, 0, []) :: zp_X11_odds_1
noncomputable def zp_X11_odds : List (List ECE) := [zp_X11_odds_0, zp_X11_odds_1, zp_X11_odds_2, zp_X11_odds_3, zp_X11_odds_4]
noncomputable def zp_X11_went_1 : List ECE := (.goto 4, 31, 18, 0, 0, []) :: (.iconst 0, 34, 0, 0, 0, []) :: (.istore 4, 35, 4, 0, 0, []) :: (.iload 4, 37, 4, 0, 0, []) :: (.ifCond .eq 19, 39, 29, 0, 0, []) :: (.aload_n 0, 42, 0, 0, 0, []) :: (.getfield 74, 43, 11, 10, 0, []) :: (.getfield 347, 46, 0, 0, 0, []) :: (.iload_n 1, 49, 1, 0, 0, []) :: (.iload_n 2, 50, 2, 0, 0, []) :: (.iload_n 3, 51, 3, 0, 0, []) :: (.invokevirtual 321, 52, 16, 4, 3, [0, 0]) :: (.goto 4, 55, 30, 0, 0, []) :: (.iconst (-1), 58, 4294967295, 0, 0, []) :: (.ireturn, 59, 0, 0, 0, []) :: []
noncomputable def zp_X11_went_0 : List ECE := (.iload_n 1, 0, 1, 0, 0, []) :: (.bipush (-3), 1, 4294967293, 0, 0, []) :: (.iconst 3, 3, 3, 0, 0, []) :: (.invokestatic 111, 4, 191, 3, 0, [0, 0]) :: (.ifCond .eq 27, 7, 17, 0, 0, []) :: (.iload_n 2, 10, 2, 0, 0, []) :: (.iconst 0, 11, 0, 0, 0, []) :: (.iconst 3, 12, 3, 0, 0, []) :: (.invokestatic 111, 13, 191, 3, 0, [0, 0]) :: (.ifCond .eq 18, 16, 17, 0, 0, []) :: (.iload_n 3, 19, 3, 0, 0, []) :: (.bipush (-20), 20, 4294967276, 0, 0, []) :: (.bipush 20, 22, 20, 0, 0, []) :: (.invokestatic 111, 24, 191, 3, 0, [0, 0]) :: (.ifCond .eq 7, 27, 17, 0, 0, []) :: (.iconst 1, 30, 1, 0, 0, []) :: zp_X11_went_1
noncomputable def zp_X11_went : List (List ECE) := [zp_X11_went_0, zp_X11_went_1]
noncomputable def zp_X11_clears_0 : List ECE := (.aload_n 0, 0, 0, 0, 0, []) :: (.getfield 74, 1, 11, 10, 0, []) :: (.getfield 347, 4, 0, 0, 0, []) :: (.invokevirtual 323, 7, 19, 1, 3, [0, 0]) :: (.ireturn, 10, 0, 0, 0, []) :: []
noncomputable def zp_X11_clears : List (List ECE) := [zp_X11_clears_0]
noncomputable def zp_X11_scatters_1 : List ECE := (.i2l, 32, 0, 0, 0, []) :: (.bipush 10, 33, 10, 0, 0, []) :: (.iload_n 2, 35, 2, 0, 0, []) :: (.invokestatic 357, 36, 2, 1, 0, [0, 0]) :: (.iadd, 39, 0, 0, 0, []) :: (.i2l, 40, 0, 0, 0, []) :: (.invokevirtual 196, 41, 34, 3, 5, [0, 0]) :: (.iload_n 1, 44, 1, 0, 0, []) :: (.invokestatic 268, 45, 323, 1, 0, [0, 0]) :: (.ireturn, 48, 0, 0, 0, []) :: []
noncomputable def zp_X11_scatters_0 : List ECE := (.aload_n 0, 0, 0, 0, 0, []) :: (.getfield 74, 1, 11, 10, 0, []) :: (.invokevirtual 348, 4, 5, 1, 1, [0, 0]) :: (.istore_n 1, 7, 1, 0, 0, []) :: (.aload_n 0, 8, 0, 0, 0, []) :: (.getfield 19, 9, 11, 1, 0, []) :: (.invokevirtual 289, 12, 31, 1, 5, [0, 0]) :: (.iload_n 1, 15, 1, 0, 0, []) :: (.ifCond .eq 28, 16, 23, 0, 0, []) :: (.iload_n 1, 19, 1, 0, 0, []) :: (.invokestatic 351, 20, 3, 1, 0, [0, 0]) :: (.istore_n 2, 23, 2, 0, 0, []) :: (.aload_n 0, 24, 0, 0, 0, []) :: (.getfield 19, 25, 11, 1, 0, []) :: (.iload_n 2, 28, 2, 0, 0, []) :: (.invokestatic 354, 29, 1, 1, 0, [0, 0]) :: zp_X11_scatters_1
noncomputable def zp_X11_scatters : List (List ECE) := [zp_X11_scatters_0, zp_X11_scatters_1]
noncomputable def zp_X11_tries_3 : List ECE := (.invokevirtual 242, 87, 33, 2, 5, [0, 0]) :: (.iload_n 2, 90, 2, 0, 0, []) :: (.ireturn, 91, 0, 0, 0, []) :: []
noncomputable def zp_X11_tries_2 : List ECE := (.bipush 10, 58, 10, 0, 0, []) :: (.iconst 3, 60, 3, 0, 0, []) :: (.iload 4, 61, 4, 0, 0, []) :: (.iadd, 63, 0, 0, 0, []) :: (.imul, 64, 0, 0, 0, []) :: (.iload 5, 65, 5, 0, 0, []) :: (.iadd, 67, 0, 0, 0, []) :: (.istore_n 2, 68, 2, 0, 0, []) :: (.iinc 5 1, 69, 5, 1, 0, []) :: (.goto (-39), 72, 19, 0, 0, []) :: (.iinc 4 1, 75, 4, 1, 0, []) :: (.goto (-54), 78, 14, 0, 0, []) :: (.aload_n 0, 81, 0, 0, 0, []) :: (.getfield 19, 82, 11, 1, 0, []) :: (.iload_n 3, 85, 3, 0, 0, []) :: (.i2l, 86, 0, 0, 0, []) :: zp_X11_tries_3
noncomputable def zp_X11_tries_1 : List ECE := (.if_icmp .gt 54, 27, 44, 0, 0, []) :: (.iconst 0, 30, 0, 0, 0, []) :: (.istore 5, 31, 5, 0, 0, []) :: (.iload 5, 33, 5, 0, 0, []) :: (.iconst 4, 35, 4, 0, 0, []) :: (.if_icmp .ge 39, 36, 42, 0, 0, []) :: (.iload_n 1, 39, 1, 0, 0, []) :: (.iload 4, 40, 4, 0, 0, []) :: (.iload 5, 42, 5, 0, 0, []) :: (.invokestatic 360, 44, 7, 3, 0, [0, 0]) :: (.istore 6, 47, 6, 0, 0, []) :: (.iload 6, 49, 6, 0, 0, []) :: (.iload_n 3, 51, 3, 0, 0, []) :: (.if_icmp .ge 17, 52, 40, 0, 0, []) :: (.iload 6, 55, 6, 0, 0, []) :: (.istore_n 3, 57, 3, 0, 0, []) :: zp_X11_tries_2
noncomputable def zp_X11_tries_0 : List ECE := (.aload_n 0, 0, 0, 0, 0, []) :: (.getfield 74, 1, 11, 10, 0, []) :: (.invokevirtual 348, 4, 5, 1, 1, [0, 0]) :: (.istore_n 1, 7, 1, 0, 0, []) :: (.iload_n 1, 8, 1, 0, 0, []) :: (.ifCond .ne 6, 9, 8, 0, 0, []) :: (.bipush (-2), 12, 4294967294, 0, 0, []) :: (.ireturn, 14, 0, 0, 0, []) :: (.iconst 0, 15, 0, 0, 0, []) :: (.istore_n 2, 16, 2, 0, 0, []) :: (.bipush 21, 17, 21, 0, 0, []) :: (.istore_n 3, 19, 3, 0, 0, []) :: (.bipush (-3), 20, 4294967293, 0, 0, []) :: (.istore 4, 22, 4, 0, 0, []) :: (.iload 4, 24, 4, 0, 0, []) :: (.iconst 3, 26, 3, 0, 0, []) :: zp_X11_tries_1
noncomputable def zp_X11_tries : List (List ECE) := [zp_X11_tries_0, zp_X11_tries_1, zp_X11_tries_2, zp_X11_tries_3]
noncomputable def zp_X11_handfuls_0 : List ECE := (.iload_n 1, 0, 1, 0, 0, []) :: (.iconst 0, 1, 0, 0, 0, []) :: (.bipush 60, 2, 60, 0, 0, []) :: (.invokestatic 111, 4, 191, 3, 0, [0, 0]) :: (.ifCond .ne 5, 7, 7, 0, 0, []) :: (.iconst (-1), 10, 4294967295, 0, 0, []) :: (.ireturn, 11, 0, 0, 0, []) :: (.iload_n 1, 12, 1, 0, 0, []) :: (.invokestatic 362, 13, 187, 1, 0, [0, 0]) :: (.ireturn, 16, 0, 0, 0, []) :: []
noncomputable def zp_X11_handfuls : List (List ECE) := [zp_X11_handfuls_0]
noncomputable def zp_X11_other_3 : List ECE := (.getfield 19, 93, 11, 1, 0, []) :: (.iload_n 3, 96, 3, 0, 0, []) :: (.i2l, 97, 0, 0, 0, []) :: (.invokevirtual 248, 98, 32, 2, 5, [0, 0]) :: (.aload_n 0, 101, 0, 0, 0, []) :: (.getfield 19, 102, 11, 1, 0, []) :: (.aload_n 0, 105, 0, 0, 0, []) :: (.getfield 33, 106, 11, 4, 0, []) :: (.invokevirtual 193, 109, 107, 1, 10, [0, 0]) :: (.i2l, 112, 0, 0, 0, []) :: (.invokevirtual 248, 113, 32, 2, 5, [0, 0]) :: (.iload_n 2, 116, 2, 0, 0, []) :: (.iload 4, 117, 4, 0, 0, []) :: (.isub, 119, 0, 0, 0, []) :: (.ireturn, 120, 0, 0, 0, []) :: []
noncomputable def zp_X11_other_2 : List ECE := (.invokevirtual 232, 62, 184, 3, 12, [0, 0]) :: (.aload_n 0, 65, 0, 0, 0, []) :: (.getfield 33, 66, 11, 4, 0, []) :: (.invokevirtual 225, 69, 97, 1, 10, [0, 0]) :: (.istore 4, 72, 4, 0, 0, []) :: (.iload_n 2, 74, 2, 0, 0, []) :: (.iload 4, 75, 4, 0, 0, []) :: (.if_icmp .lt 39, 77, 59, 0, 0, []) :: (.aload_n 0, 80, 0, 0, 0, []) :: (.getfield 19, 81, 11, 1, 0, []) :: (.iload_n 2, 84, 2, 0, 0, []) :: (.i2l, 85, 0, 0, 0, []) :: (.iload 4, 86, 4, 0, 0, []) :: (.i2l, 88, 0, 0, 0, []) :: (.invokevirtual 196, 89, 34, 3, 5, [0, 0]) :: (.aload_n 0, 92, 0, 0, 0, []) :: zp_X11_other_3
noncomputable def zp_X11_other_1 : List ECE := (.aload_n 0, 30, 0, 0, 0, []) :: (.getfield 85, 31, 11, 12, 0, []) :: (.bipush 10, 34, 10, 0, 0, []) :: (.invokevirtual 232, 36, 184, 3, 12, [0, 0]) :: (.aload_n 0, 39, 0, 0, 0, []) :: (.getfield 33, 40, 11, 4, 0, []) :: (.invokevirtual 225, 43, 97, 1, 10, [0, 0]) :: (.istore_n 2, 46, 2, 0, 0, []) :: (.aload_n 0, 47, 0, 0, 0, []) :: (.getfield 33, 48, 11, 4, 0, []) :: (.invokevirtual 193, 51, 107, 1, 10, [0, 0]) :: (.istore_n 3, 54, 3, 0, 0, []) :: (.aload_n 0, 55, 0, 0, 0, []) :: (.aload_n 0, 56, 0, 0, 0, []) :: (.getfield 81, 57, 11, 11, 0, []) :: (.bipush 10, 60, 10, 0, 0, []) :: zp_X11_other_2
noncomputable def zp_X11_other_0 : List ECE := (.aload_n 0, 0, 0, 0, 0, []) :: (.getfield 85, 1, 11, 12, 0, []) :: (.aload_n 0, 4, 0, 0, 0, []) :: (.getfield 10, 5, 11, 0, 0, []) :: (.aload_n 0, 8, 0, 0, 0, []) :: (.getfield 10, 9, 11, 0, 0, []) :: (.invokevirtual 100, 12, 55, 1, 7, [0, 0]) :: (.invokevirtual 104, 15, 37, 3, 6, [0, 0]) :: (.istore_n 1, 18, 1, 0, 0, []) :: (.iload_n 1, 19, 1, 0, 0, []) :: (.ifCond .lt 9, 20, 15, 0, 0, []) :: (.sipush (-10000), 23, 4294957296, 0, 0, []) :: (.iload_n 1, 26, 1, 0, 0, []) :: (.isub, 27, 0, 0, 0, []) :: (.ireturn, 28, 0, 0, 0, []) :: (.aload_n 0, 29, 0, 0, 0, []) :: zp_X11_other_1
noncomputable def zp_X11_other : List (List ECE) := [zp_X11_other_0, zp_X11_other_1, zp_X11_other_2, zp_X11_other_3]
noncomputable def zp_X11_grasps_2 : List ECE := (.iload_n 2, 59, 2, 0, 0, []) :: (.ifCond .ne 15, 60, 41, 0, 0, []) :: (.aload_n 0, 63, 0, 0, 0, []) :: (.getfield 19, 64, 11, 1, 0, []) :: (.iload_n 3, 67, 3, 0, 0, []) :: (.i2l, 68, 0, 0, 0, []) :: (.iload 4, 69, 4, 0, 0, []) :: (.i2l, 71, 0, 0, 0, []) :: (.invokevirtual 196, 72, 34, 3, 5, [0, 0]) :: (.iinc 2 1, 75, 2, 1, 0, []) :: (.iinc 4 1, 78, 4, 1, 0, []) :: (.goto (-49), 81, 19, 0, 0, []) :: (.iinc 3 1, 84, 3, 1, 0, []) :: (.goto (-64), 87, 14, 0, 0, []) :: (.iload_n 2, 90, 2, 0, 0, []) :: (.ireturn, 91, 0, 0, 0, []) :: []
noncomputable def zp_X11_grasps_1 : List ECE := (.if_icmp .gt 64, 26, 46, 0, 0, []) :: (.iconst 0, 29, 0, 0, 0, []) :: (.istore 4, 30, 4, 0, 0, []) :: (.iload 4, 32, 4, 0, 0, []) :: (.bipush 9, 34, 9, 0, 0, []) :: (.if_icmp .gt 48, 36, 44, 0, 0, []) :: (.iload_n 1, 39, 1, 0, 0, []) :: (.iload_n 3, 40, 3, 0, 0, []) :: (.iload 4, 41, 4, 0, 0, []) :: (.invokestatic 365, 43, 189, 3, 0, [0, 0]) :: (.ifCond .eq 32, 46, 42, 0, 0, []) :: (.iload_n 1, 49, 1, 0, 0, []) :: (.iload 4, 50, 4, 0, 0, []) :: (.iload_n 3, 52, 3, 0, 0, []) :: (.invokestatic 365, 53, 189, 3, 0, [0, 0]) :: (.ifCond .eq 22, 56, 42, 0, 0, []) :: zp_X11_grasps_2
noncomputable def zp_X11_grasps_0 : List ECE := (.iload_n 1, 0, 1, 0, 0, []) :: (.iconst 0, 1, 0, 0, 0, []) :: (.bipush 18, 2, 18, 0, 0, []) :: (.invokestatic 111, 4, 191, 3, 0, [0, 0]) :: (.ifCond .ne 5, 7, 7, 0, 0, []) :: (.iconst (-1), 10, 4294967295, 0, 0, []) :: (.ireturn, 11, 0, 0, 0, []) :: (.iconst 0, 12, 0, 0, 0, []) :: (.istore_n 2, 13, 2, 0, 0, []) :: (.aload_n 0, 14, 0, 0, 0, []) :: (.getfield 19, 15, 11, 1, 0, []) :: (.invokevirtual 289, 18, 31, 1, 5, [0, 0]) :: (.iconst 0, 21, 0, 0, 0, []) :: (.istore_n 3, 22, 3, 0, 0, []) :: (.iload_n 3, 23, 3, 0, 0, []) :: (.bipush 9, 24, 9, 0, 0, []) :: zp_X11_grasps_1
noncomputable def zp_X11_grasps : List (List ECE) := [zp_X11_grasps_0, zp_X11_grasps_1, zp_X11_grasps_2]
noncomputable def zp_X11_years_2 : List ECE := (.invokevirtual 196, 61, 34, 3, 5, [0, 0]) :: (.iload_n 3, 64, 3, 0, 0, []) :: (.ireturn, 65, 0, 0, 0, []) :: []
noncomputable def zp_X11_years_1 : List ECE := (.aload_n 0, 31, 0, 0, 0, []) :: (.getfield 81, 32, 11, 11, 0, []) :: (.iload_n 1, 35, 1, 0, 0, []) :: (.iload_n 2, 36, 2, 0, 0, []) :: (.invokevirtual 368, 37, 120, 5, 11, [0, 0]) :: (.istore_n 3, 40, 3, 0, 0, []) :: (.aload_n 0, 41, 0, 0, 0, []) :: (.getfield 19, 42, 11, 1, 0, []) :: (.aload_n 0, 45, 0, 0, 0, []) :: (.getfield 33, 46, 11, 4, 0, []) :: (.invokevirtual 190, 49, 96, 1, 10, [0, 0]) :: (.i2l, 52, 0, 0, 0, []) :: (.aload_n 0, 53, 0, 0, 0, []) :: (.getfield 33, 54, 11, 4, 0, []) :: (.invokevirtual 193, 57, 107, 1, 10, [0, 0]) :: (.i2l, 60, 0, 0, 0, []) :: zp_X11_years_2
noncomputable def zp_X11_years_0 : List ECE := (.iload_n 2, 0, 2, 0, 0, []) :: (.iconst 1, 1, 1, 0, 0, []) :: (.bipush 60, 2, 60, 0, 0, []) :: (.invokestatic 111, 4, 191, 3, 0, [0, 0]) :: (.ifCond .ne 5, 7, 7, 0, 0, []) :: (.iconst (-1), 10, 4294967295, 0, 0, []) :: (.ireturn, 11, 0, 0, 0, []) :: (.aload_n 0, 12, 0, 0, 0, []) :: (.getfield 33, 13, 11, 4, 0, []) :: (.aload_n 0, 16, 0, 0, 0, []) :: (.getfield 26, 17, 11, 2, 0, []) :: (.invokevirtual 170, 20, 81, 2, 10, [0, 0]) :: (.aload_n 0, 23, 0, 0, 0, []) :: (.getfield 46, 24, 11, 6, 0, []) :: (.aload_n 0, 27, 0, 0, 0, []) :: (.getfield 33, 28, 11, 4, 0, []) :: zp_X11_years_1
noncomputable def zp_X11_years : List (List ECE) := [zp_X11_years_0, zp_X11_years_1, zp_X11_years_2]
noncomputable def zp_X11_keep_0 : List ECE := (.aload_n 0, 0, 0, 0, 0, []) :: (.getfield 39, 1, 11, 5, 0, []) :: (.iload_n 1, 4, 1, 0, 0, []) :: (.aload_n 0, 5, 0, 0, 0, []) :: (.getfield 26, 6, 11, 2, 0, []) :: (.invokevirtual 372, 9, 25, 3, 4, [0, 0]) :: (.ireturn, 12, 1, 0, 0, []) :: []
noncomputable def zp_X11_keep : List (List ECE) := [zp_X11_keep_0]
noncomputable def zp_X11_again_0 : List ECE := (.aload_n 0, 0, 0, 0, 0, []) :: (.getfield 39, 1, 11, 5, 0, []) :: (.iload_n 1, 4, 1, 0, 0, []) :: (.aload_n 0, 5, 0, 0, 0, []) :: (.getfield 26, 6, 11, 2, 0, []) :: (.invokevirtual 376, 9, 26, 3, 4, [0, 0]) :: (.ireturn, 12, 1, 0, 0, []) :: []
noncomputable def zp_X11_again : List (List ECE) := [zp_X11_again_0]
noncomputable def zp_X11_count_2 : List ECE := (.aload_n 0, 107, 0, 0, 0, []) :: (.getfield 26, 108, 11, 2, 0, []) :: (.invokevirtual 225, 111, 97, 1, 10, [0, 0]) :: (.ireturn, 114, 0, 0, 0, []) :: (.aload_n 0, 115, 0, 0, 0, []) :: (.iload_n 1, 116, 1, 0, 0, []) :: (.invokevirtual 385, 117, 180, 2, 12, [0, 0]) :: (.ireturn, 120, 0, 0, 0, []) :: []
noncomputable def zp_X11_count_1 : List ECE := (.aload_n 0, 75, 0, 0, 0, []) :: (.getfield 26, 76, 11, 2, 0, []) :: (.getfield 382, 79, 9, 8, 0, []) :: (.ireturn, 82, 0, 0, 0, []) :: (.aload_n 0, 83, 0, 0, 0, []) :: (.getfield 26, 84, 11, 2, 0, []) :: (.getfield 121, 87, 9, 5, 0, []) :: (.ireturn, 90, 0, 0, 0, []) :: (.aload_n 0, 91, 0, 0, 0, []) :: (.getfield 26, 92, 11, 2, 0, []) :: (.getfield 125, 95, 9, 6, 0, []) :: (.ireturn, 98, 0, 0, 0, []) :: (.aload_n 0, 99, 0, 0, 0, []) :: (.getfield 26, 100, 11, 2, 0, []) :: (.invokevirtual 190, 103, 96, 1, 10, [0, 0]) :: (.ireturn, 106, 0, 0, 0, []) :: zp_X11_count_2
noncomputable def zp_X11_count_0 : List ECE := (.iload_n 1, 0, 1, 0, 0, []) :: (.tableswitch 114 0 7 #[47, 55, 63, 74, 82, 90, 98, 106], 1, 36, 0, 0, [2147483648, 2, 2147483649, 6, 2147483650, 10, 2147483651, 16, 2147483652, 20, 2147483653, 24, 2147483654, 28, 2147483655, 32]) :: (.aload_n 0, 48, 0, 0, 0, []) :: (.getfield 26, 49, 11, 2, 0, []) :: (.getfield 379, 52, 9, 3, 0, []) :: (.ireturn, 55, 0, 0, 0, []) :: (.aload_n 0, 56, 0, 0, 0, []) :: (.getfield 26, 57, 11, 2, 0, []) :: (.getfield 160, 60, 9, 4, 0, []) :: (.ireturn, 63, 0, 0, 0, []) :: (.aload_n 0, 64, 0, 0, 0, []) :: (.getfield 26, 65, 11, 2, 0, []) :: (.getfield 257, 68, 9, 7, 0, []) :: (.bipush 10, 71, 10, 0, 0, []) :: (.iadd, 73, 0, 0, 0, []) :: (.ireturn, 74, 0, 0, 0, []) :: zp_X11_count_1
noncomputable def zp_X11_count : List (List ECE) := [zp_X11_count_0, zp_X11_count_1, zp_X11_count_2]
noncomputable def zp_X11_row_1 : List ECE := (.invokevirtual 391, 30, 30, 2, 5, [0, 0]) :: (.lreturn, 33, 0, 0, 0, []) :: []
noncomputable def zp_X11_row_0 : List ECE := (.iload_n 1, 0, 1, 0, 0, []) :: (.iconst 0, 1, 0, 0, 0, []) :: (.aload_n 0, 2, 0, 0, 0, []) :: (.getfield 19, 3, 11, 1, 0, []) :: (.invokevirtual 388, 6, 29, 1, 5, [0, 0]) :: (.iconst 1, 9, 1, 0, 0, []) :: (.isub, 10, 0, 0, 0, []) :: (.invokestatic 111, 11, 191, 3, 0, [0, 0]) :: (.ifCond .ne 11, 14, 13, 0, 0, []) :: (.nop, 17, 0, 0, 0, []) :: (.dup, 20, 0, 0, 0, []) :: (.nop, 21, 0, 0, 0, []) :: (.athrow, 24, 0, 0, 0, []) :: (.aload_n 0, 25, 0, 0, 0, []) :: (.getfield 19, 26, 11, 1, 0, []) :: (.iload_n 1, 29, 1, 0, 0, []) :: zp_X11_row_1
noncomputable def zp_X11_row : List (List ECE) := [zp_X11_row_0, zp_X11_row_1]
noncomputable def zp_X11_countKept_1 : List ECE := (.ireturn, 72, 0, 0, 0, []) :: (.aload_n 0, 73, 0, 0, 0, []) :: (.getfield 39, 74, 11, 5, 0, []) :: (.invokevirtual 396, 77, 21, 1, 4, [0, 0]) :: (.ireturn, 80, 0, 0, 0, []) :: (.aload_n 0, 81, 0, 0, 0, []) :: (.getfield 19, 82, 11, 1, 0, []) :: (.invokevirtual 388, 85, 29, 1, 5, [0, 0]) :: (.ireturn, 88, 0, 0, 0, []) :: (.aload_n 0, 89, 0, 0, 0, []) :: (.getfield 10, 90, 11, 0, 0, []) :: (.invokevirtual 397, 93, 52, 1, 7, [0, 0]) :: (.ireturn, 96, 0, 0, 0, []) :: (.bipush (-100), 97, 4294967196, 0, 0, []) :: (.ireturn, 99, 0, 0, 0, []) :: []
noncomputable def zp_X11_countKept_0 : List ECE := (.iload_n 1, 0, 1, 0, 0, []) :: (.tableswitch 96 8 13 #[39, 50, 61, 72, 80, 88], 1, 29, 0, 0, [2147483656, 2, 2147483657, 7, 2147483658, 12, 2147483659, 17, 2147483660, 21, 2147483661, 25]) :: (.aload_n 0, 40, 0, 0, 0, []) :: (.getfield 60, 41, 11, 8, 0, []) :: (.getfield 308, 44, 8, 0, 0, []) :: (.invokevirtual 395, 47, 15, 1, 3, [0, 0]) :: (.ireturn, 50, 0, 0, 0, []) :: (.aload_n 0, 51, 0, 0, 0, []) :: (.getfield 67, 52, 11, 9, 0, []) :: (.getfield 337, 55, 1, 0, 0, []) :: (.invokevirtual 395, 58, 15, 1, 3, [0, 0]) :: (.ireturn, 61, 0, 0, 0, []) :: (.aload_n 0, 62, 0, 0, 0, []) :: (.getfield 74, 63, 11, 10, 0, []) :: (.getfield 347, 66, 0, 0, 0, []) :: (.invokevirtual 395, 69, 15, 1, 3, [0, 0]) :: zp_X11_countKept_1
noncomputable def zp_X11_countKept : List (List ECE) := [zp_X11_countKept_0, zp_X11_countKept_1]
noncomputable def zp_X11_readLines_4 : List ECE := (.ireturn, 130, 0, 0, 0, []) :: []
noncomputable def zp_X11_readLines_3 : List ECE := (.getfield 26, 96, 11, 2, 0, []) :: (.aload_n 0, 99, 0, 0, 0, []) :: (.getfield 10, 100, 11, 0, 0, []) :: (.iload 6, 103, 6, 0, 0, []) :: (.invokevirtual 404, 105, 57, 2, 7, [0, 0]) :: (.invokevirtual 411, 108, 83, 2, 10, [0, 0]) :: (.iinc 6 2, 111, 6, 2, 0, []) :: (.goto (-49), 114, 34, 0, 0, []) :: (.aload_n 0, 117, 0, 0, 0, []) :: (.getfield 39, 118, 11, 5, 0, []) :: (.invokevirtual 414, 121, 27, 1, 4, [0, 0]) :: (.iload 4, 124, 4, 0, 0, []) :: (.iconst 1, 126, 1, 0, 0, []) :: (.iadd, 127, 0, 0, 0, []) :: (.iconst 2, 128, 2, 0, 0, []) :: (.idiv, 129, 0, 0, 0, []) :: zp_X11_readLines_4
noncomputable def zp_X11_readLines_2 : List ECE := (.iconst 0, 62, 0, 0, 0, []) :: (.istore 6, 63, 6, 0, 0, []) :: (.iload 6, 65, 6, 0, 0, []) :: (.iload 4, 67, 4, 0, 0, []) :: (.if_icmp .ge 48, 69, 56, 0, 0, []) :: (.iload_n 3, 72, 3, 0, 0, []) :: (.ifCond .eq 22, 73, 47, 0, 0, []) :: (.aload_n 0, 76, 0, 0, 0, []) :: (.getfield 26, 77, 11, 2, 0, []) :: (.aload_n 0, 80, 0, 0, 0, []) :: (.getfield 10, 81, 11, 0, 0, []) :: (.iload 6, 84, 6, 0, 0, []) :: (.invokevirtual 404, 86, 57, 2, 7, [0, 0]) :: (.invokevirtual 407, 89, 82, 2, 10, [0, 0]) :: (.goto 19, 92, 54, 0, 0, []) :: (.aload_n 0, 95, 0, 0, 0, []) :: zp_X11_readLines_3
noncomputable def zp_X11_readLines_1 : List ECE := (.aload_n 0, 29, 0, 0, 0, []) :: (.getfield 26, 30, 11, 2, 0, []) :: (.getfield 379, 33, 9, 3, 0, []) :: (.goto 10, 36, 23, 0, 0, []) :: (.aload_n 0, 39, 0, 0, 0, []) :: (.getfield 26, 40, 11, 2, 0, []) :: (.getfield 160, 43, 9, 4, 0, []) :: (.isub, 46, 0, 0, 0, []) :: (.invokevirtual 400, 47, 58, 5, 7, [0, 0]) :: (.istore 5, 50, 5, 0, 0, []) :: (.iload 5, 52, 5, 0, 0, []) :: (.ifCond .lt 8, 54, 32, 0, 0, []) :: (.iconst (-1), 57, 4294967295, 0, 0, []) :: (.iload 5, 58, 5, 0, 0, []) :: (.isub, 60, 0, 0, 0, []) :: (.ireturn, 61, 0, 0, 0, []) :: zp_X11_readLines_2
noncomputable def zp_X11_readLines_0 : List ECE := (.aload_n 0, 0, 0, 0, 0, []) :: (.getfield 10, 1, 11, 0, 0, []) :: (.invokevirtual 100, 4, 55, 1, 7, [0, 0]) :: (.istore 4, 7, 4, 0, 0, []) :: (.iload 4, 9, 4, 0, 0, []) :: (.ifCond .ne 5, 11, 8, 0, 0, []) :: (.iconst 0, 14, 0, 0, 0, []) :: (.ireturn, 15, 0, 0, 0, []) :: (.aload_n 0, 16, 0, 0, 0, []) :: (.getfield 10, 17, 11, 0, 0, []) :: (.iload 4, 20, 4, 0, 0, []) :: (.iload_n 1, 22, 1, 0, 0, []) :: (.iload_n 2, 23, 2, 0, 0, []) :: (.iconst 5, 24, 5, 0, 0, []) :: (.iload_n 3, 25, 3, 0, 0, []) :: (.ifCond .eq 13, 26, 20, 0, 0, []) :: zp_X11_readLines_1
noncomputable def zp_X11_readLines : List (List ECE) := [zp_X11_readLines_0, zp_X11_readLines_1, zp_X11_readLines_2, zp_X11_readLines_3, zp_X11_readLines_4]
noncomputable def zp_X11_noted_0 : List ECE := (.iload_n 1, 0, 1, 0, 0, []) :: (.ifCond .lt 14, 1, 7, 0, 0, []) :: (.aload_n 0, 4, 0, 0, 0, []) :: (.getfield 39, 5, 11, 5, 0, []) :: (.aload_n 0, 8, 0, 0, 0, []) :: (.getfield 30, 9, 11, 3, 0, []) :: (.invokevirtual 222, 12, 22, 2, 4, [0, 0]) :: (.iload_n 1, 15, 1, 0, 0, []) :: (.ireturn, 16, 0, 0, 0, []) :: []
noncomputable def zp_X11_noted : List (List ECE) := [zp_X11_noted_0]
noncomputable def zp_X11_dreamOf_0 : List ECE := (.aload_n 0, 0, 0, 0, 0, []) :: (.getfield 33, 1, 11, 4, 0, []) :: (.aload_n 0, 4, 0, 0, 0, []) :: (.getfield 26, 5, 11, 2, 0, []) :: (.invokevirtual 170, 8, 81, 2, 10, [0, 0]) :: (.aload_n 0, 11, 0, 0, 0, []) :: (.getfield 46, 12, 11, 6, 0, []) :: (.aload_n 0, 15, 0, 0, 0, []) :: (.getfield 33, 16, 11, 4, 0, []) :: (.aload_n 1, 19, 1, 0, 0, []) :: (.iload_n 2, 20, 2, 0, 0, []) :: (.invokevirtual 186, 21, 119, 4, 11, [0, 0]) :: (.pop, 24, 0, 0, 0, []) :: (.return_, 25, 0, 0, 0, []) :: []
noncomputable def zp_X11_dreamOf : List (List ECE) := [zp_X11_dreamOf_0]
noncomputable def zp_X11_winningHandful_1 : List ECE := (.lconst 1, 25, 1, 0, 0, []) :: (.iload 4, 26, 4, 0, 0, []) :: (.lshl, 28, 0, 0, 0, []) :: (.goto 4, 29, 21, 0, 0, []) :: (.lconst 0, 32, 0, 0, 0, []) :: (.lor, 33, 0, 0, 0, []) :: (.lstore_n 1, 34, 1, 0, 0, []) :: (.iinc 4 1, 35, 4, 1, 0, []) :: (.goto (-31), 38, 6, 0, 0, []) :: (.iload_n 3, 41, 3, 0, 0, []) :: (.ireturn, 42, 0, 0, 0, []) :: []
noncomputable def zp_X11_winningHandful_0 : List ECE := (.lconst 0, 0, 0, 0, 0, []) :: (.lstore_n 1, 1, 1, 0, 0, []) :: (.iconst 0, 2, 0, 0, 0, []) :: (.istore_n 3, 3, 3, 0, 0, []) :: (.iconst 0, 4, 0, 0, 0, []) :: (.istore 4, 5, 4, 0, 0, []) :: (.iload 4, 7, 4, 0, 0, []) :: (.iload_n 0, 9, 0, 0, 0, []) :: (.if_icmp .gt 31, 10, 25, 0, 0, []) :: (.iload 4, 13, 4, 0, 0, []) :: (.lload_n 1, 15, 1, 0, 0, []) :: (.invokestatic 423, 16, 188, 2, 0, [0, 0]) :: (.istore_n 3, 19, 3, 0, 0, []) :: (.lload_n 1, 20, 1, 0, 0, []) :: (.iload_n 3, 21, 3, 0, 0, []) :: (.ifCond .ne 10, 22, 20, 0, 0, []) :: zp_X11_winningHandful_1
noncomputable def zp_X11_winningHandful : List (List ECE) := [zp_X11_winningHandful_0, zp_X11_winningHandful_1]
noncomputable def zp_X11_handfulOutOf_1 : List ECE := (.lconst 0, 18, 0, 0, 0, []) :: (.lcmp, 19, 0, 0, 0, []) :: (.ifCond .eq 7, 20, 23, 0, 0, []) :: (.iload_n 3, 23, 3, 0, 0, []) :: (.iload_n 3, 24, 3, 0, 0, []) :: (.imul, 25, 0, 0, 0, []) :: (.ireturn, 26, 0, 0, 0, []) :: (.iinc 3 1, 27, 3, 1, 0, []) :: (.goto (-28), 30, 2, 0, 0, []) :: (.iconst 0, 33, 0, 0, 0, []) :: (.ireturn, 34, 0, 0, 0, []) :: []
noncomputable def zp_X11_handfulOutOf_0 : List ECE := (.iconst 1, 0, 1, 0, 0, []) :: (.istore_n 3, 1, 3, 0, 0, []) :: (.iload_n 3, 2, 3, 0, 0, []) :: (.iload_n 3, 3, 3, 0, 0, []) :: (.imul, 4, 0, 0, 0, []) :: (.iload_n 0, 5, 0, 0, 0, []) :: (.if_icmp .gt 27, 6, 25, 0, 0, []) :: (.lload_n 1, 9, 1, 0, 0, []) :: (.iload_n 0, 10, 0, 0, 0, []) :: (.iload_n 3, 11, 3, 0, 0, []) :: (.iload_n 3, 12, 3, 0, 0, []) :: (.imul, 13, 0, 0, 0, []) :: (.isub, 14, 0, 0, 0, []) :: (.lshr, 15, 0, 0, 0, []) :: (.lconst 1, 16, 1, 0, 0, []) :: (.land, 17, 0, 0, 0, []) :: zp_X11_handfulOutOf_1
noncomputable def zp_X11_handfulOutOf : List (List ECE) := [zp_X11_handfulOutOf_0, zp_X11_handfulOutOf_1]
noncomputable def zp_X11_isContent_1 : List ECE := (.iinc 3 1, 25, 3, 1, 0, []) :: (.goto (-26), 28, 2, 0, 0, []) :: (.iconst 1, 31, 1, 0, 0, []) :: (.ireturn, 32, 1, 0, 0, []) :: []
noncomputable def zp_X11_isContent_0 : List ECE := (.iconst 0, 0, 0, 0, 0, []) :: (.istore_n 3, 1, 3, 0, 0, []) :: (.iload_n 3, 2, 3, 0, 0, []) :: (.bipush 9, 3, 9, 0, 0, []) :: (.if_icmp .gt 26, 5, 18, 0, 0, []) :: (.iload_n 0, 8, 0, 0, 0, []) :: (.iload_n 3, 9, 3, 0, 0, []) :: (.iload_n 2, 10, 2, 0, 0, []) :: (.invokestatic 427, 11, 190, 3, 0, [0, 0]) :: (.iload_n 0, 14, 0, 0, 0, []) :: (.iload_n 1, 15, 1, 0, 0, []) :: (.iload_n 2, 16, 2, 0, 0, []) :: (.invokestatic 427, 17, 190, 3, 0, [0, 0]) :: (.if_icmp .le 5, 20, 16, 0, 0, []) :: (.iconst 0, 23, 0, 0, 0, []) :: (.ireturn, 24, 1, 0, 0, []) :: zp_X11_isContent_1
noncomputable def zp_X11_isContent : List (List ECE) := [zp_X11_isContent_0, zp_X11_isContent_1]
noncomputable def zp_X11_grasped_1 : List ECE := (.ireturn, 22, 0, 0, 0, []) :: []
noncomputable def zp_X11_grasped_0 : List ECE := (.iload_n 1, 0, 1, 0, 0, []) :: (.iload_n 2, 1, 2, 0, 0, []) :: (.iadd, 2, 0, 0, 0, []) :: (.iload_n 0, 3, 0, 0, 0, []) :: (.if_icmp .gt 9, 4, 9, 0, 0, []) :: (.iconst 2, 7, 2, 0, 0, []) :: (.iload_n 1, 8, 1, 0, 0, []) :: (.imul, 9, 0, 0, 0, []) :: (.goto 12, 10, 16, 0, 0, []) :: (.iconst 0, 13, 0, 0, 0, []) :: (.iload_n 0, 14, 0, 0, 0, []) :: (.iload_n 2, 15, 2, 0, 0, []) :: (.isub, 16, 0, 0, 0, []) :: (.iconst 3, 17, 3, 0, 0, []) :: (.isub, 18, 0, 0, 0, []) :: (.invokestatic 286, 19, 325, 2, 0, [0, 0]) :: zp_X11_grasped_1
noncomputable def zp_X11_grasped : List (List ECE) := [zp_X11_grasped_0, zp_X11_grasped_1]
noncomputable def zp_X11_isWithin_0 : List ECE := (.iload_n 0, 0, 0, 0, 0, []) :: (.iload_n 1, 1, 1, 0, 0, []) :: (.if_icmp .lt 12, 2, 8, 0, 0, []) :: (.iload_n 0, 5, 0, 0, 0, []) :: (.iload_n 2, 6, 2, 0, 0, []) :: (.if_icmp .gt 7, 7, 8, 0, 0, []) :: (.iconst 1, 10, 1, 0, 0, []) :: (.goto 4, 11, 9, 0, 0, []) :: (.iconst 0, 14, 0, 0, 0, []) :: (.ireturn, 15, 1, 0, 0, []) :: []
noncomputable def zp_X11_isWithin : List (List ECE) := [zp_X11_isWithin_0]
noncomputable def zp_X12_in_0 : List ECE := (.lload_n 0, 0, 0, 0, 0, []) :: (.lload_n 2, 1, 2, 0, 0, []) :: (.lcmp, 2, 0, 0, 0, []) :: (.ifCond .lt 14, 3, 10, 0, 0, []) :: (.lload_n 0, 6, 0, 0, 0, []) :: (.lload 4, 7, 4, 0, 0, []) :: (.lcmp, 9, 0, 0, 0, []) :: (.ifCond .gt 7, 10, 10, 0, 0, []) :: (.iconst 1, 13, 1, 0, 0, []) :: (.goto 4, 14, 11, 0, 0, []) :: (.iconst 0, 17, 0, 0, 0, []) :: (.ireturn, 18, 1, 0, 0, []) :: []
noncomputable def zp_X12_in : List (List ECE) := [zp_X12_in_0]
noncomputable def zp_X12_has_0 : List ECE := (.iload_n 0, 0, 0, 0, 0, []) :: (.iload_n 1, 1, 1, 0, 0, []) :: (.ishr, 2, 0, 0, 0, []) :: (.iconst 1, 3, 1, 0, 0, []) :: (.iand, 4, 0, 0, 0, []) :: (.iconst 1, 5, 1, 0, 0, []) :: (.if_icmp .ne 7, 6, 9, 0, 0, []) :: (.iconst 1, 9, 1, 0, 0, []) :: (.goto 4, 10, 10, 0, 0, []) :: (.iconst 0, 13, 0, 0, 0, []) :: (.ireturn, 14, 1, 0, 0, []) :: []
noncomputable def zp_X12_has : List (List ECE) := [zp_X12_has_0]
noncomputable def zp_X12_flag_0 : List ECE := (.iload_n 0, 0, 0, 0, 0, []) :: (.ifCond .eq 7, 1, 4, 0, 0, []) :: (.iconst 1, 4, 1, 0, 0, []) :: (.goto 4, 5, 5, 0, 0, []) :: (.iconst 0, 8, 0, 0, 0, []) :: (.ireturn, 9, 0, 0, 0, []) :: []
noncomputable def zp_X12_flag : List (List ECE) := [zp_X12_flag_0]
noncomputable def zp_X12_enters_0 : List ECE := (.aload_n 0, 0, 0, 0, 0, []) :: (.getfield 11, 1, 12, 2, 0, []) :: (.aload_n 0, 4, 0, 0, 0, []) :: (.getfield 15, 5, 12, 1, 0, []) :: (.lload_n 1, 8, 1, 0, 0, []) :: (.lastore, 9, 0, 0, 0, []) :: (.aload_n 0, 10, 0, 0, 0, []) :: (.dup, 11, 0, 0, 0, []) :: (.getfield 15, 12, 12, 1, 0, []) :: (.iconst 1, 15, 1, 0, 0, []) :: (.iadd, 16, 0, 0, 0, []) :: (.putfield 15, 17, 12, 1, 0, []) :: (.return_, 20, 0, 0, 0, []) :: []
noncomputable def zp_X12_enters : List (List ECE) := [zp_X12_enters_0]
noncomputable def zp_X12_init_8 : List ECE := (.iload_n 1, 249, 1, 0, 0, []) :: (.bipush 20, 250, 20, 0, 0, []) :: (.if_icmp .ge 17, 252, 138, 0, 0, []) :: (.aload_n 0, 255, 0, 0, 0, []) :: (.getfield 32, 256, 12, 7, 0, []) :: (.iload_n 1, 259, 1, 0, 0, []) :: (.bipush 20, 260, 20, 0, 0, []) :: (.iastore, 262, 0, 0, 0, []) :: (.iinc 1 1, 263, 1, 1, 0, []) :: (.goto (-17), 266, 128, 0, 0, []) :: (.aload_n 0, 269, 0, 0, 0, []) :: (.getfield 32, 270, 12, 7, 0, []) :: (.bipush 27, 273, 27, 0, 0, []) :: (.iconst 1, 275, 1, 0, 0, []) :: (.iastore, 276, 0, 0, 0, []) :: (.return_, 277, 0, 0, 0, []) :: []
noncomputable def zp_X12_init_7 : List ECE := (.newarray .int, 220, 100, 0, 0, []) :: (.putfield 107, 222, 12, 45, 2, []) :: (.aload_n 0, 225, 0, 0, 0, []) :: (.iconst 3, 226, 3, 0, 0, []) :: (.newarray .boolean, 227, 104, 0, 0, []) :: (.putfield 110, 229, 12, 47, 2, []) :: (.aload_n 0, 232, 0, 0, 0, []) :: (.iconst 3, 233, 3, 0, 0, []) :: (.newarray .int, 234, 100, 0, 0, []) :: (.putfield 114, 236, 12, 48, 2, []) :: (.aload_n 0, 239, 0, 0, 0, []) :: (.bipush 87, 240, 87, 0, 0, []) :: (.newarray .int, 242, 100, 0, 0, []) :: (.putfield 117, 244, 12, 49, 2, []) :: (.iconst 0, 247, 0, 0, 0, []) :: (.istore_n 1, 248, 1, 0, 0, []) :: zp_X12_init_8
noncomputable def zp_X12_init_6 : List ECE := (.newarray .int, 188, 100, 0, 0, []) :: (.putfield 95, 190, 12, 41, 2, []) :: (.aload_n 0, 193, 0, 0, 0, []) :: (.bipush 10, 194, 10, 0, 0, []) :: (.newarray .int, 196, 100, 0, 0, []) :: (.putfield 98, 198, 12, 42, 2, []) :: (.aload_n 0, 201, 0, 0, 0, []) :: (.bipush 41, 202, 41, 0, 0, []) :: (.newarray .int, 204, 100, 0, 0, []) :: (.putfield 101, 206, 12, 43, 2, []) :: (.aload_n 0, 209, 0, 0, 0, []) :: (.bipush 61, 210, 61, 0, 0, []) :: (.newarray .int, 212, 100, 0, 0, []) :: (.putfield 104, 214, 12, 44, 2, []) :: (.aload_n 0, 217, 0, 0, 0, []) :: (.bipush 80, 218, 80, 0, 0, []) :: zp_X12_init_7
noncomputable def zp_X12_init_5 : List ECE := (.newarray .int, 156, 100, 0, 0, []) :: (.putfield 83, 158, 12, 35, 2, []) :: (.aload_n 0, 161, 0, 0, 0, []) :: (.bipush 12, 162, 12, 0, 0, []) :: (.newarray .int, 164, 100, 0, 0, []) :: (.putfield 86, 166, 12, 37, 2, []) :: (.aload_n 0, 169, 0, 0, 0, []) :: (.bipush 12, 170, 12, 0, 0, []) :: (.newarray .int, 172, 100, 0, 0, []) :: (.putfield 89, 174, 12, 38, 2, []) :: (.aload_n 0, 177, 0, 0, 0, []) :: (.bipush 10, 178, 10, 0, 0, []) :: (.newarray .int, 180, 100, 0, 0, []) :: (.putfield 92, 182, 12, 40, 2, []) :: (.aload_n 0, 185, 0, 0, 0, []) :: (.bipush 10, 186, 10, 0, 0, []) :: zp_X12_init_6
noncomputable def zp_X12_init_4 : List ECE := (.newarray .int, 126, 100, 0, 0, []) :: (.putfield 71, 128, 12, 28, 2, []) :: (.aload_n 0, 131, 0, 0, 0, []) :: (.iconst 5, 132, 5, 0, 0, []) :: (.newarray .int, 133, 100, 0, 0, []) :: (.putfield 74, 135, 12, 30, 2, []) :: (.aload_n 0, 138, 0, 0, 0, []) :: (.iconst 5, 139, 5, 0, 0, []) :: (.newarray .int, 140, 100, 0, 0, []) :: (.putfield 77, 142, 12, 31, 2, []) :: (.aload_n 0, 145, 0, 0, 0, []) :: (.bipush 10, 146, 10, 0, 0, []) :: (.newarray .int, 148, 100, 0, 0, []) :: (.putfield 80, 150, 12, 34, 2, []) :: (.aload_n 0, 153, 0, 0, 0, []) :: (.bipush 10, 154, 10, 0, 0, []) :: zp_X12_init_5
noncomputable def zp_X12_init_3 : List ECE := (.newarray .int, 94, 100, 0, 0, []) :: (.putfield 59, 96, 12, 24, 2, []) :: (.aload_n 0, 99, 0, 0, 0, []) :: (.bipush 60, 100, 60, 0, 0, []) :: (.newarray .int, 102, 100, 0, 0, []) :: (.putfield 62, 104, 12, 25, 2, []) :: (.aload_n 0, 107, 0, 0, 0, []) :: (.bipush 60, 108, 60, 0, 0, []) :: (.newarray .int, 110, 100, 0, 0, []) :: (.putfield 65, 112, 12, 26, 2, []) :: (.aload_n 0, 115, 0, 0, 0, []) :: (.bipush 60, 116, 60, 0, 0, []) :: (.newarray .int, 118, 100, 0, 0, []) :: (.putfield 68, 120, 12, 27, 2, []) :: (.aload_n 0, 123, 0, 0, 0, []) :: (.bipush 60, 124, 60, 0, 0, []) :: zp_X12_init_4
noncomputable def zp_X12_init_2 : List ECE := (.newarray .int, 61, 100, 0, 0, []) :: (.putfield 47, 63, 12, 17, 2, []) :: (.aload_n 0, 66, 0, 0, 0, []) :: (.bipush 80, 67, 80, 0, 0, []) :: (.newarray .int, 69, 100, 0, 0, []) :: (.putfield 50, 71, 12, 20, 2, []) :: (.aload_n 0, 74, 0, 0, 0, []) :: (.bipush 7, 75, 7, 0, 0, []) :: (.newarray .int, 77, 100, 0, 0, []) :: (.putfield 53, 79, 12, 21, 2, []) :: (.aload_n 0, 82, 0, 0, 0, []) :: (.sipush 464, 83, 464, 0, 0, []) :: (.newarray .int, 86, 100, 0, 0, []) :: (.putfield 56, 88, 12, 23, 2, []) :: (.aload_n 0, 91, 0, 0, 0, []) :: (.bipush 20, 92, 20, 0, 0, []) :: zp_X12_init_3
noncomputable def zp_X12_init_1 : List ECE := (.newarray .int, 30, 100, 0, 0, []) :: (.putfield 35, 32, 12, 8, 2, []) :: (.aload_n 0, 35, 0, 0, 0, []) :: (.bipush 80, 36, 80, 0, 0, []) :: (.newarray .int, 38, 100, 0, 0, []) :: (.putfield 38, 40, 12, 9, 2, []) :: (.aload_n 0, 43, 0, 0, 0, []) :: (.iconst 5, 44, 5, 0, 0, []) :: (.newarray .int, 45, 100, 0, 0, []) :: (.putfield 41, 47, 12, 14, 2, []) :: (.aload_n 0, 50, 0, 0, 0, []) :: (.bipush 80, 51, 80, 0, 0, []) :: (.newarray .int, 53, 100, 0, 0, []) :: (.putfield 44, 55, 12, 16, 2, []) :: (.aload_n 0, 58, 0, 0, 0, []) :: (.bipush 80, 59, 80, 0, 0, []) :: zp_X12_init_2
noncomputable def zp_X12_init_0 : List ECE := (.aload_n 0, 0, 0, 0, 0, []) :: (.invokespecial 22, 1, 0, 0, 0, []) :: (.aload_n 0, 4, 0, 0, 0, []) :: (.bipush 24, 5, 24, 0, 0, []) :: (.newarray .long, 7, 150, 3, 0, []) :: (.putfield 11, 9, 12, 2, 2, []) :: (.aload_n 0, 12, 0, 0, 0, []) :: (.iconst 5, 13, 5, 0, 0, []) :: (.newarray .int, 14, 100, 0, 0, []) :: (.putfield 28, 16, 12, 6, 2, []) :: (.aload_n 0, 19, 0, 0, 0, []) :: (.bipush 29, 20, 29, 0, 0, []) :: (.newarray .int, 22, 100, 0, 0, []) :: (.putfield 32, 24, 12, 7, 2, []) :: (.aload_n 0, 27, 0, 0, 0, []) :: (.bipush 29, 28, 29, 0, 0, []) :: zp_X12_init_1
noncomputable def zp_X12_init : List (List ECE) := [zp_X12_init_0, zp_X12_init_1, zp_X12_init_2, zp_X12_init_3, zp_X12_init_4, zp_X12_init_5, zp_X12_init_6, zp_X12_init_7, zp_X12_init_8]
noncomputable def zp_X12_isLaw_0 : List ECE := (.iload_n 1, 0, 1, 0, 0, []) :: (.i2l, 1, 0, 0, 0, []) :: (.lconst 0, 2, 0, 0, 0, []) :: (.aload_n 0, 3, 0, 0, 0, []) :: (.getfield 120, 4, 12, 3, 0, []) :: (.iconst 1, 7, 1, 0, 0, []) :: (.isub, 8, 0, 0, 0, []) :: (.i2l, 9, 0, 0, 0, []) :: (.invokestatic 123, 10, 196, 3, 0, [0, 0]) :: (.ireturn, 13, 1, 0, 0, []) :: []
noncomputable def zp_X12_isLaw : List (List ECE) := [zp_X12_isLaw_0]
noncomputable def zp_X12_isBit_1 : List ECE := (.iconst 1, 26, 1, 0, 0, []) :: (.goto 4, 27, 19, 0, 0, []) :: (.iconst 0, 30, 0, 0, 0, []) :: (.ireturn, 31, 1, 0, 0, []) :: []
noncomputable def zp_X12_isBit_0 : List ECE := (.aload_n 0, 0, 0, 0, 0, []) :: (.iload_n 1, 1, 1, 0, 0, []) :: (.invokevirtual 127, 2, 203, 2, 13, [0, 0]) :: (.ifCond .eq 25, 5, 18, 0, 0, []) :: (.iload_n 2, 8, 2, 0, 0, []) :: (.i2l, 9, 0, 0, 0, []) :: (.lconst 0, 10, 0, 0, 0, []) :: (.aload_n 0, 11, 0, 0, 0, []) :: (.getfield 28, 12, 12, 6, 0, []) :: (.iload_n 1, 15, 1, 0, 0, []) :: (.iaload, 16, 0, 0, 0, []) :: (.iconst 1, 17, 1, 0, 0, []) :: (.isub, 18, 0, 0, 0, []) :: (.i2l, 19, 0, 0, 0, []) :: (.invokestatic 123, 20, 196, 3, 0, [0, 0]) :: (.ifCond .eq 7, 23, 18, 0, 0, []) :: zp_X12_isBit_1
noncomputable def zp_X12_isBit : List (List ECE) := [zp_X12_isBit_0, zp_X12_isBit_1]
noncomputable def zp_X12_isOne_0 : List ECE := (.iload_n 1, 0, 1, 0, 0, []) :: (.i2l, 1, 0, 0, 0, []) :: (.lconst 0, 2, 0, 0, 0, []) :: (.aload_n 0, 3, 0, 0, 0, []) :: (.getfield 131, 4, 12, 4, 0, []) :: (.iconst 1, 7, 1, 0, 0, []) :: (.isub, 8, 0, 0, 0, []) :: (.i2l, 9, 0, 0, 0, []) :: (.invokestatic 123, 10, 196, 3, 0, [0, 0]) :: (.ireturn, 13, 1, 0, 0, []) :: []
noncomputable def zp_X12_isOne : List (List ECE) := [zp_X12_isOne_0]
noncomputable def zp_X12_all_0 : List ECE := (.iconst 1, 0, 1, 0, 0, []) :: (.aload_n 0, 1, 0, 0, 0, []) :: (.getfield 131, 2, 12, 4, 0, []) :: (.ishl, 5, 0, 0, 0, []) :: (.iconst 1, 6, 1, 0, 0, []) :: (.isub, 7, 0, 0, 0, []) :: (.ireturn, 8, 0, 0, 0, []) :: []
noncomputable def zp_X12_all : List (List ECE) := [zp_X12_all_0]
noncomputable def zp_X12_lies_0 : List ECE := (.aload_n 0, 0, 0, 0, 0, []) :: (.iload_n 1, 1, 1, 0, 0, []) :: (.iaload, 2, 0, 0, 0, []) :: (.bipush 8, 3, 8, 0, 0, []) :: (.if_icmp .ge 7, 5, 7, 0, 0, []) :: (.iconst 1, 8, 1, 0, 0, []) :: (.goto 4, 9, 8, 0, 0, []) :: (.iconst 0, 12, 0, 0, 0, []) :: (.ireturn, 13, 1, 0, 0, []) :: []
noncomputable def zp_X12_lies : List (List ECE) := [zp_X12_lies_0]
noncomputable def zp_X12_heldMany_1 : List ECE := (.iload_n 2, 26, 2, 0, 0, []) :: (.ireturn, 27, 0, 0, 0, []) :: []
noncomputable def zp_X12_heldMany_0 : List ECE := (.iconst 0, 0, 0, 0, 0, []) :: (.istore_n 2, 1, 2, 0, 0, []) :: (.iconst 0, 2, 0, 0, 0, []) :: (.istore_n 3, 3, 3, 0, 0, []) :: (.iload_n 3, 4, 3, 0, 0, []) :: (.aload_n 0, 5, 0, 0, 0, []) :: (.getfield 131, 6, 12, 4, 0, []) :: (.if_icmp .ge 17, 9, 16, 0, 0, []) :: (.iload_n 2, 12, 2, 0, 0, []) :: (.aload_n 1, 13, 1, 0, 0, []) :: (.iload_n 3, 14, 3, 0, 0, []) :: (.invokestatic 146, 15, 210, 2, 0, [0, 0]) :: (.iadd, 18, 0, 0, 0, []) :: (.istore_n 2, 19, 2, 0, 0, []) :: (.iinc 3 1, 20, 3, 1, 0, []) :: (.goto (-19), 23, 4, 0, 0, []) :: zp_X12_heldMany_1
noncomputable def zp_X12_heldMany : List (List ECE) := [zp_X12_heldMany_0, zp_X12_heldMany_1]
noncomputable def zp_X12_lieMany_1 : List ECE := (.iload_n 1, 27, 1, 0, 0, []) :: (.ireturn, 28, 0, 0, 0, []) :: []
noncomputable def zp_X12_lieMany_0 : List ECE := (.iconst 0, 0, 0, 0, 0, []) :: (.istore_n 1, 1, 1, 0, 0, []) :: (.iconst 0, 2, 0, 0, 0, []) :: (.istore_n 2, 3, 2, 0, 0, []) :: (.iload_n 2, 4, 2, 0, 0, []) :: (.bipush 20, 5, 20, 0, 0, []) :: (.if_icmp .ge 20, 7, 16, 0, 0, []) :: (.iload_n 1, 10, 1, 0, 0, []) :: (.aload_n 0, 11, 0, 0, 0, []) :: (.iload_n 2, 12, 2, 0, 0, []) :: (.invokestatic 150, 13, 207, 2, 0, [0, 0]) :: (.invokestatic 138, 16, 198, 1, 0, [0, 0]) :: (.iadd, 19, 0, 0, 0, []) :: (.istore_n 1, 20, 1, 0, 0, []) :: (.iinc 2 1, 21, 2, 1, 0, []) :: (.goto (-20), 24, 4, 0, 0, []) :: zp_X12_lieMany_1
noncomputable def zp_X12_lieMany : List (List ECE) := [zp_X12_lieMany_0, zp_X12_lieMany_1]
noncomputable def zp_X12_rights_1 : List ECE := (.aload_n 1, 26, 1, 0, 0, []) :: (.iload_n 3, 27, 3, 0, 0, []) :: (.iload 4, 28, 4, 0, 0, []) :: (.invokevirtual 154, 30, 213, 4, 13, [0, 0]) :: (.invokestatic 138, 33, 198, 1, 0, [0, 0]) :: (.iadd, 36, 0, 0, 0, []) :: (.istore_n 2, 37, 2, 0, 0, []) :: (.iinc 4 1, 38, 4, 1, 0, []) :: (.goto (-26), 41, 10, 0, 0, []) :: (.iinc 3 1, 44, 3, 1, 0, []) :: (.goto (-43), 47, 4, 0, 0, []) :: (.iload_n 2, 50, 2, 0, 0, []) :: (.ireturn, 51, 0, 0, 0, []) :: []
noncomputable def zp_X12_rights_0 : List ECE := (.iconst 0, 0, 0, 0, 0, []) :: (.istore_n 2, 1, 2, 0, 0, []) :: (.iconst 0, 2, 0, 0, 0, []) :: (.istore_n 3, 3, 3, 0, 0, []) :: (.iload_n 3, 4, 3, 0, 0, []) :: (.aload_n 0, 5, 0, 0, 0, []) :: (.getfield 120, 6, 12, 3, 0, []) :: (.if_icmp .ge 41, 9, 27, 0, 0, []) :: (.iconst 0, 12, 0, 0, 0, []) :: (.istore 4, 13, 4, 0, 0, []) :: (.iload 4, 15, 4, 0, 0, []) :: (.aload_n 0, 17, 0, 0, 0, []) :: (.getfield 131, 18, 12, 4, 0, []) :: (.if_icmp .ge 23, 21, 25, 0, 0, []) :: (.iload_n 2, 24, 2, 0, 0, []) :: (.aload_n 0, 25, 0, 0, 0, []) :: zp_X12_rights_1
noncomputable def zp_X12_rights : List (List ECE) := [zp_X12_rights_0, zp_X12_rights_1]
noncomputable def zp_X12_copies_0 : List ECE := (.iconst 0, 0, 0, 0, 0, []) :: (.istore_n 2, 1, 2, 0, 0, []) :: (.iload_n 2, 2, 2, 0, 0, []) :: (.bipush 29, 3, 29, 0, 0, []) :: (.if_icmp .ge 15, 5, 13, 0, 0, []) :: (.aload_n 0, 8, 0, 0, 0, []) :: (.iload_n 2, 9, 2, 0, 0, []) :: (.aload_n 1, 10, 1, 0, 0, []) :: (.iload_n 2, 11, 2, 0, 0, []) :: (.iaload, 12, 0, 0, 0, []) :: (.iastore, 13, 0, 0, 0, []) :: (.iinc 2 1, 14, 2, 1, 0, []) :: (.goto (-15), 17, 2, 0, 0, []) :: (.return_, 20, 0, 0, 0, []) :: []
noncomputable def zp_X12_copies : List (List ECE) := [zp_X12_copies_0]
noncomputable def zp_X12_sign_2 : List ECE := (.aload_n 0, 53, 0, 0, 0, []) :: (.dup, 54, 0, 0, 0, []) :: (.getfield 157, 55, 12, 10, 0, []) :: (.iconst 4, 58, 4, 0, 0, []) :: (.iadd, 59, 0, 0, 0, []) :: (.putfield 157, 60, 12, 10, 0, []) :: (.aload_n 0, 63, 0, 0, 0, []) :: (.getfield 157, 64, 12, 10, 0, []) :: (.ireturn, 67, 0, 0, 0, []) :: []
noncomputable def zp_X12_sign_1 : List ECE := (.aload_n 0, 27, 0, 0, 0, []) :: (.getfield 157, 28, 12, 10, 0, []) :: (.iload_n 2, 31, 2, 0, 0, []) :: (.iadd, 32, 0, 0, 0, []) :: (.iload_n 1, 33, 1, 0, 0, []) :: (.bipush 24, 34, 24, 0, 0, []) :: (.bipush 8, 36, 8, 0, 0, []) :: (.iload_n 2, 38, 2, 0, 0, []) :: (.imul, 39, 0, 0, 0, []) :: (.isub, 40, 0, 0, 0, []) :: (.ishr, 41, 0, 0, 0, []) :: (.sipush 255, 42, 255, 0, 0, []) :: (.iand, 45, 0, 0, 0, []) :: (.iastore, 46, 0, 0, 0, []) :: (.iinc 2 1, 47, 2, 1, 0, []) :: (.goto (-32), 50, 11, 0, 0, []) :: zp_X12_sign_2
noncomputable def zp_X12_sign_0 : List ECE := (.aload_n 0, 0, 0, 0, 0, []) :: (.iconst 0, 1, 0, 0, 0, []) :: (.putfield 3, 2, 12, 0, 0, []) :: (.aload_n 0, 5, 0, 0, 0, []) :: (.getfield 157, 6, 12, 10, 0, []) :: (.bipush 76, 9, 76, 0, 0, []) :: (.if_icmp .le 5, 11, 9, 0, 0, []) :: (.iconst (-1), 14, 4294967295, 0, 0, []) :: (.ireturn, 15, 0, 0, 0, []) :: (.iconst 0, 16, 0, 0, 0, []) :: (.istore_n 2, 17, 2, 0, 0, []) :: (.iload_n 2, 18, 2, 0, 0, []) :: (.iconst 4, 19, 4, 0, 0, []) :: (.if_icmp .ge 33, 20, 32, 0, 0, []) :: (.aload_n 0, 23, 0, 0, 0, []) :: (.getfield 38, 24, 12, 9, 0, []) :: zp_X12_sign_1
noncomputable def zp_X12_sign : List (List ECE) := [zp_X12_sign_0, zp_X12_sign_1, zp_X12_sign_2]
noncomputable def zp_X12_end_1 : List ECE := (.iconst 1, 26, 1, 0, 0, []) :: (.ireturn, 27, 1, 0, 0, []) :: []
noncomputable def zp_X12_end_0 : List ECE := (.aload_n 0, 0, 0, 0, 0, []) :: (.iconst 0, 1, 0, 0, 0, []) :: (.putfield 3, 2, 12, 0, 0, []) :: (.iload_n 1, 5, 1, 0, 0, []) :: (.i2l, 6, 0, 0, 0, []) :: (.lconst 0, 7, 0, 0, 0, []) :: (.aload_n 0, 8, 0, 0, 0, []) :: (.getfield 157, 9, 12, 10, 0, []) :: (.i2l, 12, 0, 0, 0, []) :: (.invokestatic 123, 13, 196, 3, 0, [0, 0]) :: (.ifCond .ne 5, 16, 13, 0, 0, []) :: (.iconst 0, 19, 0, 0, 0, []) :: (.ireturn, 20, 1, 0, 0, []) :: (.aload_n 0, 21, 0, 0, 0, []) :: (.iload_n 1, 22, 1, 0, 0, []) :: (.putfield 157, 23, 12, 10, 0, []) :: zp_X12_end_1
noncomputable def zp_X12_end : List (List ECE) := [zp_X12_end_0, zp_X12_end_1]
noncomputable def zp_X12_begins_1 : List ECE := (.putfield 172, 26, 12, 12, 0, []) :: (.iload_n 2, 29, 2, 0, 0, []) :: (.ireturn, 30, 0, 0, 0, []) :: []
noncomputable def zp_X12_begins_0 : List ECE := (.aload_n 0, 0, 0, 0, 0, []) :: (.getfield 157, 1, 12, 10, 0, []) :: (.istore_n 2, 4, 2, 0, 0, []) :: (.aload_n 0, 5, 0, 0, 0, []) :: (.iconst 0, 6, 0, 0, 0, []) :: (.putfield 157, 7, 12, 10, 0, []) :: (.aload_n 0, 10, 0, 0, 0, []) :: (.iconst 0, 11, 0, 0, 0, []) :: (.putfield 160, 12, 12, 11, 0, []) :: (.aload_n 0, 15, 0, 0, 0, []) :: (.iconst 0, 16, 0, 0, 0, []) :: (.putfield 163, 17, 12, 13, 0, []) :: (.aload_n 0, 20, 0, 0, 0, []) :: (.iload_n 2, 21, 2, 0, 0, []) :: (.iload_n 1, 22, 1, 0, 0, []) :: (.invokestatic 166, 23, 326, 2, 0, [0, 0]) :: zp_X12_begins_1
noncomputable def zp_X12_begins : List (List ECE) := [zp_X12_begins_0, zp_X12_begins_1]
noncomputable def zp_X12_faultOf_2 : List ECE := (.ireturn, 59, 0, 0, 0, []) :: []
noncomputable def zp_X12_faultOf_1 : List ECE := (.aload_n 0, 32, 0, 0, 0, []) :: (.getfield 160, 33, 12, 11, 0, []) :: (.iload_n 2, 36, 2, 0, 0, []) :: (.if_icmp .lt 7, 37, 24, 0, 0, []) :: (.iconst (-1), 40, 4294967295, 0, 0, []) :: (.iload_n 2, 41, 2, 0, 0, []) :: (.isub, 42, 0, 0, 0, []) :: (.ireturn, 43, 0, 0, 0, []) :: (.iload 4, 44, 4, 0, 0, []) :: (.ifCond .eq 7, 46, 28, 0, 0, []) :: (.iconst 0, 49, 0, 0, 0, []) :: (.goto 9, 50, 32, 0, 0, []) :: (.iconst (-1), 53, 4294967295, 0, 0, []) :: (.aload_n 0, 54, 0, 0, 0, []) :: (.getfield 160, 55, 12, 11, 0, []) :: (.isub, 58, 0, 0, 0, []) :: zp_X12_faultOf_2
noncomputable def zp_X12_faultOf_0 : List ECE := (.iload_n 3, 0, 3, 0, 0, []) :: (.ifCond .eq 18, 1, 9, 0, 0, []) :: (.aload_n 0, 4, 0, 0, 0, []) :: (.getfield 160, 5, 12, 11, 0, []) :: (.aload_n 0, 8, 0, 0, 0, []) :: (.getfield 172, 9, 12, 12, 0, []) :: (.if_icmp .ne 7, 12, 9, 0, 0, []) :: (.iconst 1, 15, 1, 0, 0, []) :: (.goto 4, 16, 10, 0, 0, []) :: (.iconst 0, 19, 0, 0, 0, []) :: (.istore 4, 20, 4, 0, 0, []) :: (.iload_n 1, 22, 1, 0, 0, []) :: (.iload_n 2, 23, 2, 0, 0, []) :: (.if_icmp .le 20, 24, 24, 0, 0, []) :: (.iload 4, 27, 4, 0, 0, []) :: (.ifCond .ne 11, 29, 20, 0, 0, []) :: zp_X12_faultOf_1
noncomputable def zp_X12_faultOf : List (List ECE) := [zp_X12_faultOf_0, zp_X12_faultOf_1, zp_X12_faultOf_2]
noncomputable def zp_X12_readsLines_4 : List ECE := (.ireturn, 125, 0, 0, 0, []) :: []
noncomputable def zp_X12_readsLines_3 : List ECE := (.iload 5, 91, 5, 0, 0, []) :: (.ifCond .eq 16, 93, 56, 0, 0, []) :: (.aload_n 0, 96, 0, 0, 0, []) :: (.bipush 59, 97, 59, 0, 0, []) :: (.invokevirtual 203, 99, 219, 2, 13, [0, 0]) :: (.ifCond .eq 7, 102, 56, 0, 0, []) :: (.iconst 1, 105, 1, 0, 0, []) :: (.goto 4, 106, 57, 0, 0, []) :: (.iconst 0, 109, 0, 0, 0, []) :: (.istore 6, 110, 6, 0, 0, []) :: (.goto (-84), 112, 15, 0, 0, []) :: (.aload_n 0, 115, 0, 0, 0, []) :: (.iload 4, 116, 4, 0, 0, []) :: (.bipush 9, 118, 9, 0, 0, []) :: (.iload 5, 120, 5, 0, 0, []) :: (.invokevirtual 206, 122, 224, 4, 13, [0, 0]) :: zp_X12_readsLines_4
noncomputable def zp_X12_readsLines_2 : List ECE := (.iconst 0, 62, 0, 0, 0, []) :: (.istore 5, 63, 5, 0, 0, []) :: (.iload 5, 65, 5, 0, 0, []) :: (.ifCond .eq 24, 67, 48, 0, 0, []) :: (.aload_n 0, 70, 0, 0, 0, []) :: (.getfield 41, 71, 12, 14, 0, []) :: (.aload_n 0, 74, 0, 0, 0, []) :: (.getfield 197, 75, 12, 15, 0, []) :: (.iload 7, 78, 7, 0, 0, []) :: (.iastore, 80, 0, 0, 0, []) :: (.aload_n 0, 81, 0, 0, 0, []) :: (.dup, 82, 0, 0, 0, []) :: (.getfield 197, 83, 12, 15, 0, []) :: (.iconst 1, 86, 1, 0, 0, []) :: (.iadd, 87, 0, 0, 0, []) :: (.putfield 197, 88, 12, 15, 0, []) :: zp_X12_readsLines_3
noncomputable def zp_X12_readsLines_1 : List ECE := (.ifCond .eq 85, 30, 59, 0, 0, []) :: (.aload_n 0, 33, 0, 0, 0, []) :: (.getfield 197, 34, 12, 15, 0, []) :: (.iload_n 1, 37, 1, 0, 0, []) :: (.if_icmp .ge 12, 38, 26, 0, 0, []) :: (.aload_n 0, 41, 0, 0, 0, []) :: (.iload_n 2, 42, 2, 0, 0, []) :: (.iload_n 3, 43, 3, 0, 0, []) :: (.invokevirtual 200, 44, 223, 3, 13, [0, 0]) :: (.goto 4, 47, 27, 0, 0, []) :: (.iconst (-1), 50, 4294967295, 0, 0, []) :: (.istore 7, 51, 7, 0, 0, []) :: (.iload 7, 53, 7, 0, 0, []) :: (.ifCond .lt 7, 55, 32, 0, 0, []) :: (.iconst 1, 58, 1, 0, 0, []) :: (.goto 4, 59, 33, 0, 0, []) :: zp_X12_readsLines_2
noncomputable def zp_X12_readsLines_0 : List ECE := (.aload_n 0, 0, 0, 0, 0, []) :: (.bipush 9, 1, 9, 0, 0, []) :: (.invokevirtual 193, 3, 218, 2, 13, [0, 0]) :: (.istore 4, 6, 4, 0, 0, []) :: (.aload_n 0, 8, 0, 0, 0, []) :: (.iconst 0, 9, 0, 0, 0, []) :: (.putfield 197, 10, 12, 15, 0, []) :: (.iconst 1, 13, 1, 0, 0, []) :: (.istore 5, 14, 5, 0, 0, []) :: (.iload 4, 16, 4, 0, 0, []) :: (.ifCond .le 7, 18, 13, 0, 0, []) :: (.iconst 1, 21, 1, 0, 0, []) :: (.goto 4, 22, 14, 0, 0, []) :: (.iconst 0, 25, 0, 0, 0, []) :: (.istore 6, 26, 6, 0, 0, []) :: (.iload 6, 28, 6, 0, 0, []) :: zp_X12_readsLines_1
noncomputable def zp_X12_readsLines : List (List ECE) := [zp_X12_readsLines_0, zp_X12_readsLines_1, zp_X12_readsLines_2, zp_X12_readsLines_3, zp_X12_readsLines_4]
noncomputable def zp_X12_came_1 : List ECE := (.goto 4, 32, 18, 0, 0, []) :: (.iconst 0, 35, 0, 0, 0, []) :: (.invokestatic 138, 36, 198, 1, 0, [0, 0]) :: (.iadd, 39, 0, 0, 0, []) :: (.putfield 213, 40, 12, 5, 0, []) :: (.aload_n 0, 43, 0, 0, 0, []) :: (.getfield 197, 44, 12, 15, 0, []) :: (.ireturn, 47, 0, 0, 0, []) :: []
noncomputable def zp_X12_came_0 : List ECE := (.aload_n 0, 0, 0, 0, 0, []) :: (.aload_n 0, 1, 0, 0, 0, []) :: (.getfield 197, 2, 12, 15, 0, []) :: (.ifCond .le 7, 5, 6, 0, 0, []) :: (.iconst 0, 8, 0, 0, 0, []) :: (.goto 7, 9, 8, 0, 0, []) :: (.aload_n 0, 12, 0, 0, 0, []) :: (.getfield 210, 13, 12, 22, 0, []) :: (.putfield 210, 16, 12, 22, 0, []) :: (.aload_n 0, 19, 0, 0, 0, []) :: (.dup, 20, 0, 0, 0, []) :: (.getfield 213, 21, 12, 5, 0, []) :: (.aload_n 0, 24, 0, 0, 0, []) :: (.getfield 197, 25, 12, 15, 0, []) :: (.ifCond .le 7, 28, 17, 0, 0, []) :: (.iconst 1, 31, 1, 0, 0, []) :: zp_X12_came_1
noncomputable def zp_X12_came : List (List ECE) := [zp_X12_came_0, zp_X12_came_1]
noncomputable def zp_X12_laws_2 : List ECE := (.dup, 50, 0, 0, 0, []) :: (.getfield 120, 51, 12, 3, 0, []) :: (.iconst 1, 54, 1, 0, 0, []) :: (.iadd, 55, 0, 0, 0, []) :: (.putfield 120, 56, 12, 3, 0, []) :: (.iinc 2 1, 59, 2, 1, 0, []) :: (.goto (-36), 62, 18, 0, 0, []) :: (.aload_n 0, 65, 0, 0, 0, []) :: (.invokevirtual 220, 66, 226, 1, 13, [0, 0]) :: (.ireturn, 69, 0, 0, 0, []) :: []
noncomputable def zp_X12_laws_1 : List ECE := (.iconst 0, 24, 0, 0, 0, []) :: (.istore_n 2, 25, 2, 0, 0, []) :: (.iload_n 2, 26, 2, 0, 0, []) :: (.aload_n 0, 27, 0, 0, 0, []) :: (.getfield 197, 28, 12, 15, 0, []) :: (.if_icmp .ge 34, 31, 39, 0, 0, []) :: (.aload_n 0, 34, 0, 0, 0, []) :: (.getfield 28, 35, 12, 6, 0, []) :: (.aload_n 0, 38, 0, 0, 0, []) :: (.getfield 120, 39, 12, 3, 0, []) :: (.aload_n 0, 42, 0, 0, 0, []) :: (.getfield 41, 43, 12, 14, 0, []) :: (.iload_n 2, 46, 2, 0, 0, []) :: (.iaload, 47, 0, 0, 0, []) :: (.iastore, 48, 0, 0, 0, []) :: (.aload_n 0, 49, 0, 0, 0, []) :: zp_X12_laws_2
noncomputable def zp_X12_laws_0 : List ECE := (.aload_n 0, 0, 0, 0, 0, []) :: (.iconst 0, 1, 0, 0, 0, []) :: (.putfield 3, 2, 12, 0, 0, []) :: (.aload_n 0, 5, 0, 0, 0, []) :: (.iconst 5, 6, 5, 0, 0, []) :: (.aload_n 0, 7, 0, 0, 0, []) :: (.getfield 120, 8, 12, 3, 0, []) :: (.isub, 11, 0, 0, 0, []) :: (.iconst 1, 12, 1, 0, 0, []) :: (.iconst 4, 13, 4, 0, 0, []) :: (.invokevirtual 216, 14, 225, 4, 13, [0, 0]) :: (.istore_n 1, 17, 1, 0, 0, []) :: (.iload_n 1, 18, 1, 0, 0, []) :: (.ifCond .ge 5, 19, 16, 0, 0, []) :: (.iload_n 1, 22, 1, 0, 0, []) :: (.ireturn, 23, 0, 0, 0, []) :: zp_X12_laws_1
noncomputable def zp_X12_laws : List (List ECE) := [zp_X12_laws_0, zp_X12_laws_1, zp_X12_laws_2]
noncomputable def zp_X12_people_2 : List ECE := (.iastore, 52, 0, 0, 0, []) :: (.aload_n 0, 53, 0, 0, 0, []) :: (.dup, 54, 0, 0, 0, []) :: (.getfield 131, 55, 12, 4, 0, []) :: (.iconst 1, 58, 1, 0, 0, []) :: (.iadd, 59, 0, 0, 0, []) :: (.putfield 131, 60, 12, 4, 0, []) :: (.iinc 2 1, 63, 2, 1, 0, []) :: (.goto (-39), 66, 18, 0, 0, []) :: (.aload_n 0, 69, 0, 0, 0, []) :: (.invokevirtual 220, 70, 226, 1, 13, [0, 0]) :: (.ireturn, 73, 0, 0, 0, []) :: []
noncomputable def zp_X12_people_1 : List ECE := (.iconst 0, 25, 0, 0, 0, []) :: (.istore_n 2, 26, 2, 0, 0, []) :: (.iload_n 2, 27, 2, 0, 0, []) :: (.aload_n 0, 28, 0, 0, 0, []) :: (.getfield 197, 29, 12, 15, 0, []) :: (.if_icmp .ge 37, 32, 41, 0, 0, []) :: (.aload_n 0, 35, 0, 0, 0, []) :: (.getfield 32, 36, 12, 7, 0, []) :: (.bipush 20, 39, 20, 0, 0, []) :: (.aload_n 0, 41, 0, 0, 0, []) :: (.getfield 131, 42, 12, 4, 0, []) :: (.iadd, 45, 0, 0, 0, []) :: (.aload_n 0, 46, 0, 0, 0, []) :: (.getfield 41, 47, 12, 14, 0, []) :: (.iload_n 2, 50, 2, 0, 0, []) :: (.iaload, 51, 0, 0, 0, []) :: zp_X12_people_2
noncomputable def zp_X12_people_0 : List ECE := (.aload_n 0, 0, 0, 0, 0, []) :: (.iconst 0, 1, 0, 0, 0, []) :: (.putfield 3, 2, 12, 0, 0, []) :: (.aload_n 0, 5, 0, 0, 0, []) :: (.iconst 5, 6, 5, 0, 0, []) :: (.aload_n 0, 7, 0, 0, 0, []) :: (.getfield 131, 8, 12, 4, 0, []) :: (.isub, 11, 0, 0, 0, []) :: (.iconst 0, 12, 0, 0, 0, []) :: (.bipush 7, 13, 7, 0, 0, []) :: (.invokevirtual 216, 15, 225, 4, 13, [0, 0]) :: (.istore_n 1, 18, 1, 0, 0, []) :: (.iload_n 1, 19, 1, 0, 0, []) :: (.ifCond .ge 5, 20, 16, 0, 0, []) :: (.iload_n 1, 23, 1, 0, 0, []) :: (.ireturn, 24, 0, 0, 0, []) :: zp_X12_people_1
noncomputable def zp_X12_people : List (List ECE) := [zp_X12_people_0, zp_X12_people_1, zp_X12_people_2]
noncomputable def zp_X12_readsRule_1 : List ECE := (.istore_n 2, 29, 2, 0, 0, []) :: (.aload_n 0, 30, 0, 0, 0, []) :: (.iload_n 1, 31, 1, 0, 0, []) :: (.bipush 40, 32, 40, 0, 0, []) :: (.iload_n 2, 34, 2, 0, 0, []) :: (.invokevirtual 206, 35, 224, 4, 13, [0, 0]) :: (.ireturn, 38, 0, 0, 0, []) :: []
noncomputable def zp_X12_readsRule_0 : List ECE := (.aload_n 0, 0, 0, 0, 0, []) :: (.bipush 40, 1, 40, 0, 0, []) :: (.invokevirtual 193, 3, 218, 2, 13, [0, 0]) :: (.istore_n 1, 6, 1, 0, 0, []) :: (.aload_n 0, 7, 0, 0, 0, []) :: (.iconst 0, 8, 0, 0, 0, []) :: (.putfield 223, 9, 12, 19, 0, []) :: (.iload_n 1, 12, 1, 0, 0, []) :: (.ifCond .eq 11, 13, 13, 0, 0, []) :: (.aload_n 0, 16, 0, 0, 0, []) :: (.iconst 0, 17, 0, 0, 0, []) :: (.invokevirtual 242, 18, 231, 2, 13, [0, 0]) :: (.ifCond .eq 7, 21, 15, 0, 0, []) :: (.iconst 1, 24, 1, 0, 0, []) :: (.goto 4, 25, 16, 0, 0, []) :: (.iconst 0, 28, 0, 0, 0, []) :: zp_X12_readsRule_1
noncomputable def zp_X12_readsRule : List (List ECE) := [zp_X12_readsRule_0, zp_X12_readsRule_1]
noncomputable def zp_X12_laysCode_1 : List ECE := (.goto (-17), 24, 5, 0, 0, []) :: (.return_, 27, 0, 0, 0, []) :: []
noncomputable def zp_X12_laysCode_0 : List ECE := (.aload_n 0, 0, 0, 0, 0, []) :: (.iload_n 2, 1, 2, 0, 0, []) :: (.putfield 251, 2, 12, 18, 0, []) :: (.iconst 0, 5, 0, 0, 0, []) :: (.istore_n 3, 6, 3, 0, 0, []) :: (.iload_n 3, 7, 3, 0, 0, []) :: (.iload_n 2, 8, 2, 0, 0, []) :: (.if_icmp .ge 18, 9, 17, 0, 0, []) :: (.aload_n 0, 12, 0, 0, 0, []) :: (.getfield 44, 13, 12, 16, 0, []) :: (.iload_n 3, 16, 3, 0, 0, []) :: (.aload_n 1, 17, 1, 0, 0, []) :: (.iload_n 3, 18, 3, 0, 0, []) :: (.iaload, 19, 0, 0, 0, []) :: (.iastore, 20, 0, 0, 0, []) :: (.iinc 3 1, 21, 3, 1, 0, []) :: zp_X12_laysCode_1
noncomputable def zp_X12_laysCode : List (List ECE) := [zp_X12_laysCode_0, zp_X12_laysCode_1]
noncomputable def zp_X12_rule_0 : List ECE := (.aload_n 0, 0, 0, 0, 0, []) :: (.iconst 0, 1, 0, 0, 0, []) :: (.putfield 3, 2, 12, 0, 0, []) :: (.aload_n 0, 5, 0, 0, 0, []) :: (.invokevirtual 254, 6, 232, 1, 13, [0, 0]) :: (.istore_n 1, 9, 1, 0, 0, []) :: (.iload_n 1, 10, 1, 0, 0, []) :: (.ifCond .ne 15, 11, 14, 0, 0, []) :: (.aload_n 0, 14, 0, 0, 0, []) :: (.aload_n 0, 15, 0, 0, 0, []) :: (.getfield 47, 16, 12, 17, 0, []) :: (.aload_n 0, 19, 0, 0, 0, []) :: (.getfield 223, 20, 12, 19, 0, []) :: (.invokevirtual 257, 23, 233, 3, 13, [0, 0]) :: (.iload_n 1, 26, 1, 0, 0, []) :: (.ireturn, 27, 0, 0, 0, []) :: []
noncomputable def zp_X12_rule : List (List ECE) := [zp_X12_rule_0]
noncomputable def zp_X12_lyingIn_1 : List ECE := (.invokestatic 138, 23, 198, 1, 0, [0, 0]) :: (.iadd, 26, 0, 0, 0, []) :: (.istore_n 2, 27, 2, 0, 0, []) :: (.iinc 3 1, 28, 3, 1, 0, []) :: (.goto (-27), 31, 4, 0, 0, []) :: (.iload_n 2, 34, 2, 0, 0, []) :: (.ireturn, 35, 0, 0, 0, []) :: []
noncomputable def zp_X12_lyingIn_0 : List ECE := (.iconst 0, 0, 0, 0, 0, []) :: (.istore_n 2, 1, 2, 0, 0, []) :: (.iconst 0, 2, 0, 0, 0, []) :: (.istore_n 3, 3, 3, 0, 0, []) :: (.iload_n 3, 4, 3, 0, 0, []) :: (.bipush 20, 5, 20, 0, 0, []) :: (.if_icmp .ge 27, 7, 21, 0, 0, []) :: (.iload_n 2, 10, 2, 0, 0, []) :: (.aload_n 0, 11, 0, 0, 0, []) :: (.iload_n 3, 12, 3, 0, 0, []) :: (.iaload, 13, 0, 0, 0, []) :: (.iload_n 1, 14, 1, 0, 0, []) :: (.if_icmp .ne 7, 15, 15, 0, 0, []) :: (.iconst 1, 18, 1, 0, 0, []) :: (.goto 4, 19, 16, 0, 0, []) :: (.iconst 0, 22, 0, 0, 0, []) :: zp_X12_lyingIn_1
noncomputable def zp_X12_lyingIn : List (List ECE) := [zp_X12_lyingIn_0, zp_X12_lyingIn_1]
noncomputable def zp_X12_sheet_5 : List ECE := (.if_icmp .ne 8, 145, 83, 0, 0, []) :: (.bipush (-3), 148, 4294967293, 0, 0, []) :: (.goto 5, 150, 84, 0, 0, []) :: (.iload 5, 153, 5, 0, 0, []) :: (.ireturn, 155, 0, 0, 0, []) :: []
noncomputable def zp_X12_sheet_4 : List ECE := (.aload_n 0, 117, 0, 0, 0, []) :: (.getfield 32, 118, 12, 7, 0, []) :: (.bipush 20, 121, 20, 0, 0, []) :: (.iload 7, 123, 7, 0, 0, []) :: (.iadd, 125, 0, 0, 0, []) :: (.iaload, 126, 0, 0, 0, []) :: (.iadd, 127, 0, 0, 0, []) :: (.istore 5, 128, 5, 0, 0, []) :: (.iload 6, 130, 6, 0, 0, []) :: (.iload 4, 132, 4, 0, 0, []) :: (.iadd, 134, 0, 0, 0, []) :: (.istore 6, 135, 6, 0, 0, []) :: (.iinc 7 1, 137, 7, 1, 0, []) :: (.goto (-95), 140, 27, 0, 0, []) :: (.iload_n 1, 143, 1, 0, 0, []) :: (.iconst 3, 144, 3, 0, 0, []) :: zp_X12_sheet_5
noncomputable def zp_X12_sheet_3 : List ECE := (.iadd, 87, 0, 0, 0, []) :: (.iload_n 1, 88, 1, 0, 0, []) :: (.iconst 3, 89, 3, 0, 0, []) :: (.if_icmp .eq 9, 90, 55, 0, 0, []) :: (.iload 7, 93, 7, 0, 0, []) :: (.iload_n 2, 95, 2, 0, 0, []) :: (.if_icmp .lt 7, 96, 57, 0, 0, []) :: (.iconst 0, 99, 0, 0, 0, []) :: (.goto 14, 100, 62, 0, 0, []) :: (.iconst 0, 103, 0, 0, 0, []) :: (.bipush 7, 104, 7, 0, 0, []) :: (.iload 8, 106, 8, 0, 0, []) :: (.invokestatic 166, 108, 326, 2, 0, [0, 0]) :: (.invokestatic 270, 111, 325, 2, 0, [0, 0]) :: (.iastore, 114, 0, 0, 0, []) :: (.iload 5, 115, 5, 0, 0, []) :: zp_X12_sheet_4
noncomputable def zp_X12_sheet_2 : List ECE := (.ifCond .ne 9, 55, 36, 0, 0, []) :: (.iload 6, 58, 6, 0, 0, []) :: (.i2b, 60, 0, 0, 0, []) :: (.goto 16, 61, 43, 0, 0, []) :: (.iload_n 1, 64, 1, 0, 0, []) :: (.iconst 1, 65, 1, 0, 0, []) :: (.if_icmp .ne 9, 66, 42, 0, 0, []) :: (.iload 6, 69, 6, 0, 0, []) :: (.i2s, 71, 0, 0, 0, []) :: (.goto 5, 72, 43, 0, 0, []) :: (.iload 6, 75, 6, 0, 0, []) :: (.istore 8, 77, 8, 0, 0, []) :: (.aload_n 0, 79, 0, 0, 0, []) :: (.getfield 32, 80, 12, 7, 0, []) :: (.bipush 20, 83, 20, 0, 0, []) :: (.iload 7, 85, 7, 0, 0, []) :: zp_X12_sheet_3
noncomputable def zp_X12_sheet_1 : List ECE := (.if_icmp .eq 10, 26, 21, 0, 0, []) :: (.iload_n 2, 29, 2, 0, 0, []) :: (.ifCond .ge 6, 30, 21, 0, 0, []) :: (.bipush (-2), 33, 4294967294, 0, 0, []) :: (.ireturn, 35, 0, 0, 0, []) :: (.iconst 0, 36, 0, 0, 0, []) :: (.istore 5, 37, 5, 0, 0, []) :: (.iload_n 3, 39, 3, 0, 0, []) :: (.istore 6, 40, 6, 0, 0, []) :: (.iconst 0, 42, 0, 0, 0, []) :: (.istore 7, 43, 7, 0, 0, []) :: (.iload 7, 45, 7, 0, 0, []) :: (.aload_n 0, 47, 0, 0, 0, []) :: (.getfield 131, 48, 12, 4, 0, []) :: (.if_icmp .ge 92, 51, 78, 0, 0, []) :: (.iload_n 1, 54, 1, 0, 0, []) :: zp_X12_sheet_2
noncomputable def zp_X12_sheet_0 : List ECE := (.aload_n 0, 0, 0, 0, 0, []) :: (.iconst 0, 1, 0, 0, 0, []) :: (.putfield 3, 2, 12, 0, 0, []) :: (.iload_n 1, 5, 1, 0, 0, []) :: (.i2l, 6, 0, 0, 0, []) :: (.lconst 0, 7, 0, 0, 0, []) :: (.ldc2_w 300, 8, 3, 0, 0, []) :: (.invokestatic 123, 11, 196, 3, 0, [0, 0]) :: (.ifCond .eq 8, 14, 12, 0, 0, []) :: (.iload_n 2, 17, 2, 0, 0, []) :: (.iconst 5, 18, 5, 0, 0, []) :: (.if_icmp .le 5, 19, 14, 0, 0, []) :: (.iconst (-1), 22, 4294967295, 0, 0, []) :: (.ireturn, 23, 0, 0, 0, []) :: (.iload_n 1, 24, 1, 0, 0, []) :: (.iconst 3, 25, 3, 0, 0, []) :: zp_X12_sheet_1
noncomputable def zp_X12_sheet : List (List ECE) := [zp_X12_sheet_0, zp_X12_sheet_1, zp_X12_sheet_2, zp_X12_sheet_3, zp_X12_sheet_4, zp_X12_sheet_5]
noncomputable def zp_X12_putsBy_1 : List ECE := (.iaload, 26, 0, 0, 0, []) :: (.iastore, 27, 0, 0, 0, []) :: (.iinc 1 1, 28, 1, 1, 0, []) :: (.goto (-29), 31, 2, 0, 0, []) :: (.return_, 34, 0, 0, 0, []) :: []
noncomputable def zp_X12_putsBy_0 : List ECE := (.iconst 0, 0, 0, 0, 0, []) :: (.istore_n 1, 1, 1, 0, 0, []) :: (.iload_n 1, 2, 1, 0, 0, []) :: (.bipush 29, 3, 29, 0, 0, []) :: (.if_icmp .ge 29, 5, 20, 0, 0, []) :: (.aload_n 0, 8, 0, 0, 0, []) :: (.getfield 56, 9, 12, 23, 0, []) :: (.bipush 29, 12, 29, 0, 0, []) :: (.aload_n 0, 14, 0, 0, 0, []) :: (.getfield 210, 15, 12, 22, 0, []) :: (.imul, 18, 0, 0, 0, []) :: (.iload_n 1, 19, 1, 0, 0, []) :: (.iadd, 20, 0, 0, 0, []) :: (.aload_n 0, 21, 0, 0, 0, []) :: (.getfield 32, 22, 12, 7, 0, []) :: (.iload_n 1, 25, 1, 0, 0, []) :: zp_X12_putsBy_1
noncomputable def zp_X12_putsBy : List (List ECE) := [zp_X12_putsBy_0, zp_X12_putsBy_1]
noncomputable def zp_X12_adds_2 : List ECE := (.putfield 210, 56, 12, 22, 0, []) :: (.iload_n 1, 59, 1, 0, 0, []) :: (.ireturn, 60, 0, 0, 0, []) :: []
noncomputable def zp_X12_adds_1 : List ECE := (.getfield 56, 29, 12, 23, 0, []) :: (.iload_n 2, 32, 2, 0, 0, []) :: (.aload_n 0, 33, 0, 0, 0, []) :: (.getfield 56, 34, 12, 23, 0, []) :: (.iload_n 2, 37, 2, 0, 0, []) :: (.bipush 29, 38, 29, 0, 0, []) :: (.iadd, 40, 0, 0, 0, []) :: (.iaload, 41, 0, 0, 0, []) :: (.iastore, 42, 0, 0, 0, []) :: (.iinc 2 1, 43, 2, 1, 0, []) :: (.goto (-25), 46, 12, 0, 0, []) :: (.aload_n 0, 49, 0, 0, 0, []) :: (.dup, 50, 0, 0, 0, []) :: (.getfield 210, 51, 12, 22, 0, []) :: (.iconst 1, 54, 1, 0, 0, []) :: (.isub, 55, 0, 0, 0, []) :: zp_X12_adds_2
noncomputable def zp_X12_adds_0 : List ECE := (.aload_n 0, 0, 0, 0, 0, []) :: (.dup, 1, 0, 0, 0, []) :: (.getfield 210, 2, 12, 22, 0, []) :: (.iconst 1, 5, 1, 0, 0, []) :: (.iadd, 6, 0, 0, 0, []) :: (.putfield 210, 7, 12, 22, 0, []) :: (.aload_n 0, 10, 0, 0, 0, []) :: (.getfield 210, 11, 12, 22, 0, []) :: (.bipush 15, 14, 15, 0, 0, []) :: (.if_icmp .le 43, 16, 33, 0, 0, []) :: (.iconst 0, 19, 0, 0, 0, []) :: (.istore_n 2, 20, 2, 0, 0, []) :: (.iload_n 2, 21, 2, 0, 0, []) :: (.sipush 435, 22, 435, 0, 0, []) :: (.if_icmp .ge 24, 25, 27, 0, 0, []) :: (.aload_n 0, 28, 0, 0, 0, []) :: zp_X12_adds_1
noncomputable def zp_X12_adds : List (List ECE) := [zp_X12_adds_0, zp_X12_adds_1, zp_X12_adds_2]
noncomputable def zp_X12_counted_0 : List ECE := (.iload_n 1, 0, 1, 0, 0, []) :: (.ifCond .ge 7, 1, 4, 0, 0, []) :: (.iload_n 1, 4, 1, 0, 0, []) :: (.goto 8, 5, 7, 0, 0, []) :: (.aload_n 0, 8, 0, 0, 0, []) :: (.iload_n 1, 9, 1, 0, 0, []) :: (.invokevirtual 302, 10, 246, 2, 13, [0, 0]) :: (.ireturn, 13, 0, 0, 0, []) :: []
noncomputable def zp_X12_counted : List (List ECE) := [zp_X12_counted_0]
noncomputable def zp_X12_undo_2 : List ECE := (.iinc 1 1, 52, 1, 1, 0, []) :: (.goto (-29), 55, 16, 0, 0, []) :: (.aload_n 0, 58, 0, 0, 0, []) :: (.getfield 210, 59, 12, 22, 0, []) :: (.ireturn, 62, 0, 0, 0, []) :: []
noncomputable def zp_X12_undo_1 : List ECE := (.iload_n 1, 26, 1, 0, 0, []) :: (.bipush 29, 27, 29, 0, 0, []) :: (.if_icmp .ge 29, 29, 34, 0, 0, []) :: (.aload_n 0, 32, 0, 0, 0, []) :: (.getfield 32, 33, 12, 7, 0, []) :: (.iload_n 1, 36, 1, 0, 0, []) :: (.aload_n 0, 37, 0, 0, 0, []) :: (.getfield 56, 38, 12, 23, 0, []) :: (.bipush 29, 41, 29, 0, 0, []) :: (.aload_n 0, 43, 0, 0, 0, []) :: (.getfield 210, 44, 12, 22, 0, []) :: (.imul, 47, 0, 0, 0, []) :: (.iload_n 1, 48, 1, 0, 0, []) :: (.iadd, 49, 0, 0, 0, []) :: (.iaload, 50, 0, 0, 0, []) :: (.iastore, 51, 0, 0, 0, []) :: zp_X12_undo_2
noncomputable def zp_X12_undo_0 : List ECE := (.aload_n 0, 0, 0, 0, 0, []) :: (.iconst 0, 1, 0, 0, 0, []) :: (.putfield 3, 2, 12, 0, 0, []) :: (.aload_n 0, 5, 0, 0, 0, []) :: (.getfield 210, 6, 12, 22, 0, []) :: (.ifCond .ne 5, 9, 8, 0, 0, []) :: (.iconst (-1), 12, 4294967295, 0, 0, []) :: (.ireturn, 13, 0, 0, 0, []) :: (.aload_n 0, 14, 0, 0, 0, []) :: (.dup, 15, 0, 0, 0, []) :: (.getfield 210, 16, 12, 22, 0, []) :: (.iconst 1, 19, 1, 0, 0, []) :: (.isub, 20, 0, 0, 0, []) :: (.putfield 210, 21, 12, 22, 0, []) :: (.iconst 0, 24, 0, 0, 0, []) :: (.istore_n 1, 25, 1, 0, 0, []) :: zp_X12_undo_1
noncomputable def zp_X12_undo : List (List ECE) := [zp_X12_undo_0, zp_X12_undo_1, zp_X12_undo_2]
noncomputable def zp_X12_dayGoes_5 : List ECE := (.iconst 1, 137, 1, 0, 0, []) :: (.iadd, 138, 0, 0, 0, []) :: (.iastore, 139, 0, 0, 0, []) :: (.iload_n 2, 140, 2, 0, 0, []) :: (.ireturn, 141, 0, 0, 0, []) :: []
noncomputable def zp_X12_dayGoes_4 : List ECE := (.iload 4, 108, 4, 0, 0, []) :: (.bipush 20, 110, 20, 0, 0, []) :: (.if_icmp .ge 14, 112, 74, 0, 0, []) :: (.aload_n 1, 115, 1, 0, 0, []) :: (.iload 4, 116, 4, 0, 0, []) :: (.bipush 10, 118, 10, 0, 0, []) :: (.iload_n 3, 120, 3, 0, 0, []) :: (.iadd, 121, 0, 0, 0, []) :: (.iastore, 122, 0, 0, 0, []) :: (.iinc 2 1, 123, 2, 1, 0, []) :: (.iinc 3 1, 126, 3, 1, 0, []) :: (.goto (-58), 129, 44, 0, 0, []) :: (.aload_n 1, 132, 1, 0, 0, []) :: (.bipush 28, 133, 28, 0, 0, []) :: (.dup2, 135, 0, 0, 0, []) :: (.iaload, 136, 0, 0, 0, []) :: zp_X12_dayGoes_5
noncomputable def zp_X12_dayGoes_3 : List ECE := (.iconst 0, 79, 0, 0, 0, []) :: (.istore 4, 80, 4, 0, 0, []) :: (.iload 4, 82, 4, 0, 0, []) :: (.bipush 20, 84, 20, 0, 0, []) :: (.if_icmp .ge 22, 86, 64, 0, 0, []) :: (.aload_n 1, 89, 1, 0, 0, []) :: (.iload 4, 90, 4, 0, 0, []) :: (.iaload, 92, 0, 0, 0, []) :: (.aload_n 1, 93, 1, 0, 0, []) :: (.bipush 20, 94, 20, 0, 0, []) :: (.iload_n 3, 96, 3, 0, 0, []) :: (.iadd, 97, 0, 0, 0, []) :: (.iaload, 98, 0, 0, 0, []) :: (.if_icmp .eq 9, 99, 64, 0, 0, []) :: (.iinc 4 1, 102, 4, 1, 0, []) :: (.goto (-23), 105, 50, 0, 0, []) :: zp_X12_dayGoes_4
noncomputable def zp_X12_dayGoes_2 : List ECE := (.iload_n 2, 53, 2, 0, 0, []) :: (.aload_n 0, 54, 0, 0, 0, []) :: (.getfield 59, 55, 12, 24, 0, []) :: (.iload_n 2, 58, 2, 0, 0, []) :: (.iaload, 59, 0, 0, 0, []) :: (.iastore, 60, 0, 0, 0, []) :: (.iinc 2 1, 61, 2, 1, 0, []) :: (.goto (-18), 64, 28, 0, 0, []) :: (.iconst 0, 67, 0, 0, 0, []) :: (.istore_n 2, 68, 2, 0, 0, []) :: (.iconst 0, 69, 0, 0, 0, []) :: (.istore_n 3, 70, 3, 0, 0, []) :: (.iload_n 3, 71, 3, 0, 0, []) :: (.aload_n 0, 72, 0, 0, 0, []) :: (.getfield 131, 73, 12, 4, 0, []) :: (.if_icmp .ge 56, 76, 76, 0, 0, []) :: zp_X12_dayGoes_3
noncomputable def zp_X12_dayGoes_1 : List ECE := (.bipush 27, 25, 27, 0, 0, []) :: (.iaload, 27, 0, 0, 0, []) :: (.invokevirtual 305, 28, 238, 4, 13, [0, 0]) :: (.goto 6, 31, 23, 0, 0, []) :: (.aload_n 1, 34, 1, 0, 0, []) :: (.iload_n 2, 35, 2, 0, 0, []) :: (.iaload, 36, 0, 0, 0, []) :: (.iastore, 37, 0, 0, 0, []) :: (.iinc 2 1, 38, 2, 1, 0, []) :: (.goto (-39), 41, 2, 0, 0, []) :: (.iconst 0, 44, 0, 0, 0, []) :: (.istore_n 2, 45, 2, 0, 0, []) :: (.iload_n 2, 46, 2, 0, 0, []) :: (.bipush 20, 47, 20, 0, 0, []) :: (.if_icmp .ge 18, 49, 40, 0, 0, []) :: (.aload_n 1, 52, 1, 0, 0, []) :: zp_X12_dayGoes_2
noncomputable def zp_X12_dayGoes_0 : List ECE := (.iconst 0, 0, 0, 0, 0, []) :: (.istore_n 2, 1, 2, 0, 0, []) :: (.iload_n 2, 2, 2, 0, 0, []) :: (.bipush 20, 3, 20, 0, 0, []) :: (.if_icmp .ge 39, 5, 26, 0, 0, []) :: (.aload_n 0, 8, 0, 0, 0, []) :: (.getfield 59, 9, 12, 24, 0, []) :: (.iload_n 2, 12, 2, 0, 0, []) :: (.aload_n 1, 13, 1, 0, 0, []) :: (.iload_n 2, 14, 2, 0, 0, []) :: (.invokestatic 150, 15, 207, 2, 0, [0, 0]) :: (.ifCond .eq 16, 18, 20, 0, 0, []) :: (.aload_n 0, 21, 0, 0, 0, []) :: (.aload_n 1, 22, 1, 0, 0, []) :: (.iload_n 2, 23, 2, 0, 0, []) :: (.aload_n 1, 24, 1, 0, 0, []) :: zp_X12_dayGoes_1
noncomputable def zp_X12_dayGoes : List (List ECE) := [zp_X12_dayGoes_0, zp_X12_dayGoes_1, zp_X12_dayGoes_2, zp_X12_dayGoes_3, zp_X12_dayGoes_4, zp_X12_dayGoes_5]
noncomputable def zp_X12_goesOn_1 : List ECE := (.ireturn, 26, 0, 0, 0, []) :: []
noncomputable def zp_X12_goesOn_0 : List ECE := (.iconst 0, 0, 0, 0, 0, []) :: (.istore_n 3, 1, 3, 0, 0, []) :: (.iconst 0, 2, 0, 0, 0, []) :: (.istore 4, 3, 4, 0, 0, []) :: (.iload 4, 5, 4, 0, 0, []) :: (.iload_n 2, 7, 2, 0, 0, []) :: (.if_icmp .ge 17, 8, 15, 0, 0, []) :: (.iload_n 3, 11, 3, 0, 0, []) :: (.aload_n 0, 12, 0, 0, 0, []) :: (.aload_n 1, 13, 1, 0, 0, []) :: (.invokevirtual 308, 14, 249, 2, 13, [0, 0]) :: (.iadd, 17, 0, 0, 0, []) :: (.istore_n 3, 18, 3, 0, 0, []) :: (.iinc 4 1, 19, 4, 1, 0, []) :: (.goto (-17), 22, 4, 0, 0, []) :: (.iload_n 3, 25, 3, 0, 0, []) :: zp_X12_goesOn_1
noncomputable def zp_X12_goesOn : List (List ECE) := [zp_X12_goesOn_0, zp_X12_goesOn_1]
noncomputable def zp_X12_carriesOne_1 : List ECE := (.getfield 32, 28, 12, 7, 0, []) :: (.bipush 25, 31, 25, 0, 0, []) :: (.dup2, 33, 0, 0, 0, []) :: (.iaload, 34, 0, 0, 0, []) :: (.iconst 1, 35, 1, 0, 0, []) :: (.iload_n 1, 36, 1, 0, 0, []) :: (.ishl, 37, 0, 0, 0, []) :: (.ior, 38, 0, 0, 0, []) :: (.iastore, 39, 0, 0, 0, []) :: (.aload_n 0, 40, 0, 0, 0, []) :: (.getfield 32, 41, 12, 7, 0, []) :: (.bipush 25, 44, 25, 0, 0, []) :: (.iaload, 46, 0, 0, 0, []) :: (.invokestatic 312, 47, 323, 1, 0, [0, 0]) :: (.ireturn, 50, 0, 0, 0, []) :: []
noncomputable def zp_X12_carriesOne_0 : List ECE := (.aload_n 0, 0, 0, 0, 0, []) :: (.iload_n 1, 1, 1, 0, 0, []) :: (.invokevirtual 127, 2, 203, 2, 13, [0, 0]) :: (.ifCond .ne 5, 5, 6, 0, 0, []) :: (.iconst (-1), 8, 4294967295, 0, 0, []) :: (.ireturn, 9, 0, 0, 0, []) :: (.aload_n 0, 10, 0, 0, 0, []) :: (.getfield 32, 11, 12, 7, 0, []) :: (.bipush 25, 14, 25, 0, 0, []) :: (.iaload, 16, 0, 0, 0, []) :: (.iload_n 1, 17, 1, 0, 0, []) :: (.invokestatic 282, 18, 197, 2, 0, [0, 0]) :: (.ifCond .eq 6, 21, 15, 0, 0, []) :: (.bipush (-2), 24, 4294967294, 0, 0, []) :: (.ireturn, 26, 0, 0, 0, []) :: (.aload_n 0, 27, 0, 0, 0, []) :: zp_X12_carriesOne_1
noncomputable def zp_X12_carriesOne : List (List ECE) := [zp_X12_carriesOne_0, zp_X12_carriesOne_1]
noncomputable def zp_X12_flingsOne_2 : List ECE := (.getfield 32, 58, 12, 7, 0, []) :: (.iload_n 1, 61, 1, 0, 0, []) :: (.iload_n 2, 62, 2, 0, 0, []) :: (.invokevirtual 319, 63, 252, 4, 13, [0, 0]) :: (.aload_n 0, 66, 0, 0, 0, []) :: (.getfield 28, 67, 12, 6, 0, []) :: (.iload_n 1, 70, 1, 0, 0, []) :: (.iaload, 71, 0, 0, 0, []) :: (.ireturn, 72, 0, 0, 0, []) :: []
noncomputable def zp_X12_flingsOne_1 : List ECE := (.iload_n 1, 29, 1, 0, 0, []) :: (.invokestatic 282, 30, 197, 2, 0, [0, 0]) :: (.ifCond .ne 6, 33, 21, 0, 0, []) :: (.bipush (-2), 36, 4294967294, 0, 0, []) :: (.ireturn, 38, 0, 0, 0, []) :: (.aload_n 0, 39, 0, 0, 0, []) :: (.getfield 32, 40, 12, 7, 0, []) :: (.bipush 26, 43, 26, 0, 0, []) :: (.iaload, 45, 0, 0, 0, []) :: (.iload_n 1, 46, 1, 0, 0, []) :: (.invokestatic 282, 47, 197, 2, 0, [0, 0]) :: (.ifCond .eq 6, 50, 30, 0, 0, []) :: (.bipush (-3), 53, 4294967293, 0, 0, []) :: (.ireturn, 55, 0, 0, 0, []) :: (.aload_n 0, 56, 0, 0, 0, []) :: (.aload_n 0, 57, 0, 0, 0, []) :: zp_X12_flingsOne_2
noncomputable def zp_X12_flingsOne_0 : List ECE := (.aload_n 0, 0, 0, 0, 0, []) :: (.iload_n 1, 1, 1, 0, 0, []) :: (.invokevirtual 127, 2, 203, 2, 13, [0, 0]) :: (.ifCond .eq 15, 5, 10, 0, 0, []) :: (.iload_n 2, 8, 2, 0, 0, []) :: (.i2l, 9, 0, 0, 0, []) :: (.lconst 0, 10, 0, 0, 0, []) :: (.ldc2_w 317, 11, 7, 0, 0, []) :: (.invokestatic 123, 14, 196, 3, 0, [0, 0]) :: (.ifCond .ne 5, 17, 12, 0, 0, []) :: (.iconst (-1), 20, 4294967295, 0, 0, []) :: (.ireturn, 21, 0, 0, 0, []) :: (.aload_n 0, 22, 0, 0, 0, []) :: (.getfield 32, 23, 12, 7, 0, []) :: (.bipush 25, 26, 25, 0, 0, []) :: (.iaload, 28, 0, 0, 0, []) :: zp_X12_flingsOne_1
noncomputable def zp_X12_flingsOne : List (List ECE) := [zp_X12_flingsOne_0, zp_X12_flingsOne_1, zp_X12_flingsOne_2]
noncomputable def zp_X12_sweepsOne_4 : List ECE := (.dup2, 101, 0, 0, 0, []) :: (.iaload, 102, 0, 0, 0, []) :: (.iconst 1, 103, 1, 0, 0, []) :: (.iload_n 1, 104, 1, 0, 0, []) :: (.ishl, 105, 0, 0, 0, []) :: (.iconst (-1), 106, 4294967295, 0, 0, []) :: (.ixor, 107, 0, 0, 0, []) :: (.iand, 108, 0, 0, 0, []) :: (.iastore, 109, 0, 0, 0, []) :: (.iload_n 2, 110, 2, 0, 0, []) :: (.ireturn, 111, 0, 0, 0, []) :: []
noncomputable def zp_X12_sweepsOne_3 : List ECE := (.goto (-46), 77, 19, 0, 0, []) :: (.aload_n 0, 80, 0, 0, 0, []) :: (.getfield 32, 81, 12, 7, 0, []) :: (.bipush 26, 84, 26, 0, 0, []) :: (.dup2, 86, 0, 0, 0, []) :: (.iaload, 87, 0, 0, 0, []) :: (.iconst 1, 88, 1, 0, 0, []) :: (.iload_n 1, 89, 1, 0, 0, []) :: (.ishl, 90, 0, 0, 0, []) :: (.iconst (-1), 91, 4294967295, 0, 0, []) :: (.ixor, 92, 0, 0, 0, []) :: (.iand, 93, 0, 0, 0, []) :: (.iastore, 94, 0, 0, 0, []) :: (.aload_n 0, 95, 0, 0, 0, []) :: (.getfield 32, 96, 12, 7, 0, []) :: (.bipush 25, 99, 25, 0, 0, []) :: zp_X12_sweepsOne_4
noncomputable def zp_X12_sweepsOne_2 : List ECE := (.ldc2_w 278, 48, 10, 0, 0, []) :: (.ldc2_w 280, 51, 19, 0, 0, []) :: (.invokestatic 123, 54, 196, 3, 0, [0, 0]) :: (.invokestatic 138, 57, 198, 1, 0, [0, 0]) :: (.iadd, 60, 0, 0, 0, []) :: (.istore_n 2, 61, 2, 0, 0, []) :: (.aload_n 0, 62, 0, 0, 0, []) :: (.getfield 32, 63, 12, 7, 0, []) :: (.iconst 4, 66, 4, 0, 0, []) :: (.iload_n 1, 67, 1, 0, 0, []) :: (.imul, 68, 0, 0, 0, []) :: (.iload_n 3, 69, 3, 0, 0, []) :: (.iadd, 70, 0, 0, 0, []) :: (.bipush 20, 71, 20, 0, 0, []) :: (.iastore, 73, 0, 0, 0, []) :: (.iinc 3 1, 74, 3, 1, 0, []) :: zp_X12_sweepsOne_3
noncomputable def zp_X12_sweepsOne_1 : List ECE := (.istore_n 2, 28, 2, 0, 0, []) :: (.iconst 0, 29, 0, 0, 0, []) :: (.istore_n 3, 30, 3, 0, 0, []) :: (.iload_n 3, 31, 3, 0, 0, []) :: (.iconst 4, 32, 4, 0, 0, []) :: (.if_icmp .ge 47, 33, 49, 0, 0, []) :: (.iload_n 2, 36, 2, 0, 0, []) :: (.aload_n 0, 37, 0, 0, 0, []) :: (.getfield 32, 38, 12, 7, 0, []) :: (.iconst 4, 41, 4, 0, 0, []) :: (.iload_n 1, 42, 1, 0, 0, []) :: (.imul, 43, 0, 0, 0, []) :: (.iload_n 3, 44, 3, 0, 0, []) :: (.iadd, 45, 0, 0, 0, []) :: (.iaload, 46, 0, 0, 0, []) :: (.i2l, 47, 0, 0, 0, []) :: zp_X12_sweepsOne_2
noncomputable def zp_X12_sweepsOne_0 : List ECE := (.aload_n 0, 0, 0, 0, 0, []) :: (.iload_n 1, 1, 1, 0, 0, []) :: (.invokevirtual 127, 2, 203, 2, 13, [0, 0]) :: (.ifCond .ne 5, 5, 6, 0, 0, []) :: (.iconst (-1), 8, 4294967295, 0, 0, []) :: (.ireturn, 9, 0, 0, 0, []) :: (.aload_n 0, 10, 0, 0, 0, []) :: (.getfield 32, 11, 12, 7, 0, []) :: (.bipush 26, 14, 26, 0, 0, []) :: (.iaload, 16, 0, 0, 0, []) :: (.iload_n 1, 17, 1, 0, 0, []) :: (.invokestatic 282, 18, 197, 2, 0, [0, 0]) :: (.ifCond .ne 6, 21, 15, 0, 0, []) :: (.bipush (-2), 24, 4294967294, 0, 0, []) :: (.ireturn, 26, 0, 0, 0, []) :: (.iconst 0, 27, 0, 0, 0, []) :: zp_X12_sweepsOne_1
noncomputable def zp_X12_sweepsOne : List (List ECE) := [zp_X12_sweepsOne_0, zp_X12_sweepsOne_1, zp_X12_sweepsOne_2, zp_X12_sweepsOne_3, zp_X12_sweepsOne_4]
noncomputable def zp_X12_walksOne_2 : List ECE := (.goto 4, 53, 34, 0, 0, []) :: (.iload_n 3, 56, 3, 0, 0, []) :: (.ireturn, 57, 0, 0, 0, []) :: []
noncomputable def zp_X12_walksOne_1 : List ECE := (.iload_n 1, 29, 1, 0, 0, []) :: (.iadd, 30, 0, 0, 0, []) :: (.iaload, 31, 0, 0, 0, []) :: (.isub, 32, 0, 0, 0, []) :: (.invokestatic 323, 33, 324, 1, 0, [0, 0]) :: (.istore_n 3, 36, 3, 0, 0, []) :: (.aload_n 0, 37, 0, 0, 0, []) :: (.getfield 32, 38, 12, 7, 0, []) :: (.bipush 20, 41, 20, 0, 0, []) :: (.iload_n 1, 43, 1, 0, 0, []) :: (.iadd, 44, 0, 0, 0, []) :: (.iload_n 2, 45, 2, 0, 0, []) :: (.iastore, 46, 0, 0, 0, []) :: (.iload_n 3, 47, 3, 0, 0, []) :: (.ifCond .ne 8, 48, 33, 0, 0, []) :: (.bipush (-2), 51, 4294967294, 0, 0, []) :: zp_X12_walksOne_2
noncomputable def zp_X12_walksOne_0 : List ECE := (.aload_n 0, 0, 0, 0, 0, []) :: (.iload_n 1, 1, 1, 0, 0, []) :: (.invokevirtual 292, 2, 205, 2, 13, [0, 0]) :: (.ifCond .eq 15, 5, 10, 0, 0, []) :: (.iload_n 2, 8, 2, 0, 0, []) :: (.i2l, 9, 0, 0, 0, []) :: (.lconst 0, 10, 0, 0, 0, []) :: (.ldc2_w 317, 11, 7, 0, 0, []) :: (.invokestatic 123, 14, 196, 3, 0, [0, 0]) :: (.ifCond .ne 5, 17, 12, 0, 0, []) :: (.iconst (-1), 20, 4294967295, 0, 0, []) :: (.ireturn, 21, 0, 0, 0, []) :: (.iload_n 2, 22, 2, 0, 0, []) :: (.aload_n 0, 23, 0, 0, 0, []) :: (.getfield 32, 24, 12, 7, 0, []) :: (.bipush 20, 27, 20, 0, 0, []) :: zp_X12_walksOne_1
noncomputable def zp_X12_walksOne : List (List ECE) := [zp_X12_walksOne_0, zp_X12_walksOne_1, zp_X12_walksOne_2]
noncomputable def zp_X12_givesAll_2 : List ECE := (.iconst (-1), 57, 4294967295, 0, 0, []) :: (.ireturn, 58, 0, 0, 0, []) :: []
noncomputable def zp_X12_givesAll_1 : List ECE := (.goto 4, 30, 18, 0, 0, []) :: (.iconst 0, 33, 0, 0, 0, []) :: (.istore 4, 34, 4, 0, 0, []) :: (.iload 4, 36, 4, 0, 0, []) :: (.ifCond .eq 19, 38, 32, 0, 0, []) :: (.aload_n 0, 41, 0, 0, 0, []) :: (.iload_n 1, 42, 1, 0, 0, []) :: (.iload_n 3, 43, 3, 0, 0, []) :: (.iload_n 3, 44, 3, 0, 0, []) :: (.iconst 1, 45, 1, 0, 0, []) :: (.iadd, 46, 0, 0, 0, []) :: (.bipush 10, 47, 10, 0, 0, []) :: (.iload_n 2, 49, 2, 0, 0, []) :: (.iadd, 50, 0, 0, 0, []) :: (.invokevirtual 326, 51, 256, 5, 13, [0, 0]) :: (.goto 4, 54, 33, 0, 0, []) :: zp_X12_givesAll_2
noncomputable def zp_X12_givesAll_0 : List ECE := (.aload_n 0, 0, 0, 0, 0, []) :: (.iload_n 1, 1, 1, 0, 0, []) :: (.invokevirtual 292, 2, 205, 2, 13, [0, 0]) :: (.ifCond .eq 28, 5, 17, 0, 0, []) :: (.aload_n 0, 8, 0, 0, 0, []) :: (.iload_n 2, 9, 2, 0, 0, []) :: (.invokevirtual 292, 10, 205, 2, 13, [0, 0]) :: (.ifCond .eq 20, 13, 17, 0, 0, []) :: (.aload_n 0, 16, 0, 0, 0, []) :: (.iload_n 3, 17, 3, 0, 0, []) :: (.invokevirtual 127, 18, 203, 2, 13, [0, 0]) :: (.ifCond .eq 12, 21, 17, 0, 0, []) :: (.iload_n 1, 24, 1, 0, 0, []) :: (.iload_n 2, 25, 2, 0, 0, []) :: (.if_icmp .eq 7, 26, 17, 0, 0, []) :: (.iconst 1, 29, 1, 0, 0, []) :: zp_X12_givesAll_1
noncomputable def zp_X12_givesAll : List (List ECE) := [zp_X12_givesAll_0, zp_X12_givesAll_1, zp_X12_givesAll_2]
noncomputable def zp_X12_fallsFrom_1 : List ECE := (.iconst (-1), 27, 4294967295, 0, 0, []) :: (.ireturn, 28, 0, 0, 0, []) :: []
noncomputable def zp_X12_fallsFrom_0 : List ECE := (.aload_n 0, 0, 0, 0, 0, []) :: (.iload_n 1, 1, 1, 0, 0, []) :: (.invokevirtual 292, 2, 205, 2, 13, [0, 0]) :: (.ifCond .eq 22, 5, 16, 0, 0, []) :: (.aload_n 0, 8, 0, 0, 0, []) :: (.iload_n 1, 9, 1, 0, 0, []) :: (.iconst 0, 10, 0, 0, 0, []) :: (.iconst 5, 11, 5, 0, 0, []) :: (.aload_n 0, 12, 0, 0, 0, []) :: (.getfield 32, 13, 12, 7, 0, []) :: (.bipush 20, 16, 20, 0, 0, []) :: (.iload_n 1, 18, 1, 0, 0, []) :: (.iadd, 19, 0, 0, 0, []) :: (.iaload, 20, 0, 0, 0, []) :: (.invokevirtual 326, 21, 256, 5, 13, [0, 0]) :: (.goto 4, 24, 17, 0, 0, []) :: zp_X12_fallsFrom_1
noncomputable def zp_X12_fallsFrom : List (List ECE) := [zp_X12_fallsFrom_0, zp_X12_fallsFrom_1]
noncomputable def zp_X12_windTo_1 : List ECE := (.iload_n 1, 30, 1, 0, 0, []) :: (.iastore, 31, 0, 0, 0, []) :: (.iload_n 2, 32, 2, 0, 0, []) :: (.iload_n 1, 33, 1, 0, 0, []) :: (.if_icmp .ne 8, 34, 23, 0, 0, []) :: (.bipush (-2), 37, 4294967294, 0, 0, []) :: (.goto 7, 39, 26, 0, 0, []) :: (.bipush 10, 42, 10, 0, 0, []) :: (.iload_n 2, 44, 2, 0, 0, []) :: (.iadd, 45, 0, 0, 0, []) :: (.ireturn, 46, 0, 0, 0, []) :: []
noncomputable def zp_X12_windTo_0 : List ECE := (.iload_n 1, 0, 1, 0, 0, []) :: (.i2l, 1, 0, 0, 0, []) :: (.ldc2_w 330, 2, 18446744073709551613, 0, 0, []) :: (.ldc2_w 300, 5, 3, 0, 0, []) :: (.invokestatic 123, 8, 196, 3, 0, [0, 0]) :: (.ifCond .ne 5, 11, 8, 0, 0, []) :: (.iconst (-1), 14, 4294967295, 0, 0, []) :: (.ireturn, 15, 0, 0, 0, []) :: (.aload_n 0, 16, 0, 0, 0, []) :: (.getfield 32, 17, 12, 7, 0, []) :: (.bipush 27, 20, 27, 0, 0, []) :: (.iaload, 22, 0, 0, 0, []) :: (.istore_n 2, 23, 2, 0, 0, []) :: (.aload_n 0, 24, 0, 0, 0, []) :: (.getfield 32, 25, 12, 7, 0, []) :: (.bipush 27, 28, 27, 0, 0, []) :: zp_X12_windTo_1
noncomputable def zp_X12_windTo : List (List ECE) := [zp_X12_windTo_0, zp_X12_windTo_1]
noncomputable def zp_X12_carries_0 : List ECE := (.aload_n 0, 0, 0, 0, 0, []) :: (.iconst 0, 1, 0, 0, 0, []) :: (.putfield 3, 2, 12, 0, 0, []) :: (.aload_n 0, 5, 0, 0, 0, []) :: (.invokevirtual 332, 6, 245, 1, 13, [0, 0]) :: (.aload_n 0, 9, 0, 0, 0, []) :: (.aload_n 0, 10, 0, 0, 0, []) :: (.iload_n 1, 11, 1, 0, 0, []) :: (.invokevirtual 335, 12, 251, 2, 13, [0, 0]) :: (.invokevirtual 338, 15, 247, 2, 13, [0, 0]) :: (.ireturn, 18, 0, 0, 0, []) :: []
noncomputable def zp_X12_carries : List (List ECE) := [zp_X12_carries_0]
noncomputable def zp_X12_flings_0 : List ECE := (.aload_n 0, 0, 0, 0, 0, []) :: (.iconst 0, 1, 0, 0, 0, []) :: (.putfield 3, 2, 12, 0, 0, []) :: (.aload_n 0, 5, 0, 0, 0, []) :: (.invokevirtual 332, 6, 245, 1, 13, [0, 0]) :: (.aload_n 0, 9, 0, 0, 0, []) :: (.aload_n 0, 10, 0, 0, 0, []) :: (.iload_n 1, 11, 1, 0, 0, []) :: (.iload_n 2, 12, 2, 0, 0, []) :: (.invokevirtual 341, 13, 253, 3, 13, [0, 0]) :: (.invokevirtual 338, 16, 247, 2, 13, [0, 0]) :: (.ireturn, 19, 0, 0, 0, []) :: []
noncomputable def zp_X12_flings : List (List ECE) := [zp_X12_flings_0]
noncomputable def zp_X12_sweeps_0 : List ECE := (.aload_n 0, 0, 0, 0, 0, []) :: (.iconst 0, 1, 0, 0, 0, []) :: (.putfield 3, 2, 12, 0, 0, []) :: (.aload_n 0, 5, 0, 0, 0, []) :: (.invokevirtual 332, 6, 245, 1, 13, [0, 0]) :: (.aload_n 0, 9, 0, 0, 0, []) :: (.aload_n 0, 10, 0, 0, 0, []) :: (.iload_n 1, 11, 1, 0, 0, []) :: (.invokevirtual 344, 12, 254, 2, 13, [0, 0]) :: (.invokevirtual 338, 15, 247, 2, 13, [0, 0]) :: (.ireturn, 18, 0, 0, 0, []) :: []
noncomputable def zp_X12_sweeps : List (List ECE) := [zp_X12_sweeps_0]
noncomputable def zp_X12_days_2 : List ECE := (.invokevirtual 355, 56, 214, 2, 13, [0, 0]) :: (.i2l, 59, 0, 0, 0, []) :: (.invokevirtual 18, 60, 200, 2, 13, [0, 0]) :: (.aload_n 0, 63, 0, 0, 0, []) :: (.iload_n 2, 64, 2, 0, 0, []) :: (.invokevirtual 302, 65, 246, 2, 13, [0, 0]) :: (.ireturn, 68, 0, 0, 0, []) :: []
noncomputable def zp_X12_days_1 : List ECE := (.iload_n 1, 28, 1, 0, 0, []) :: (.invokevirtual 349, 29, 250, 3, 13, [0, 0]) :: (.istore_n 2, 32, 2, 0, 0, []) :: (.aload_n 0, 33, 0, 0, 0, []) :: (.iconst 0, 34, 0, 0, 0, []) :: (.putfield 15, 35, 12, 1, 0, []) :: (.aload_n 0, 38, 0, 0, 0, []) :: (.aload_n 0, 39, 0, 0, 0, []) :: (.getfield 32, 40, 12, 7, 0, []) :: (.invokestatic 352, 43, 212, 1, 0, [0, 0]) :: (.i2l, 46, 0, 0, 0, []) :: (.invokevirtual 18, 47, 200, 2, 13, [0, 0]) :: (.aload_n 0, 50, 0, 0, 0, []) :: (.aload_n 0, 51, 0, 0, 0, []) :: (.aload_n 0, 52, 0, 0, 0, []) :: (.getfield 32, 53, 12, 7, 0, []) :: zp_X12_days_2
noncomputable def zp_X12_days_0 : List ECE := (.aload_n 0, 0, 0, 0, 0, []) :: (.iconst 0, 1, 0, 0, 0, []) :: (.putfield 3, 2, 12, 0, 0, []) :: (.iload_n 1, 5, 1, 0, 0, []) :: (.i2l, 6, 0, 0, 0, []) :: (.lconst 0, 7, 0, 0, 0, []) :: (.ldc2_w 347, 8, 60, 0, 0, []) :: (.invokestatic 123, 11, 196, 3, 0, [0, 0]) :: (.ifCond .ne 5, 14, 11, 0, 0, []) :: (.iconst (-1), 17, 4294967295, 0, 0, []) :: (.ireturn, 18, 0, 0, 0, []) :: (.aload_n 0, 19, 0, 0, 0, []) :: (.invokevirtual 332, 20, 245, 1, 13, [0, 0]) :: (.aload_n 0, 23, 0, 0, 0, []) :: (.aload_n 0, 24, 0, 0, 0, []) :: (.getfield 32, 25, 12, 7, 0, []) :: zp_X12_days_1
noncomputable def zp_X12_days : List (List ECE) := [zp_X12_days_0, zp_X12_days_1, zp_X12_days_2]
noncomputable def zp_X12_walks_0 : List ECE := (.aload_n 0, 0, 0, 0, 0, []) :: (.iconst 0, 1, 0, 0, 0, []) :: (.putfield 3, 2, 12, 0, 0, []) :: (.aload_n 0, 5, 0, 0, 0, []) :: (.invokevirtual 332, 6, 245, 1, 13, [0, 0]) :: (.aload_n 0, 9, 0, 0, 0, []) :: (.aload_n 0, 10, 0, 0, 0, []) :: (.iload_n 1, 11, 1, 0, 0, []) :: (.iload_n 2, 12, 2, 0, 0, []) :: (.invokevirtual 358, 13, 255, 3, 13, [0, 0]) :: (.invokevirtual 338, 16, 247, 2, 13, [0, 0]) :: (.ireturn, 19, 0, 0, 0, []) :: []
noncomputable def zp_X12_walks : List (List ECE) := [zp_X12_walks_0]
noncomputable def zp_X12_gives_0 : List ECE := (.aload_n 0, 0, 0, 0, 0, []) :: (.iconst 0, 1, 0, 0, 0, []) :: (.putfield 3, 2, 12, 0, 0, []) :: (.aload_n 0, 5, 0, 0, 0, []) :: (.invokevirtual 332, 6, 245, 1, 13, [0, 0]) :: (.aload_n 0, 9, 0, 0, 0, []) :: (.aload_n 0, 10, 0, 0, 0, []) :: (.iload_n 1, 11, 1, 0, 0, []) :: (.iload_n 2, 12, 2, 0, 0, []) :: (.iload_n 3, 13, 3, 0, 0, []) :: (.invokevirtual 361, 14, 257, 4, 13, [0, 0]) :: (.invokevirtual 338, 17, 247, 2, 13, [0, 0]) :: (.ireturn, 20, 0, 0, 0, []) :: []
noncomputable def zp_X12_gives : List (List ECE) := [zp_X12_gives_0]
noncomputable def zp_X12_falls_0 : List ECE := (.aload_n 0, 0, 0, 0, 0, []) :: (.iconst 0, 1, 0, 0, 0, []) :: (.putfield 3, 2, 12, 0, 0, []) :: (.aload_n 0, 5, 0, 0, 0, []) :: (.invokevirtual 332, 6, 245, 1, 13, [0, 0]) :: (.aload_n 0, 9, 0, 0, 0, []) :: (.aload_n 0, 10, 0, 0, 0, []) :: (.iload_n 1, 11, 1, 0, 0, []) :: (.invokevirtual 364, 12, 258, 2, 13, [0, 0]) :: (.invokevirtual 338, 15, 247, 2, 13, [0, 0]) :: (.ireturn, 18, 0, 0, 0, []) :: []
noncomputable def zp_X12_falls : List (List ECE) := [zp_X12_falls_0]
noncomputable def zp_X12_wind_0 : List ECE := (.aload_n 0, 0, 0, 0, 0, []) :: (.iconst 0, 1, 0, 0, 0, []) :: (.putfield 3, 2, 12, 0, 0, []) :: (.aload_n 0, 5, 0, 0, 0, []) :: (.invokevirtual 332, 6, 245, 1, 13, [0, 0]) :: (.aload_n 0, 9, 0, 0, 0, []) :: (.aload_n 0, 10, 0, 0, 0, []) :: (.iload_n 1, 11, 1, 0, 0, []) :: (.invokevirtual 367, 12, 259, 2, 13, [0, 0]) :: (.invokevirtual 338, 15, 247, 2, 13, [0, 0]) :: (.ireturn, 18, 0, 0, 0, []) :: []
noncomputable def zp_X12_wind : List (List ECE) := [zp_X12_wind_0]
noncomputable def zp_X12_wedding_4 : List ECE := (.getfield 32, 118, 12, 7, 0, []) :: (.invokevirtual 383, 121, 211, 2, 13, [0, 0]) :: (.i2l, 124, 0, 0, 0, []) :: (.invokevirtual 18, 125, 200, 2, 13, [0, 0]) :: (.iload 4, 128, 4, 0, 0, []) :: (.ifCond .le 12, 130, 74, 0, 0, []) :: (.aload_n 0, 133, 0, 0, 0, []) :: (.iload 4, 134, 4, 0, 0, []) :: (.invokevirtual 302, 136, 246, 2, 13, [0, 0]) :: (.goto 4, 139, 75, 0, 0, []) :: (.iconst 0, 142, 0, 0, 0, []) :: (.ireturn, 143, 0, 0, 0, []) :: []
noncomputable def zp_X12_wedding_3 : List ECE := (.iconst 0, 89, 0, 0, 0, []) :: (.putfield 15, 90, 12, 1, 0, []) :: (.aload_n 0, 93, 0, 0, 0, []) :: (.iload 4, 94, 4, 0, 0, []) :: (.aload_n 0, 96, 0, 0, 0, []) :: (.getfield 370, 97, 12, 29, 0, []) :: (.if_icmp .ge 7, 100, 57, 0, 0, []) :: (.iconst 1, 103, 1, 0, 0, []) :: (.goto 4, 104, 58, 0, 0, []) :: (.iconst 0, 107, 0, 0, 0, []) :: (.invokestatic 138, 108, 198, 1, 0, [0, 0]) :: (.i2l, 111, 0, 0, 0, []) :: (.invokevirtual 18, 112, 200, 2, 13, [0, 0]) :: (.aload_n 0, 115, 0, 0, 0, []) :: (.aload_n 0, 116, 0, 0, 0, []) :: (.aload_n 0, 117, 0, 0, 0, []) :: zp_X12_wedding_4
noncomputable def zp_X12_wedding_2 : List ECE := (.ireturn, 56, 0, 0, 0, []) :: (.aload_n 0, 57, 0, 0, 0, []) :: (.invokevirtual 332, 58, 245, 1, 13, [0, 0]) :: (.iconst 0, 61, 0, 0, 0, []) :: (.istore 4, 62, 4, 0, 0, []) :: (.iload 4, 64, 4, 0, 0, []) :: (.aload_n 0, 66, 0, 0, 0, []) :: (.getfield 370, 67, 12, 29, 0, []) :: (.if_icmp .ge 18, 70, 47, 0, 0, []) :: (.aload_n 0, 73, 0, 0, 0, []) :: (.iload 4, 74, 4, 0, 0, []) :: (.invokevirtual 380, 76, 269, 2, 13, [0, 0]) :: (.ifCond .eq 9, 79, 47, 0, 0, []) :: (.iinc 4 1, 82, 4, 1, 0, []) :: (.goto (-21), 85, 37, 0, 0, []) :: (.aload_n 0, 88, 0, 0, 0, []) :: zp_X12_wedding_3
noncomputable def zp_X12_wedding_1 : List ECE := (.aload_n 0, 27, 0, 0, 0, []) :: (.getfield 172, 28, 12, 12, 0, []) :: (.if_icmp .ge 11, 31, 23, 0, 0, []) :: (.aload_n 0, 34, 0, 0, 0, []) :: (.invokevirtual 377, 35, 268, 1, 13, [0, 0]) :: (.istore_n 2, 38, 2, 0, 0, []) :: (.goto (-20), 39, 12, 0, 0, []) :: (.aload_n 0, 42, 0, 0, 0, []) :: (.iload_n 1, 43, 1, 0, 0, []) :: (.bipush 60, 44, 60, 0, 0, []) :: (.iload_n 2, 46, 2, 0, 0, []) :: (.invokevirtual 206, 47, 224, 4, 13, [0, 0]) :: (.istore_n 3, 50, 3, 0, 0, []) :: (.iload_n 3, 51, 3, 0, 0, []) :: (.ifCond .ge 5, 52, 33, 0, 0, []) :: (.iload_n 3, 55, 3, 0, 0, []) :: zp_X12_wedding_2
noncomputable def zp_X12_wedding_0 : List ECE := (.aload_n 0, 0, 0, 0, 0, []) :: (.iconst 0, 1, 0, 0, 0, []) :: (.putfield 3, 2, 12, 0, 0, []) :: (.aload_n 0, 5, 0, 0, 0, []) :: (.bipush 60, 6, 60, 0, 0, []) :: (.invokevirtual 193, 8, 218, 2, 13, [0, 0]) :: (.istore_n 1, 11, 1, 0, 0, []) :: (.aload_n 0, 12, 0, 0, 0, []) :: (.iconst 0, 13, 0, 0, 0, []) :: (.putfield 370, 14, 12, 29, 0, []) :: (.iconst 1, 17, 1, 0, 0, []) :: (.istore_n 2, 18, 2, 0, 0, []) :: (.iload_n 2, 19, 2, 0, 0, []) :: (.ifCond .eq 22, 20, 23, 0, 0, []) :: (.aload_n 0, 23, 0, 0, 0, []) :: (.getfield 160, 24, 12, 11, 0, []) :: zp_X12_wedding_1
noncomputable def zp_X12_wedding : List (List ECE) := [zp_X12_wedding_0, zp_X12_wedding_1, zp_X12_wedding_2, zp_X12_wedding_3, zp_X12_wedding_4]
noncomputable def zp_X12_later_3 : List ECE := (.iload_n 2, 86, 2, 0, 0, []) :: (.iadd, 87, 0, 0, 0, []) :: (.iaload, 88, 0, 0, 0, []) :: (.ireturn, 89, 0, 0, 0, []) :: []
noncomputable def zp_X12_later_2 : List ECE := (.getfield 35, 56, 12, 8, 0, []) :: (.invokestatic 352, 59, 212, 1, 0, [0, 0]) :: (.i2l, 62, 0, 0, 0, []) :: (.invokevirtual 18, 63, 200, 2, 13, [0, 0]) :: (.aload_n 0, 66, 0, 0, 0, []) :: (.aload_n 0, 67, 0, 0, 0, []) :: (.aload_n 0, 68, 0, 0, 0, []) :: (.getfield 35, 69, 12, 8, 0, []) :: (.invokevirtual 383, 72, 211, 2, 13, [0, 0]) :: (.i2l, 75, 0, 0, 0, []) :: (.invokevirtual 18, 76, 200, 2, 13, [0, 0]) :: (.aload_n 0, 79, 0, 0, 0, []) :: (.getfield 35, 80, 12, 8, 0, []) :: (.iconst 4, 83, 4, 0, 0, []) :: (.iload_n 1, 84, 1, 0, 0, []) :: (.imul, 85, 0, 0, 0, []) :: zp_X12_later_3
noncomputable def zp_X12_later_1 : List ECE := (.aload_n 0, 28, 0, 0, 0, []) :: (.getfield 35, 29, 12, 8, 0, []) :: (.aload_n 0, 32, 0, 0, 0, []) :: (.getfield 32, 33, 12, 7, 0, []) :: (.invokestatic 386, 36, 215, 2, 0, [0, 0]) :: (.aload_n 0, 39, 0, 0, 0, []) :: (.aload_n 0, 40, 0, 0, 0, []) :: (.getfield 35, 41, 12, 8, 0, []) :: (.iload_n 3, 44, 3, 0, 0, []) :: (.invokevirtual 349, 45, 250, 3, 13, [0, 0]) :: (.pop, 48, 0, 0, 0, []) :: (.aload_n 0, 49, 0, 0, 0, []) :: (.iconst 0, 50, 0, 0, 0, []) :: (.putfield 15, 51, 12, 1, 0, []) :: (.aload_n 0, 54, 0, 0, 0, []) :: (.aload_n 0, 55, 0, 0, 0, []) :: zp_X12_later_2
noncomputable def zp_X12_later_0 : List ECE := (.aload_n 0, 0, 0, 0, 0, []) :: (.iconst 0, 1, 0, 0, 0, []) :: (.putfield 3, 2, 12, 0, 0, []) :: (.aload_n 0, 5, 0, 0, 0, []) :: (.iload_n 1, 6, 1, 0, 0, []) :: (.iload_n 2, 7, 2, 0, 0, []) :: (.invokevirtual 289, 8, 204, 3, 13, [0, 0]) :: (.ifCond .eq 15, 11, 14, 0, 0, []) :: (.iload_n 3, 14, 3, 0, 0, []) :: (.i2l, 15, 0, 0, 0, []) :: (.lconst 0, 16, 0, 0, 0, []) :: (.ldc2_w 347, 17, 60, 0, 0, []) :: (.invokestatic 123, 20, 196, 3, 0, [0, 0]) :: (.ifCond .ne 5, 23, 16, 0, 0, []) :: (.iconst (-1), 26, 4294967295, 0, 0, []) :: (.ireturn, 27, 0, 0, 0, []) :: zp_X12_later_1
noncomputable def zp_X12_later : List (List ECE) := [zp_X12_later_0, zp_X12_later_1, zp_X12_later_2, zp_X12_later_3]
noncomputable def zp_X12_when_3 : List ECE := (.ireturn, 87, 0, 0, 0, []) :: (.aload_n 0, 88, 0, 0, 0, []) :: (.aload_n 0, 89, 0, 0, 0, []) :: (.getfield 35, 90, 12, 8, 0, []) :: (.invokevirtual 308, 93, 249, 2, 13, [0, 0]) :: (.pop, 96, 0, 0, 0, []) :: (.iinc 3 1, 97, 3, 1, 0, []) :: (.goto (-64), 100, 20, 0, 0, []) :: (.bipush (-2), 103, 4294967294, 0, 0, []) :: (.ireturn, 105, 0, 0, 0, []) :: []
noncomputable def zp_X12_when_2 : List ECE := (.putfield 15, 57, 12, 1, 0, []) :: (.aload_n 0, 60, 0, 0, 0, []) :: (.aload_n 0, 61, 0, 0, 0, []) :: (.getfield 35, 62, 12, 8, 0, []) :: (.iload_n 2, 65, 2, 0, 0, []) :: (.iload_n 1, 66, 1, 0, 0, []) :: (.invokestatic 142, 67, 209, 3, 0, [0, 0]) :: (.i2l, 70, 0, 0, 0, []) :: (.invokevirtual 18, 71, 200, 2, 13, [0, 0]) :: (.aload_n 0, 74, 0, 0, 0, []) :: (.aload_n 0, 75, 0, 0, 0, []) :: (.getfield 35, 76, 12, 8, 0, []) :: (.invokestatic 352, 79, 212, 1, 0, [0, 0]) :: (.i2l, 82, 0, 0, 0, []) :: (.invokevirtual 18, 83, 200, 2, 13, [0, 0]) :: (.iload_n 3, 86, 3, 0, 0, []) :: zp_X12_when_3
noncomputable def zp_X12_when_1 : List ECE := (.getfield 32, 28, 12, 7, 0, []) :: (.invokestatic 386, 31, 215, 2, 0, [0, 0]) :: (.iconst 0, 34, 0, 0, 0, []) :: (.istore_n 3, 35, 3, 0, 0, []) :: (.iload_n 3, 36, 3, 0, 0, []) :: (.bipush 60, 37, 60, 0, 0, []) :: (.if_icmp .gt 64, 39, 56, 0, 0, []) :: (.aload_n 0, 42, 0, 0, 0, []) :: (.aload_n 0, 43, 0, 0, 0, []) :: (.getfield 35, 44, 12, 8, 0, []) :: (.iload_n 2, 47, 2, 0, 0, []) :: (.iload_n 1, 48, 1, 0, 0, []) :: (.invokevirtual 154, 49, 213, 4, 13, [0, 0]) :: (.ifCond .eq 36, 52, 49, 0, 0, []) :: (.aload_n 0, 55, 0, 0, 0, []) :: (.iconst 0, 56, 0, 0, 0, []) :: zp_X12_when_2
noncomputable def zp_X12_when_0 : List ECE := (.aload_n 0, 0, 0, 0, 0, []) :: (.iconst 0, 1, 0, 0, 0, []) :: (.putfield 3, 2, 12, 0, 0, []) :: (.aload_n 0, 5, 0, 0, 0, []) :: (.iload_n 1, 6, 1, 0, 0, []) :: (.invokevirtual 292, 7, 205, 2, 13, [0, 0]) :: (.ifCond .eq 11, 10, 11, 0, 0, []) :: (.aload_n 0, 13, 0, 0, 0, []) :: (.iload_n 2, 14, 2, 0, 0, []) :: (.invokevirtual 127, 15, 203, 2, 13, [0, 0]) :: (.ifCond .ne 5, 18, 13, 0, 0, []) :: (.iconst (-1), 21, 4294967295, 0, 0, []) :: (.ireturn, 22, 0, 0, 0, []) :: (.aload_n 0, 23, 0, 0, 0, []) :: (.getfield 35, 24, 12, 8, 0, []) :: (.aload_n 0, 27, 0, 0, 0, []) :: zp_X12_when_1
noncomputable def zp_X12_when : List (List ECE) := [zp_X12_when_0, zp_X12_when_1, zp_X12_when_2, zp_X12_when_3]
noncomputable def zp_X12_clean_2 : List ECE := (.invokevirtual 308, 59, 249, 2, 13, [0, 0]) :: (.pop, 62, 0, 0, 0, []) :: (.iinc 1 1, 63, 1, 1, 0, []) :: (.goto (-48), 66, 10, 0, 0, []) :: (.bipush (-2), 69, 4294967294, 0, 0, []) :: (.ireturn, 71, 0, 0, 0, []) :: []
noncomputable def zp_X12_clean_1 : List ECE := (.ifCond .ne 23, 31, 29, 0, 0, []) :: (.aload_n 0, 34, 0, 0, 0, []) :: (.iconst 0, 35, 0, 0, 0, []) :: (.putfield 15, 36, 12, 1, 0, []) :: (.aload_n 0, 39, 0, 0, 0, []) :: (.aload_n 0, 40, 0, 0, 0, []) :: (.aload_n 0, 41, 0, 0, 0, []) :: (.getfield 35, 42, 12, 8, 0, []) :: (.invokevirtual 355, 45, 214, 2, 13, [0, 0]) :: (.i2l, 48, 0, 0, 0, []) :: (.invokevirtual 18, 49, 200, 2, 13, [0, 0]) :: (.iload_n 1, 52, 1, 0, 0, []) :: (.ireturn, 53, 0, 0, 0, []) :: (.aload_n 0, 54, 0, 0, 0, []) :: (.aload_n 0, 55, 0, 0, 0, []) :: (.getfield 35, 56, 12, 8, 0, []) :: zp_X12_clean_2
noncomputable def zp_X12_clean_0 : List ECE := (.aload_n 0, 0, 0, 0, 0, []) :: (.iconst 0, 1, 0, 0, 0, []) :: (.putfield 3, 2, 12, 0, 0, []) :: (.aload_n 0, 5, 0, 0, 0, []) :: (.getfield 35, 6, 12, 8, 0, []) :: (.aload_n 0, 9, 0, 0, 0, []) :: (.getfield 32, 10, 12, 7, 0, []) :: (.invokestatic 386, 13, 215, 2, 0, [0, 0]) :: (.iconst 0, 16, 0, 0, 0, []) :: (.istore_n 1, 17, 1, 0, 0, []) :: (.iload_n 1, 18, 1, 0, 0, []) :: (.bipush 60, 19, 60, 0, 0, []) :: (.if_icmp .gt 48, 21, 36, 0, 0, []) :: (.aload_n 0, 24, 0, 0, 0, []) :: (.getfield 35, 25, 12, 8, 0, []) :: (.invokestatic 352, 28, 212, 1, 0, [0, 0]) :: zp_X12_clean_1
noncomputable def zp_X12_clean : List (List ECE) := [zp_X12_clean_0, zp_X12_clean_1, zp_X12_clean_2]
noncomputable def zp_X12_drifts_4 : List ECE := (.goto (-22), 116, 53, 0, 0, []) :: (.aload_n 0, 119, 0, 0, 0, []) :: (.getfield 35, 120, 12, 8, 0, []) :: (.iload_n 2, 123, 2, 0, 0, []) :: (.invokestatic 264, 124, 237, 2, 0, [0, 0]) :: (.ireturn, 127, 0, 0, 0, []) :: []
noncomputable def zp_X12_drifts_3 : List ECE := (.iload_n 2, 87, 2, 0, 0, []) :: (.i2l, 88, 0, 0, 0, []) :: (.invokevirtual 18, 89, 200, 2, 13, [0, 0]) :: (.iconst 0, 92, 0, 0, 0, []) :: (.istore_n 3, 93, 3, 0, 0, []) :: (.iload_n 3, 94, 3, 0, 0, []) :: (.bipush 8, 95, 8, 0, 0, []) :: (.if_icmp .ge 22, 97, 65, 0, 0, []) :: (.aload_n 0, 100, 0, 0, 0, []) :: (.aload_n 0, 101, 0, 0, 0, []) :: (.getfield 35, 102, 12, 8, 0, []) :: (.iload_n 3, 105, 3, 0, 0, []) :: (.invokestatic 264, 106, 237, 2, 0, [0, 0]) :: (.i2l, 109, 0, 0, 0, []) :: (.invokevirtual 18, 110, 200, 2, 13, [0, 0]) :: (.iinc 3 1, 113, 3, 1, 0, []) :: zp_X12_drifts_4
noncomputable def zp_X12_drifts_2 : List ECE := (.invokestatic 264, 55, 237, 2, 0, [0, 0]) :: (.aload_n 0, 58, 0, 0, 0, []) :: (.getfield 35, 59, 12, 8, 0, []) :: (.iload_n 2, 62, 2, 0, 0, []) :: (.invokestatic 264, 63, 237, 2, 0, [0, 0]) :: (.if_icmp .le 7, 66, 40, 0, 0, []) :: (.iload_n 3, 69, 3, 0, 0, []) :: (.goto 4, 70, 41, 0, 0, []) :: (.iload_n 2, 73, 2, 0, 0, []) :: (.istore_n 2, 74, 2, 0, 0, []) :: (.iinc 3 1, 75, 3, 1, 0, []) :: (.goto (-34), 78, 26, 0, 0, []) :: (.aload_n 0, 81, 0, 0, 0, []) :: (.iconst 0, 82, 0, 0, 0, []) :: (.putfield 15, 83, 12, 1, 0, []) :: (.aload_n 0, 86, 0, 0, 0, []) :: zp_X12_drifts_3
noncomputable def zp_X12_drifts_1 : List ECE := (.aload_n 0, 30, 0, 0, 0, []) :: (.aload_n 0, 31, 0, 0, 0, []) :: (.getfield 35, 32, 12, 8, 0, []) :: (.iload_n 1, 35, 1, 0, 0, []) :: (.invokevirtual 349, 36, 250, 3, 13, [0, 0]) :: (.pop, 39, 0, 0, 0, []) :: (.iconst 0, 40, 0, 0, 0, []) :: (.istore_n 2, 41, 2, 0, 0, []) :: (.iconst 1, 42, 1, 0, 0, []) :: (.istore_n 3, 43, 3, 0, 0, []) :: (.iload_n 3, 44, 3, 0, 0, []) :: (.bipush 8, 45, 8, 0, 0, []) :: (.if_icmp .ge 34, 47, 44, 0, 0, []) :: (.aload_n 0, 50, 0, 0, 0, []) :: (.getfield 35, 51, 12, 8, 0, []) :: (.iload_n 3, 54, 3, 0, 0, []) :: zp_X12_drifts_2
noncomputable def zp_X12_drifts_0 : List ECE := (.aload_n 0, 0, 0, 0, 0, []) :: (.iconst 0, 1, 0, 0, 0, []) :: (.putfield 3, 2, 12, 0, 0, []) :: (.iload_n 1, 5, 1, 0, 0, []) :: (.i2l, 6, 0, 0, 0, []) :: (.lconst 0, 7, 0, 0, 0, []) :: (.ldc2_w 347, 8, 60, 0, 0, []) :: (.invokestatic 123, 11, 196, 3, 0, [0, 0]) :: (.ifCond .ne 5, 14, 11, 0, 0, []) :: (.iconst (-1), 17, 4294967295, 0, 0, []) :: (.ireturn, 18, 0, 0, 0, []) :: (.aload_n 0, 19, 0, 0, 0, []) :: (.getfield 35, 20, 12, 8, 0, []) :: (.aload_n 0, 23, 0, 0, 0, []) :: (.getfield 32, 24, 12, 7, 0, []) :: (.invokestatic 386, 27, 215, 2, 0, [0, 0]) :: zp_X12_drifts_1
noncomputable def zp_X12_drifts : List (List ECE) := [zp_X12_drifts_0, zp_X12_drifts_1, zp_X12_drifts_2, zp_X12_drifts_3, zp_X12_drifts_4]
noncomputable def zp_X12_aims_5 : List ECE := (.putfield 15, 155, 12, 1, 0, []) :: (.aload_n 0, 158, 0, 0, 0, []) :: (.iload 5, 159, 5, 0, 0, []) :: (.i2l, 161, 0, 0, 0, []) :: (.invokevirtual 18, 162, 200, 2, 13, [0, 0]) :: (.iload 4, 165, 4, 0, 0, []) :: (.ireturn, 167, 0, 0, 0, []) :: []
noncomputable def zp_X12_aims_4 : List ECE := (.ifCond .ne 8, 120, 67, 0, 0, []) :: (.iload 6, 123, 6, 0, 0, []) :: (.goto 5, 125, 68, 0, 0, []) :: (.iload 4, 128, 4, 0, 0, []) :: (.istore 4, 130, 4, 0, 0, []) :: (.iload 5, 132, 5, 0, 0, []) :: (.iload 7, 134, 7, 0, 0, []) :: (.invokestatic 138, 136, 198, 1, 0, [0, 0]) :: (.iadd, 139, 0, 0, 0, []) :: (.istore 5, 140, 5, 0, 0, []) :: (.iinc 6 1, 142, 6, 1, 0, []) :: (.goto (-83), 145, 34, 0, 0, []) :: (.iload 5, 148, 5, 0, 0, []) :: (.ifCond .le 15, 150, 85, 0, 0, []) :: (.aload_n 0, 153, 0, 0, 0, []) :: (.iconst 0, 154, 0, 0, 0, []) :: zp_X12_aims_5
noncomputable def zp_X12_aims_3 : List ECE := (.aload_n 0, 91, 0, 0, 0, []) :: (.aload_n 0, 92, 0, 0, 0, []) :: (.getfield 35, 93, 12, 8, 0, []) :: (.iload_n 3, 96, 3, 0, 0, []) :: (.invokevirtual 349, 97, 250, 3, 13, [0, 0]) :: (.pop, 100, 0, 0, 0, []) :: (.aload_n 0, 101, 0, 0, 0, []) :: (.aload_n 0, 102, 0, 0, 0, []) :: (.getfield 35, 103, 12, 8, 0, []) :: (.iload_n 1, 106, 1, 0, 0, []) :: (.iload_n 2, 107, 2, 0, 0, []) :: (.invokevirtual 154, 108, 213, 4, 13, [0, 0]) :: (.istore 7, 111, 7, 0, 0, []) :: (.iload 7, 113, 7, 0, 0, []) :: (.ifCond .eq 13, 115, 67, 0, 0, []) :: (.iload 5, 118, 5, 0, 0, []) :: zp_X12_aims_4
noncomputable def zp_X12_aims_2 : List ECE := (.iconst 0, 59, 0, 0, 0, []) :: (.istore 6, 60, 6, 0, 0, []) :: (.iload 6, 62, 6, 0, 0, []) :: (.bipush 8, 64, 8, 0, 0, []) :: (.if_icmp .ge 82, 66, 76, 0, 0, []) :: (.aload_n 0, 69, 0, 0, 0, []) :: (.getfield 35, 70, 12, 8, 0, []) :: (.aload_n 0, 73, 0, 0, 0, []) :: (.getfield 32, 74, 12, 7, 0, []) :: (.invokestatic 386, 77, 215, 2, 0, [0, 0]) :: (.aload_n 0, 80, 0, 0, 0, []) :: (.aload_n 0, 81, 0, 0, 0, []) :: (.getfield 35, 82, 12, 8, 0, []) :: (.iload_n 1, 85, 1, 0, 0, []) :: (.iload 6, 86, 6, 0, 0, []) :: (.invokevirtual 319, 88, 252, 4, 13, [0, 0]) :: zp_X12_aims_3
noncomputable def zp_X12_aims_1 : List ECE := (.ifCond .ne 5, 30, 19, 0, 0, []) :: (.iconst (-1), 33, 4294967295, 0, 0, []) :: (.ireturn, 34, 0, 0, 0, []) :: (.aload_n 0, 35, 0, 0, 0, []) :: (.getfield 32, 36, 12, 7, 0, []) :: (.bipush 26, 39, 26, 0, 0, []) :: (.iaload, 41, 0, 0, 0, []) :: (.iload_n 1, 42, 1, 0, 0, []) :: (.invokestatic 282, 43, 197, 2, 0, [0, 0]) :: (.ifCond .eq 6, 46, 28, 0, 0, []) :: (.bipush (-3), 49, 4294967293, 0, 0, []) :: (.ireturn, 51, 0, 0, 0, []) :: (.bipush (-2), 52, 4294967294, 0, 0, []) :: (.istore 4, 54, 4, 0, 0, []) :: (.iconst 0, 56, 0, 0, 0, []) :: (.istore 5, 57, 5, 0, 0, []) :: zp_X12_aims_2
noncomputable def zp_X12_aims_0 : List ECE := (.aload_n 0, 0, 0, 0, 0, []) :: (.iconst 0, 1, 0, 0, 0, []) :: (.putfield 3, 2, 12, 0, 0, []) :: (.aload_n 0, 5, 0, 0, 0, []) :: (.iload_n 1, 6, 1, 0, 0, []) :: (.invokevirtual 127, 7, 203, 2, 13, [0, 0]) :: (.ifCond .eq 23, 10, 17, 0, 0, []) :: (.aload_n 0, 13, 0, 0, 0, []) :: (.iload_n 2, 14, 2, 0, 0, []) :: (.invokevirtual 292, 15, 205, 2, 13, [0, 0]) :: (.ifCond .eq 15, 18, 17, 0, 0, []) :: (.iload_n 3, 21, 3, 0, 0, []) :: (.i2l, 22, 0, 0, 0, []) :: (.lconst 0, 23, 0, 0, 0, []) :: (.ldc2_w 390, 24, 30, 0, 0, []) :: (.invokestatic 123, 27, 196, 3, 0, [0, 0]) :: zp_X12_aims_1
noncomputable def zp_X12_aims : List (List ECE) := [zp_X12_aims_0, zp_X12_aims_1, zp_X12_aims_2, zp_X12_aims_3, zp_X12_aims_4, zp_X12_aims_5]
noncomputable def zp_X12_prays_4 : List ECE := (.invokevirtual 18, 111, 200, 2, 13, [0, 0]) :: (.bipush 10, 114, 10, 0, 0, []) :: (.iload_n 3, 116, 3, 0, 0, []) :: (.iadd, 117, 0, 0, 0, []) :: (.ireturn, 118, 0, 0, 0, []) :: []
noncomputable def zp_X12_prays_3 : List ECE := (.iload_n 3, 85, 3, 0, 0, []) :: (.iload_n 2, 86, 2, 0, 0, []) :: (.invokevirtual 392, 87, 276, 5, 13, [0, 0]) :: (.i2l, 90, 0, 0, 0, []) :: (.invokevirtual 18, 91, 200, 2, 13, [0, 0]) :: (.aload_n 0, 94, 0, 0, 0, []) :: (.aload_n 0, 95, 0, 0, 0, []) :: (.iload_n 1, 96, 1, 0, 0, []) :: (.bipush 27, 97, 27, 0, 0, []) :: (.aload_n 0, 99, 0, 0, 0, []) :: (.getfield 32, 100, 12, 7, 0, []) :: (.bipush 27, 103, 27, 0, 0, []) :: (.iaload, 105, 0, 0, 0, []) :: (.iload_n 2, 106, 2, 0, 0, []) :: (.invokevirtual 392, 107, 276, 5, 13, [0, 0]) :: (.i2l, 110, 0, 0, 0, []) :: zp_X12_prays_4
noncomputable def zp_X12_prays_2 : List ECE := (.iload_n 2, 55, 2, 0, 0, []) :: (.invokevirtual 392, 56, 276, 5, 13, [0, 0]) :: (.if_icmp .le 8, 59, 37, 0, 0, []) :: (.iload 4, 62, 4, 0, 0, []) :: (.goto 4, 64, 38, 0, 0, []) :: (.iload_n 3, 67, 3, 0, 0, []) :: (.istore_n 3, 68, 3, 0, 0, []) :: (.iinc 4 1, 69, 4, 1, 0, []) :: (.goto (-38), 72, 19, 0, 0, []) :: (.aload_n 0, 75, 0, 0, 0, []) :: (.iconst 0, 76, 0, 0, 0, []) :: (.putfield 15, 77, 12, 1, 0, []) :: (.aload_n 0, 80, 0, 0, 0, []) :: (.aload_n 0, 81, 0, 0, 0, []) :: (.iload_n 1, 82, 1, 0, 0, []) :: (.bipush 27, 83, 27, 0, 0, []) :: zp_X12_prays_3
noncomputable def zp_X12_prays_1 : List ECE := (.istore_n 3, 29, 3, 0, 0, []) :: (.bipush (-2), 30, 4294967294, 0, 0, []) :: (.istore 4, 32, 4, 0, 0, []) :: (.iload 4, 34, 4, 0, 0, []) :: (.iconst 3, 36, 3, 0, 0, []) :: (.if_icmp .gt 38, 37, 41, 0, 0, []) :: (.aload_n 0, 40, 0, 0, 0, []) :: (.iload_n 1, 41, 1, 0, 0, []) :: (.bipush 27, 42, 27, 0, 0, []) :: (.iload 4, 44, 4, 0, 0, []) :: (.iload_n 2, 46, 2, 0, 0, []) :: (.invokevirtual 392, 47, 276, 5, 13, [0, 0]) :: (.aload_n 0, 50, 0, 0, 0, []) :: (.iload_n 1, 51, 1, 0, 0, []) :: (.bipush 27, 52, 27, 0, 0, []) :: (.iload_n 3, 54, 3, 0, 0, []) :: zp_X12_prays_2
noncomputable def zp_X12_prays_0 : List ECE := (.aload_n 0, 0, 0, 0, 0, []) :: (.iconst 0, 1, 0, 0, 0, []) :: (.putfield 3, 2, 12, 0, 0, []) :: (.aload_n 0, 5, 0, 0, 0, []) :: (.iload_n 1, 6, 1, 0, 0, []) :: (.invokevirtual 292, 7, 205, 2, 13, [0, 0]) :: (.ifCond .eq 15, 10, 13, 0, 0, []) :: (.iload_n 2, 13, 2, 0, 0, []) :: (.i2l, 14, 0, 0, 0, []) :: (.lconst 0, 15, 0, 0, 0, []) :: (.ldc2_w 390, 16, 30, 0, 0, []) :: (.invokestatic 123, 19, 196, 3, 0, [0, 0]) :: (.ifCond .ne 5, 22, 15, 0, 0, []) :: (.iconst (-1), 25, 4294967295, 0, 0, []) :: (.ireturn, 26, 0, 0, 0, []) :: (.bipush (-3), 27, 4294967293, 0, 0, []) :: zp_X12_prays_1
noncomputable def zp_X12_prays : List (List ECE) := [zp_X12_prays_0, zp_X12_prays_1, zp_X12_prays_2, zp_X12_prays_3, zp_X12_prays_4]
noncomputable def zp_X12_seeks_5 : List ECE := (.invokestatic 323, 145, 324, 1, 0, [0, 0]) :: (.i2l, 148, 0, 0, 0, []) :: (.invokevirtual 18, 149, 200, 2, 13, [0, 0]) :: (.iload_n 3, 152, 3, 0, 0, []) :: (.ireturn, 153, 0, 0, 0, []) :: []
noncomputable def zp_X12_seeks_4 : List ECE := (.aload_n 0, 121, 0, 0, 0, []) :: (.iconst 0, 122, 0, 0, 0, []) :: (.putfield 15, 123, 12, 1, 0, []) :: (.aload_n 0, 126, 0, 0, 0, []) :: (.iload 4, 127, 4, 0, 0, []) :: (.i2l, 129, 0, 0, 0, []) :: (.invokevirtual 18, 130, 200, 2, 13, [0, 0]) :: (.aload_n 0, 133, 0, 0, 0, []) :: (.iload_n 3, 134, 3, 0, 0, []) :: (.aload_n 0, 135, 0, 0, 0, []) :: (.getfield 32, 136, 12, 7, 0, []) :: (.bipush 20, 139, 20, 0, 0, []) :: (.iload_n 1, 141, 1, 0, 0, []) :: (.iadd, 142, 0, 0, 0, []) :: (.iaload, 143, 0, 0, 0, []) :: (.isub, 144, 0, 0, 0, []) :: zp_X12_seeks_5
noncomputable def zp_X12_seeks_3 : List ECE := (.istore 7, 84, 7, 0, 0, []) :: (.iload 7, 86, 7, 0, 0, []) :: (.iload 4, 88, 4, 0, 0, []) :: (.if_icmp .le 8, 90, 54, 0, 0, []) :: (.iload 6, 93, 6, 0, 0, []) :: (.goto 4, 95, 55, 0, 0, []) :: (.iload_n 3, 98, 3, 0, 0, []) :: (.istore_n 3, 99, 3, 0, 0, []) :: (.iload 4, 100, 4, 0, 0, []) :: (.iload 7, 102, 7, 0, 0, []) :: (.invokestatic 270, 104, 325, 2, 0, [0, 0]) :: (.istore 4, 107, 4, 0, 0, []) :: (.iinc 6 1, 109, 6, 1, 0, []) :: (.goto (-67), 112, 26, 0, 0, []) :: (.iinc 5 1, 115, 5, 1, 0, []) :: (.goto (-83), 118, 21, 0, 0, []) :: zp_X12_seeks_4
noncomputable def zp_X12_seeks_2 : List ECE := (.bipush 20, 58, 20, 0, 0, []) :: (.iload_n 1, 60, 1, 0, 0, []) :: (.iadd, 61, 0, 0, 0, []) :: (.iaload, 62, 0, 0, 0, []) :: (.isub, 63, 0, 0, 0, []) :: (.invokestatic 323, 64, 324, 1, 0, [0, 0]) :: (.iload 5, 67, 5, 0, 0, []) :: (.if_icmp .ne 40, 69, 60, 0, 0, []) :: (.aload_n 0, 72, 0, 0, 0, []) :: (.iload_n 1, 73, 1, 0, 0, []) :: (.bipush 20, 74, 20, 0, 0, []) :: (.iload_n 1, 76, 1, 0, 0, []) :: (.iadd, 77, 0, 0, 0, []) :: (.iload 6, 78, 6, 0, 0, []) :: (.iload_n 2, 80, 2, 0, 0, []) :: (.invokevirtual 392, 81, 276, 5, 13, [0, 0]) :: zp_X12_seeks_3
noncomputable def zp_X12_seeks_1 : List ECE := (.istore_n 3, 28, 3, 0, 0, []) :: (.iconst (-1), 29, 4294967295, 0, 0, []) :: (.istore 4, 30, 4, 0, 0, []) :: (.iconst 0, 32, 0, 0, 0, []) :: (.istore 5, 33, 5, 0, 0, []) :: (.iload 5, 35, 5, 0, 0, []) :: (.bipush 8, 37, 8, 0, 0, []) :: (.if_icmp .ge 82, 39, 64, 0, 0, []) :: (.iconst 0, 42, 0, 0, 0, []) :: (.istore 6, 43, 6, 0, 0, []) :: (.iload 6, 45, 6, 0, 0, []) :: (.bipush 8, 47, 8, 0, 0, []) :: (.if_icmp .ge 66, 49, 62, 0, 0, []) :: (.iload 6, 52, 6, 0, 0, []) :: (.aload_n 0, 54, 0, 0, 0, []) :: (.getfield 32, 55, 12, 7, 0, []) :: zp_X12_seeks_2
noncomputable def zp_X12_seeks_0 : List ECE := (.aload_n 0, 0, 0, 0, 0, []) :: (.iconst 0, 1, 0, 0, 0, []) :: (.putfield 3, 2, 12, 0, 0, []) :: (.aload_n 0, 5, 0, 0, 0, []) :: (.iload_n 1, 6, 1, 0, 0, []) :: (.invokevirtual 292, 7, 205, 2, 13, [0, 0]) :: (.ifCond .eq 15, 10, 13, 0, 0, []) :: (.iload_n 2, 13, 2, 0, 0, []) :: (.i2l, 14, 0, 0, 0, []) :: (.lconst 0, 15, 0, 0, 0, []) :: (.ldc2_w 390, 16, 30, 0, 0, []) :: (.invokestatic 123, 19, 196, 3, 0, [0, 0]) :: (.ifCond .ne 5, 22, 15, 0, 0, []) :: (.iconst (-1), 25, 4294967295, 0, 0, []) :: (.ireturn, 26, 0, 0, 0, []) :: (.iconst (-1), 27, 4294967295, 0, 0, []) :: zp_X12_seeks_1
noncomputable def zp_X12_seeks : List (List ECE) := [zp_X12_seeks_0, zp_X12_seeks_1, zp_X12_seeks_2, zp_X12_seeks_3, zp_X12_seeks_4, zp_X12_seeks_5]
noncomputable def zp_X12_whole_3 : List ECE := (.istore_n 2, 72, 2, 0, 0, []) :: (.iinc 3 1, 73, 3, 1, 0, []) :: (.goto (-57), 76, 13, 0, 0, []) :: (.aload_n 0, 79, 0, 0, 0, []) :: (.iconst 0, 80, 0, 0, 0, []) :: (.putfield 15, 81, 12, 1, 0, []) :: (.aload_n 0, 84, 0, 0, 0, []) :: (.iload_n 2, 85, 2, 0, 0, []) :: (.i2l, 86, 0, 0, 0, []) :: (.invokevirtual 18, 87, 200, 2, 13, [0, 0]) :: (.iload_n 2, 90, 2, 0, 0, []) :: (.invokestatic 312, 91, 323, 1, 0, [0, 0]) :: (.ireturn, 94, 0, 0, 0, []) :: []
noncomputable def zp_X12_whole_2 : List ECE := (.bipush (-2), 52, 4294967294, 0, 0, []) :: (.ireturn, 54, 0, 0, 0, []) :: (.iload_n 2, 55, 2, 0, 0, []) :: (.iconst 1, 56, 1, 0, 0, []) :: (.aload_n 0, 57, 0, 0, 0, []) :: (.getfield 32, 58, 12, 7, 0, []) :: (.iconst 4, 61, 4, 0, 0, []) :: (.iload_n 1, 62, 1, 0, 0, []) :: (.imul, 63, 0, 0, 0, []) :: (.iload_n 3, 64, 3, 0, 0, []) :: (.iadd, 65, 0, 0, 0, []) :: (.iaload, 66, 0, 0, 0, []) :: (.bipush 10, 67, 10, 0, 0, []) :: (.isub, 69, 0, 0, 0, []) :: (.ishl, 70, 0, 0, 0, []) :: (.ior, 71, 0, 0, 0, []) :: zp_X12_whole_3
noncomputable def zp_X12_whole_1 : List ECE := (.iload_n 1, 24, 1, 0, 0, []) :: (.iaload, 25, 0, 0, 0, []) :: (.if_icmp .ge 53, 26, 51, 0, 0, []) :: (.aload_n 0, 29, 0, 0, 0, []) :: (.getfield 32, 30, 12, 7, 0, []) :: (.iconst 4, 33, 4, 0, 0, []) :: (.iload_n 1, 34, 1, 0, 0, []) :: (.imul, 35, 0, 0, 0, []) :: (.iload_n 3, 36, 3, 0, 0, []) :: (.iadd, 37, 0, 0, 0, []) :: (.iaload, 38, 0, 0, 0, []) :: (.i2l, 39, 0, 0, 0, []) :: (.ldc2_w 278, 40, 10, 0, 0, []) :: (.ldc2_w 280, 43, 19, 0, 0, []) :: (.invokestatic 123, 46, 196, 3, 0, [0, 0]) :: (.ifCond .ne 6, 49, 34, 0, 0, []) :: zp_X12_whole_2
noncomputable def zp_X12_whole_0 : List ECE := (.aload_n 0, 0, 0, 0, 0, []) :: (.iconst 0, 1, 0, 0, 0, []) :: (.putfield 3, 2, 12, 0, 0, []) :: (.aload_n 0, 5, 0, 0, 0, []) :: (.iload_n 1, 6, 1, 0, 0, []) :: (.invokevirtual 127, 7, 203, 2, 13, [0, 0]) :: (.ifCond .ne 5, 10, 9, 0, 0, []) :: (.iconst (-1), 13, 4294967295, 0, 0, []) :: (.ireturn, 14, 0, 0, 0, []) :: (.iconst 0, 15, 0, 0, 0, []) :: (.istore_n 2, 16, 2, 0, 0, []) :: (.iconst 0, 17, 0, 0, 0, []) :: (.istore_n 3, 18, 3, 0, 0, []) :: (.iload_n 3, 19, 3, 0, 0, []) :: (.aload_n 0, 20, 0, 0, 0, []) :: (.getfield 28, 21, 12, 6, 0, []) :: zp_X12_whole_1
noncomputable def zp_X12_whole : List (List ECE) := [zp_X12_whole_0, zp_X12_whole_1, zp_X12_whole_2, zp_X12_whole_3]
noncomputable def zp_X12_holdsOfAll_1 : List ECE := (.invokevirtual 395, 26, 280, 2, 13, [0, 0]) :: (.iload_n 1, 29, 1, 0, 0, []) :: (.iand, 30, 0, 0, 0, []) :: (.ifCond .eq 7, 31, 22, 0, 0, []) :: (.iconst 1, 34, 1, 0, 0, []) :: (.goto 4, 35, 23, 0, 0, []) :: (.iconst 0, 38, 0, 0, 0, []) :: (.istore_n 2, 39, 2, 0, 0, []) :: (.iinc 3 1, 40, 3, 1, 0, []) :: (.goto (-39), 43, 4, 0, 0, []) :: (.iload_n 2, 46, 2, 0, 0, []) :: (.ireturn, 47, 1, 0, 0, []) :: []
noncomputable def zp_X12_holdsOfAll_0 : List ECE := (.iconst 1, 0, 1, 0, 0, []) :: (.istore_n 2, 1, 2, 0, 0, []) :: (.iconst 0, 2, 0, 0, 0, []) :: (.istore_n 3, 3, 3, 0, 0, []) :: (.iload_n 3, 4, 3, 0, 0, []) :: (.aload_n 0, 5, 0, 0, 0, []) :: (.getfield 120, 6, 12, 3, 0, []) :: (.if_icmp .ge 37, 9, 26, 0, 0, []) :: (.iload_n 2, 12, 2, 0, 0, []) :: (.ifCond .eq 25, 13, 22, 0, 0, []) :: (.aload_n 0, 16, 0, 0, 0, []) :: (.iload_n 3, 17, 3, 0, 0, []) :: (.invokevirtual 395, 18, 280, 2, 13, [0, 0]) :: (.ifCond .eq 13, 21, 20, 0, 0, []) :: (.aload_n 0, 24, 0, 0, 0, []) :: (.iload_n 3, 25, 3, 0, 0, []) :: zp_X12_holdsOfAll_1
noncomputable def zp_X12_holdsOfAll : List (List ECE) := [zp_X12_holdsOfAll_0, zp_X12_holdsOfAll_1]
noncomputable def zp_X12_quorum_3 : List ECE := (.iconst 0, 88, 0, 0, 0, []) :: (.putfield 15, 89, 12, 1, 0, []) :: (.aload_n 0, 92, 0, 0, 0, []) :: (.iload_n 1, 93, 1, 0, 0, []) :: (.i2l, 94, 0, 0, 0, []) :: (.invokevirtual 18, 95, 200, 2, 13, [0, 0]) :: (.aload_n 0, 98, 0, 0, 0, []) :: (.iload_n 2, 99, 2, 0, 0, []) :: (.i2l, 100, 0, 0, 0, []) :: (.invokevirtual 18, 101, 200, 2, 13, [0, 0]) :: (.iload_n 1, 104, 1, 0, 0, []) :: (.invokestatic 312, 105, 323, 1, 0, [0, 0]) :: (.ireturn, 108, 0, 0, 0, []) :: []
noncomputable def zp_X12_quorum_2 : List ECE := (.getfield 120, 56, 12, 3, 0, []) :: (.if_icmp .ge 28, 59, 47, 0, 0, []) :: (.iload_n 2, 62, 2, 0, 0, []) :: (.aload_n 0, 63, 0, 0, 0, []) :: (.iload_n 3, 64, 3, 0, 0, []) :: (.invokevirtual 395, 65, 280, 2, 13, [0, 0]) :: (.ifCond .eq 7, 68, 41, 0, 0, []) :: (.iconst 1, 71, 1, 0, 0, []) :: (.goto 4, 72, 42, 0, 0, []) :: (.iconst 0, 75, 0, 0, 0, []) :: (.invokestatic 138, 76, 198, 1, 0, [0, 0]) :: (.iadd, 79, 0, 0, 0, []) :: (.istore_n 2, 80, 2, 0, 0, []) :: (.iinc 3 1, 81, 3, 1, 0, []) :: (.goto (-30), 84, 30, 0, 0, []) :: (.aload_n 0, 87, 0, 0, 0, []) :: zp_X12_quorum_3
noncomputable def zp_X12_quorum_1 : List ECE := (.aload_n 0, 30, 0, 0, 0, []) :: (.iload_n 2, 31, 2, 0, 0, []) :: (.invokevirtual 401, 32, 281, 2, 13, [0, 0]) :: (.ifCond .eq 7, 35, 22, 0, 0, []) :: (.iload_n 2, 38, 2, 0, 0, []) :: (.goto 4, 39, 23, 0, 0, []) :: (.iload_n 1, 42, 1, 0, 0, []) :: (.istore_n 1, 43, 1, 0, 0, []) :: (.iinc 2 (-1), 44, 2, 4294967295, 0, []) :: (.goto (-32), 47, 9, 0, 0, []) :: (.iconst 0, 50, 0, 0, 0, []) :: (.istore_n 2, 51, 2, 0, 0, []) :: (.iconst 0, 52, 0, 0, 0, []) :: (.istore_n 3, 53, 3, 0, 0, []) :: (.iload_n 3, 54, 3, 0, 0, []) :: (.aload_n 0, 55, 0, 0, 0, []) :: zp_X12_quorum_2
noncomputable def zp_X12_quorum_0 : List ECE := (.aload_n 0, 0, 0, 0, 0, []) :: (.iconst 0, 1, 0, 0, 0, []) :: (.putfield 3, 2, 12, 0, 0, []) :: (.aload_n 0, 5, 0, 0, 0, []) :: (.invokevirtual 398, 6, 206, 1, 13, [0, 0]) :: (.istore_n 1, 9, 1, 0, 0, []) :: (.aload_n 0, 10, 0, 0, 0, []) :: (.invokevirtual 398, 11, 206, 1, 13, [0, 0]) :: (.istore_n 2, 14, 2, 0, 0, []) :: (.iload_n 2, 15, 2, 0, 0, []) :: (.ifCond .lt 34, 16, 26, 0, 0, []) :: (.iload_n 2, 19, 2, 0, 0, []) :: (.invokestatic 312, 20, 323, 1, 0, [0, 0]) :: (.iload_n 1, 23, 1, 0, 0, []) :: (.invokestatic 312, 24, 323, 1, 0, [0, 0]) :: (.if_icmp .gt 15, 27, 22, 0, 0, []) :: zp_X12_quorum_1
noncomputable def zp_X12_quorum : List (List ECE) := [zp_X12_quorum_0, zp_X12_quorum_1, zp_X12_quorum_2, zp_X12_quorum_3]
noncomputable def zp_X12_awardsFrom_4 : List ECE := (.iload_n 3, 109, 3, 0, 0, []) :: (.aload_n 0, 110, 0, 0, 0, []) :: (.getfield 32, 111, 12, 7, 0, []) :: (.iload_n 1, 114, 1, 0, 0, []) :: (.iload 4, 115, 4, 0, 0, []) :: (.invokestatic 142, 117, 209, 3, 0, [0, 0]) :: (.iadd, 120, 0, 0, 0, []) :: (.invokevirtual 407, 121, 283, 4, 13, [0, 0]) :: (.iinc 4 1, 124, 4, 1, 0, []) :: (.goto (-54), 127, 42, 0, 0, []) :: (.return_, 130, 0, 0, 0, []) :: []
noncomputable def zp_X12_awardsFrom_3 : List ECE := (.invokestatic 282, 85, 197, 2, 0, [0, 0]) :: (.ifCond .ne 36, 88, 72, 0, 0, []) :: (.aload_n 0, 91, 0, 0, 0, []) :: (.getfield 74, 92, 12, 30, 0, []) :: (.iload_n 1, 95, 1, 0, 0, []) :: (.iload 4, 96, 4, 0, 0, []) :: (.iastore, 98, 0, 0, 0, []) :: (.aload_n 0, 99, 0, 0, 0, []) :: (.iload_n 1, 100, 1, 0, 0, []) :: (.iconst 1, 101, 1, 0, 0, []) :: (.iadd, 102, 0, 0, 0, []) :: (.iload_n 2, 103, 2, 0, 0, []) :: (.iconst 1, 104, 1, 0, 0, []) :: (.iload 4, 105, 4, 0, 0, []) :: (.ishl, 107, 0, 0, 0, []) :: (.ior, 108, 0, 0, 0, []) :: zp_X12_awardsFrom_4
noncomputable def zp_X12_awardsFrom_2 : List ECE := (.iastore, 60, 0, 0, 0, []) :: (.aload_n 0, 61, 0, 0, 0, []) :: (.iload_n 1, 62, 1, 0, 0, []) :: (.iconst 1, 63, 1, 0, 0, []) :: (.iadd, 64, 0, 0, 0, []) :: (.iload_n 2, 65, 2, 0, 0, []) :: (.iload_n 3, 66, 3, 0, 0, []) :: (.invokevirtual 407, 67, 283, 4, 13, [0, 0]) :: (.iconst 0, 70, 0, 0, 0, []) :: (.istore 4, 71, 4, 0, 0, []) :: (.iload 4, 73, 4, 0, 0, []) :: (.aload_n 0, 75, 0, 0, 0, []) :: (.getfield 131, 76, 12, 4, 0, []) :: (.if_icmp .ge 51, 79, 74, 0, 0, []) :: (.iload_n 2, 82, 2, 0, 0, []) :: (.iload 4, 83, 4, 0, 0, []) :: zp_X12_awardsFrom_3
noncomputable def zp_X12_awardsFrom_1 : List ECE := (.if_icmp .ge 23, 30, 27, 0, 0, []) :: (.aload_n 0, 33, 0, 0, 0, []) :: (.getfield 77, 34, 12, 31, 0, []) :: (.iload 4, 37, 4, 0, 0, []) :: (.aload_n 0, 39, 0, 0, 0, []) :: (.getfield 74, 40, 12, 30, 0, []) :: (.iload 4, 43, 4, 0, 0, []) :: (.iaload, 45, 0, 0, 0, []) :: (.iastore, 46, 0, 0, 0, []) :: (.iinc 4 1, 47, 4, 1, 0, []) :: (.goto (-26), 50, 13, 0, 0, []) :: (.return_, 53, 0, 0, 0, []) :: (.aload_n 0, 54, 0, 0, 0, []) :: (.getfield 74, 55, 12, 30, 0, []) :: (.iload_n 1, 58, 1, 0, 0, []) :: (.iconst (-1), 59, 4294967295, 0, 0, []) :: zp_X12_awardsFrom_2
noncomputable def zp_X12_awardsFrom_0 : List ECE := (.iload_n 1, 0, 1, 0, 0, []) :: (.aload_n 0, 1, 0, 0, 0, []) :: (.getfield 120, 2, 12, 3, 0, []) :: (.if_icmp .ne 49, 5, 28, 0, 0, []) :: (.iload_n 3, 8, 3, 0, 0, []) :: (.aload_n 0, 9, 0, 0, 0, []) :: (.getfield 404, 10, 12, 32, 0, []) :: (.if_icmp .le 40, 13, 27, 0, 0, []) :: (.aload_n 0, 16, 0, 0, 0, []) :: (.iload_n 3, 17, 3, 0, 0, []) :: (.putfield 404, 18, 12, 32, 0, []) :: (.iconst 0, 21, 0, 0, 0, []) :: (.istore 4, 22, 4, 0, 0, []) :: (.iload 4, 24, 4, 0, 0, []) :: (.aload_n 0, 26, 0, 0, 0, []) :: (.getfield 120, 27, 12, 3, 0, []) :: zp_X12_awardsFrom_1
noncomputable def zp_X12_awardsFrom : List (List ECE) := [zp_X12_awardsFrom_0, zp_X12_awardsFrom_1, zp_X12_awardsFrom_2, zp_X12_awardsFrom_3, zp_X12_awardsFrom_4]
noncomputable def zp_X12_awards_1 : List ECE := (.iload_n 1, 24, 1, 0, 0, []) :: (.aload_n 0, 25, 0, 0, 0, []) :: (.getfield 120, 26, 12, 3, 0, []) :: (.if_icmp .ge 20, 29, 29, 0, 0, []) :: (.aload_n 0, 32, 0, 0, 0, []) :: (.aload_n 0, 33, 0, 0, 0, []) :: (.getfield 77, 34, 12, 31, 0, []) :: (.iload_n 1, 37, 1, 0, 0, []) :: (.iaload, 38, 0, 0, 0, []) :: (.i2l, 39, 0, 0, 0, []) :: (.invokevirtual 18, 40, 200, 2, 13, [0, 0]) :: (.iinc 1 1, 43, 1, 1, 0, []) :: (.goto (-22), 46, 16, 0, 0, []) :: (.aload_n 0, 49, 0, 0, 0, []) :: (.getfield 404, 50, 12, 32, 0, []) :: (.ireturn, 53, 0, 0, 0, []) :: []
noncomputable def zp_X12_awards_0 : List ECE := (.aload_n 0, 0, 0, 0, 0, []) :: (.iconst 0, 1, 0, 0, 0, []) :: (.putfield 3, 2, 12, 0, 0, []) :: (.aload_n 0, 5, 0, 0, 0, []) :: (.iconst (-1), 6, 4294967295, 0, 0, []) :: (.putfield 404, 7, 12, 32, 0, []) :: (.aload_n 0, 10, 0, 0, 0, []) :: (.iconst 0, 11, 0, 0, 0, []) :: (.iconst 0, 12, 0, 0, 0, []) :: (.iconst 0, 13, 0, 0, 0, []) :: (.invokevirtual 407, 14, 283, 4, 13, [0, 0]) :: (.aload_n 0, 17, 0, 0, 0, []) :: (.iconst 0, 18, 0, 0, 0, []) :: (.putfield 15, 19, 12, 1, 0, []) :: (.iconst 0, 22, 0, 0, 0, []) :: (.istore_n 1, 23, 1, 0, 0, []) :: zp_X12_awards_1
noncomputable def zp_X12_awards : List (List ECE) := [zp_X12_awards_0, zp_X12_awards_1]
noncomputable def zp_X12_needs_4 : List ECE := (.if_icmp .le 6, 115, 67, 0, 0, []) :: (.bipush (-2), 118, 4294967294, 0, 0, []) :: (.ireturn, 120, 0, 0, 0, []) :: (.aload_n 0, 121, 0, 0, 0, []) :: (.iconst 0, 122, 0, 0, 0, []) :: (.putfield 15, 123, 12, 1, 0, []) :: (.aload_n 0, 126, 0, 0, 0, []) :: (.iload_n 3, 127, 3, 0, 0, []) :: (.i2l, 128, 0, 0, 0, []) :: (.invokevirtual 18, 129, 200, 2, 13, [0, 0]) :: (.iload 5, 132, 5, 0, 0, []) :: (.ireturn, 134, 0, 0, 0, []) :: []
noncomputable def zp_X12_needs_3 : List ECE := (.idiv, 87, 0, 0, 0, []) :: (.iconst 1, 88, 1, 0, 0, []) :: (.iadd, 89, 0, 0, 0, []) :: (.iload_n 3, 90, 3, 0, 0, []) :: (.isub, 91, 0, 0, 0, []) :: (.invokestatic 270, 92, 325, 2, 0, [0, 0]) :: (.istore 5, 95, 5, 0, 0, []) :: (.aload_n 0, 97, 0, 0, 0, []) :: (.getfield 32, 98, 12, 7, 0, []) :: (.bipush 26, 101, 26, 0, 0, []) :: (.iaload, 103, 0, 0, 0, []) :: (.iload_n 2, 104, 2, 0, 0, []) :: (.invokestatic 282, 105, 197, 2, 0, [0, 0]) :: (.ifCond .eq 10, 108, 65, 0, 0, []) :: (.iload 5, 111, 5, 0, 0, []) :: (.iload 4, 113, 4, 0, 0, []) :: zp_X12_needs_4
noncomputable def zp_X12_needs_2 : List ECE := (.goto 13, 57, 38, 0, 0, []) :: (.aload_n 0, 60, 0, 0, 0, []) :: (.getfield 32, 61, 12, 7, 0, []) :: (.iload_n 2, 64, 2, 0, 0, []) :: (.iload 5, 65, 5, 0, 0, []) :: (.invokestatic 142, 67, 209, 3, 0, [0, 0]) :: (.iadd, 70, 0, 0, 0, []) :: (.istore 4, 71, 4, 0, 0, []) :: (.iinc 5 1, 73, 5, 1, 0, []) :: (.goto (-37), 76, 23, 0, 0, []) :: (.iconst 0, 79, 0, 0, 0, []) :: (.aload_n 0, 80, 0, 0, 0, []) :: (.getfield 28, 81, 12, 6, 0, []) :: (.iload_n 2, 84, 2, 0, 0, []) :: (.iaload, 85, 0, 0, 0, []) :: (.iconst 2, 86, 2, 0, 0, []) :: zp_X12_needs_3
noncomputable def zp_X12_needs_1 : List ECE := (.iload_n 1, 28, 1, 0, 0, []) :: (.invokestatic 142, 29, 209, 3, 0, [0, 0]) :: (.istore_n 3, 32, 3, 0, 0, []) :: (.iconst 0, 33, 0, 0, 0, []) :: (.istore 4, 34, 4, 0, 0, []) :: (.iconst 0, 36, 0, 0, 0, []) :: (.istore 5, 37, 5, 0, 0, []) :: (.iload 5, 39, 5, 0, 0, []) :: (.aload_n 0, 41, 0, 0, 0, []) :: (.getfield 131, 42, 12, 4, 0, []) :: (.if_icmp .ge 34, 45, 42, 0, 0, []) :: (.iload 4, 48, 4, 0, 0, []) :: (.iload 5, 50, 5, 0, 0, []) :: (.iload_n 1, 52, 1, 0, 0, []) :: (.if_icmp .ne 7, 53, 33, 0, 0, []) :: (.iconst 0, 56, 0, 0, 0, []) :: zp_X12_needs_2
noncomputable def zp_X12_needs_0 : List ECE := (.aload_n 0, 0, 0, 0, 0, []) :: (.iconst 0, 1, 0, 0, 0, []) :: (.putfield 3, 2, 12, 0, 0, []) :: (.aload_n 0, 5, 0, 0, 0, []) :: (.iload_n 1, 6, 1, 0, 0, []) :: (.invokevirtual 292, 7, 205, 2, 13, [0, 0]) :: (.ifCond .eq 11, 10, 11, 0, 0, []) :: (.aload_n 0, 13, 0, 0, 0, []) :: (.iload_n 2, 14, 2, 0, 0, []) :: (.invokevirtual 127, 15, 203, 2, 13, [0, 0]) :: (.ifCond .ne 5, 18, 13, 0, 0, []) :: (.iconst (-1), 21, 4294967295, 0, 0, []) :: (.ireturn, 22, 0, 0, 0, []) :: (.aload_n 0, 23, 0, 0, 0, []) :: (.getfield 32, 24, 12, 7, 0, []) :: (.iload_n 2, 27, 2, 0, 0, []) :: zp_X12_needs_1
noncomputable def zp_X12_needs : List (List ECE) := [zp_X12_needs_0, zp_X12_needs_1, zp_X12_needs_2, zp_X12_needs_3, zp_X12_needs_4]
noncomputable def zp_X12_line_2 : List ECE := (.ireturn, 61, 0, 0, 0, []) :: []
noncomputable def zp_X12_line_1 : List ECE := (.aload_n 0, 27, 0, 0, 0, []) :: (.getfield 32, 28, 12, 7, 0, []) :: (.iload_n 2, 31, 2, 0, 0, []) :: (.invokestatic 146, 32, 210, 2, 0, [0, 0]) :: (.iload_n 1, 35, 1, 0, 0, []) :: (.if_icmp .ne 9, 36, 26, 0, 0, []) :: (.aload_n 0, 39, 0, 0, 0, []) :: (.iload_n 2, 40, 2, 0, 0, []) :: (.i2l, 41, 0, 0, 0, []) :: (.invokevirtual 18, 42, 200, 2, 13, [0, 0]) :: (.iinc 2 1, 45, 2, 1, 0, []) :: (.goto (-29), 48, 12, 0, 0, []) :: (.iinc 1 (-1), 51, 1, 4294967295, 0, []) :: (.goto (-41), 54, 8, 0, 0, []) :: (.aload_n 0, 57, 0, 0, 0, []) :: (.getfield 15, 58, 12, 1, 0, []) :: zp_X12_line_2
noncomputable def zp_X12_line_0 : List ECE := (.aload_n 0, 0, 0, 0, 0, []) :: (.iconst 0, 1, 0, 0, 0, []) :: (.putfield 3, 2, 12, 0, 0, []) :: (.aload_n 0, 5, 0, 0, 0, []) :: (.iconst 0, 6, 0, 0, 0, []) :: (.putfield 15, 7, 12, 1, 0, []) :: (.bipush 20, 10, 20, 0, 0, []) :: (.istore_n 1, 12, 1, 0, 0, []) :: (.iload_n 1, 13, 1, 0, 0, []) :: (.ifCond .lt 43, 14, 30, 0, 0, []) :: (.iconst 0, 17, 0, 0, 0, []) :: (.istore_n 2, 18, 2, 0, 0, []) :: (.iload_n 2, 19, 2, 0, 0, []) :: (.aload_n 0, 20, 0, 0, 0, []) :: (.getfield 131, 21, 12, 4, 0, []) :: (.if_icmp .ge 27, 24, 28, 0, 0, []) :: zp_X12_line_1
noncomputable def zp_X12_line : List (List ECE) := [zp_X12_line_0, zp_X12_line_1, zp_X12_line_2]
noncomputable def zp_X12_carriesIt_2 : List ECE := (.goto 4, 56, 34, 0, 0, []) :: (.iconst 0, 59, 0, 0, 0, []) :: (.ireturn, 60, 1, 0, 0, []) :: []
noncomputable def zp_X12_carriesIt_1 : List ECE := (.invokestatic 146, 26, 210, 2, 0, [0, 0]) :: (.goto 4, 29, 19, 0, 0, []) :: (.iconst 0, 32, 0, 0, 0, []) :: (.iadd, 33, 0, 0, 0, []) :: (.istore_n 2, 34, 2, 0, 0, []) :: (.iinc 3 1, 35, 3, 1, 0, []) :: (.goto (-34), 38, 4, 0, 0, []) :: (.iconst 2, 41, 2, 0, 0, []) :: (.iload_n 2, 42, 2, 0, 0, []) :: (.imul, 43, 0, 0, 0, []) :: (.aload_n 0, 44, 0, 0, 0, []) :: (.aload_n 0, 45, 0, 0, 0, []) :: (.getfield 32, 46, 12, 7, 0, []) :: (.invokevirtual 383, 49, 211, 2, 13, [0, 0]) :: (.if_icmp .le 7, 52, 33, 0, 0, []) :: (.iconst 1, 55, 1, 0, 0, []) :: zp_X12_carriesIt_2
noncomputable def zp_X12_carriesIt_0 : List ECE := (.iconst 0, 0, 0, 0, 0, []) :: (.istore_n 2, 1, 2, 0, 0, []) :: (.iconst 0, 2, 0, 0, 0, []) :: (.istore_n 3, 3, 3, 0, 0, []) :: (.iload_n 3, 4, 3, 0, 0, []) :: (.aload_n 0, 5, 0, 0, 0, []) :: (.getfield 131, 6, 12, 4, 0, []) :: (.if_icmp .ge 32, 9, 23, 0, 0, []) :: (.iload_n 2, 12, 2, 0, 0, []) :: (.iload_n 1, 13, 1, 0, 0, []) :: (.iload_n 3, 14, 3, 0, 0, []) :: (.invokestatic 282, 15, 197, 2, 0, [0, 0]) :: (.ifCond .eq 14, 18, 18, 0, 0, []) :: (.aload_n 0, 21, 0, 0, 0, []) :: (.getfield 32, 22, 12, 7, 0, []) :: (.iload_n 3, 25, 3, 0, 0, []) :: zp_X12_carriesIt_1
noncomputable def zp_X12_carriesIt : List (List ECE) := [zp_X12_carriesIt_0, zp_X12_carriesIt_1, zp_X12_carriesIt_2]
noncomputable def zp_X12_power_3 : List ECE := (.iconst 1, 80, 1, 0, 0, []) :: (.isub, 81, 0, 0, 0, []) :: (.ishl, 82, 0, 0, 0, []) :: (.i2l, 83, 0, 0, 0, []) :: (.invokevirtual 414, 84, 201, 3, 13, [0, 0]) :: (.ireturn, 87, 0, 0, 0, []) :: []
noncomputable def zp_X12_power_2 : List ECE := (.invokevirtual 411, 50, 287, 2, 13, [0, 0]) :: (.ifCond .eq 7, 53, 36, 0, 0, []) :: (.iconst 1, 56, 1, 0, 0, []) :: (.goto 4, 57, 37, 0, 0, []) :: (.iconst 0, 60, 0, 0, 0, []) :: (.invokestatic 138, 61, 198, 1, 0, [0, 0]) :: (.iadd, 64, 0, 0, 0, []) :: (.istore_n 2, 65, 2, 0, 0, []) :: (.iinc 3 1, 66, 3, 1, 0, []) :: (.goto (-50), 69, 13, 0, 0, []) :: (.aload_n 0, 72, 0, 0, 0, []) :: (.iload_n 2, 73, 2, 0, 0, []) :: (.i2l, 74, 0, 0, 0, []) :: (.iconst 1, 75, 1, 0, 0, []) :: (.aload_n 0, 76, 0, 0, 0, []) :: (.getfield 131, 77, 12, 4, 0, []) :: zp_X12_power_3
noncomputable def zp_X12_power_1 : List ECE := (.if_icmp .gt 48, 24, 42, 0, 0, []) :: (.iload_n 2, 27, 2, 0, 0, []) :: (.iload_n 3, 28, 3, 0, 0, []) :: (.iload_n 1, 29, 1, 0, 0, []) :: (.invokestatic 282, 30, 197, 2, 0, [0, 0]) :: (.ifCond .ne 27, 33, 36, 0, 0, []) :: (.aload_n 0, 36, 0, 0, 0, []) :: (.iload_n 3, 37, 3, 0, 0, []) :: (.invokevirtual 411, 38, 287, 2, 13, [0, 0]) :: (.ifCond .ne 19, 41, 36, 0, 0, []) :: (.aload_n 0, 44, 0, 0, 0, []) :: (.iload_n 3, 45, 3, 0, 0, []) :: (.iconst 1, 46, 1, 0, 0, []) :: (.iload_n 1, 47, 1, 0, 0, []) :: (.ishl, 48, 0, 0, 0, []) :: (.ior, 49, 0, 0, 0, []) :: zp_X12_power_2
noncomputable def zp_X12_power_0 : List ECE := (.aload_n 0, 0, 0, 0, 0, []) :: (.iconst 0, 1, 0, 0, 0, []) :: (.putfield 3, 2, 12, 0, 0, []) :: (.aload_n 0, 5, 0, 0, 0, []) :: (.iload_n 1, 6, 1, 0, 0, []) :: (.invokevirtual 292, 7, 205, 2, 13, [0, 0]) :: (.ifCond .ne 5, 10, 9, 0, 0, []) :: (.iconst (-1), 13, 4294967295, 0, 0, []) :: (.ireturn, 14, 0, 0, 0, []) :: (.iconst 0, 15, 0, 0, 0, []) :: (.istore_n 2, 16, 2, 0, 0, []) :: (.iconst 0, 17, 0, 0, 0, []) :: (.istore_n 3, 18, 3, 0, 0, []) :: (.iload_n 3, 19, 3, 0, 0, []) :: (.aload_n 0, 20, 0, 0, 0, []) :: (.invokevirtual 398, 21, 206, 1, 13, [0, 0]) :: zp_X12_power_1
noncomputable def zp_X12_power : List (List ECE) := [zp_X12_power_0, zp_X12_power_1, zp_X12_power_2, zp_X12_power_3]
noncomputable def zp_X12_least_3 : List ECE := (.iload_n 1, 84, 1, 0, 0, []) :: (.ifCond .ne 9, 85, 54, 0, 0, []) :: (.aload_n 0, 88, 0, 0, 0, []) :: (.iload_n 2, 89, 2, 0, 0, []) :: (.i2l, 90, 0, 0, 0, []) :: (.invokevirtual 18, 91, 200, 2, 13, [0, 0]) :: (.iload_n 1, 94, 1, 0, 0, []) :: (.iload_n 3, 95, 3, 0, 0, []) :: (.invokestatic 138, 96, 198, 1, 0, [0, 0]) :: (.iadd, 99, 0, 0, 0, []) :: (.istore_n 1, 100, 1, 0, 0, []) :: (.iinc 2 1, 101, 2, 1, 0, []) :: (.goto (-90), 104, 10, 0, 0, []) :: (.iload_n 1, 107, 1, 0, 0, []) :: (.ireturn, 108, 0, 0, 0, []) :: []
noncomputable def zp_X12_least_2 : List ECE := (.iconst 1, 55, 1, 0, 0, []) :: (.iload 4, 56, 4, 0, 0, []) :: (.ishl, 58, 0, 0, 0, []) :: (.iconst (-1), 59, 4294967295, 0, 0, []) :: (.ixor, 60, 0, 0, 0, []) :: (.iand, 61, 0, 0, 0, []) :: (.invokevirtual 411, 62, 287, 2, 13, [0, 0]) :: (.ifCond .ne 7, 65, 42, 0, 0, []) :: (.iconst 1, 68, 1, 0, 0, []) :: (.goto 4, 69, 43, 0, 0, []) :: (.iconst 0, 72, 0, 0, 0, []) :: (.istore_n 3, 73, 3, 0, 0, []) :: (.iinc 4 1, 74, 4, 1, 0, []) :: (.goto (-46), 77, 20, 0, 0, []) :: (.iload_n 3, 80, 3, 0, 0, []) :: (.ifCond .eq 13, 81, 54, 0, 0, []) :: zp_X12_least_3
noncomputable def zp_X12_least_1 : List ECE := (.invokevirtual 411, 24, 287, 2, 13, [0, 0]) :: (.istore_n 3, 27, 3, 0, 0, []) :: (.iconst 0, 28, 0, 0, 0, []) :: (.istore 4, 29, 4, 0, 0, []) :: (.iload 4, 31, 4, 0, 0, []) :: (.aload_n 0, 33, 0, 0, 0, []) :: (.getfield 131, 34, 12, 4, 0, []) :: (.if_icmp .ge 43, 37, 46, 0, 0, []) :: (.iload_n 3, 40, 3, 0, 0, []) :: (.ifCond .eq 31, 41, 42, 0, 0, []) :: (.iload_n 2, 44, 2, 0, 0, []) :: (.iload 4, 45, 4, 0, 0, []) :: (.invokestatic 282, 47, 197, 2, 0, [0, 0]) :: (.ifCond .eq 18, 50, 40, 0, 0, []) :: (.aload_n 0, 53, 0, 0, 0, []) :: (.iload_n 2, 54, 2, 0, 0, []) :: zp_X12_least_2
noncomputable def zp_X12_least_0 : List ECE := (.aload_n 0, 0, 0, 0, 0, []) :: (.iconst 0, 1, 0, 0, 0, []) :: (.putfield 3, 2, 12, 0, 0, []) :: (.iconst 0, 5, 0, 0, 0, []) :: (.istore_n 1, 6, 1, 0, 0, []) :: (.aload_n 0, 7, 0, 0, 0, []) :: (.iconst 0, 8, 0, 0, 0, []) :: (.putfield 15, 9, 12, 1, 0, []) :: (.iconst 0, 12, 0, 0, 0, []) :: (.istore_n 2, 13, 2, 0, 0, []) :: (.iload_n 2, 14, 2, 0, 0, []) :: (.aload_n 0, 15, 0, 0, 0, []) :: (.invokevirtual 398, 16, 206, 1, 13, [0, 0]) :: (.if_icmp .gt 88, 19, 61, 0, 0, []) :: (.aload_n 0, 22, 0, 0, 0, []) :: (.iload_n 2, 23, 2, 0, 0, []) :: zp_X12_least_1
noncomputable def zp_X12_least : List (List ECE) := [zp_X12_least_0, zp_X12_least_1, zp_X12_least_2, zp_X12_least_3]
noncomputable def zp_X12_seen_3 : List ECE := (.dup, 80, 0, 0, 0, []) :: (.getfield 418, 81, 12, 33, 0, []) :: (.iconst 1, 84, 1, 0, 0, []) :: (.iadd, 85, 0, 0, 0, []) :: (.putfield 418, 86, 12, 33, 0, []) :: (.aload_n 0, 89, 0, 0, 0, []) :: (.getfield 418, 90, 12, 33, 0, []) :: (.ireturn, 93, 0, 0, 0, []) :: []
noncomputable def zp_X12_seen_2 : List ECE := (.getfield 80, 56, 12, 34, 0, []) :: (.aload_n 0, 59, 0, 0, 0, []) :: (.getfield 418, 60, 12, 33, 0, []) :: (.iconst 4, 63, 4, 0, 0, []) :: (.iload_n 1, 64, 1, 0, 0, []) :: (.imul, 65, 0, 0, 0, []) :: (.iload_n 2, 66, 2, 0, 0, []) :: (.iadd, 67, 0, 0, 0, []) :: (.iastore, 68, 0, 0, 0, []) :: (.aload_n 0, 69, 0, 0, 0, []) :: (.getfield 83, 70, 12, 35, 0, []) :: (.aload_n 0, 73, 0, 0, 0, []) :: (.getfield 418, 74, 12, 33, 0, []) :: (.iload_n 3, 77, 3, 0, 0, []) :: (.iastore, 78, 0, 0, 0, []) :: (.aload_n 0, 79, 0, 0, 0, []) :: zp_X12_seen_3
noncomputable def zp_X12_seen_1 : List ECE := (.bipush 10, 30, 10, 0, 0, []) :: (.if_icmp .ne 5, 32, 20, 0, 0, []) :: (.iconst (-1), 35, 4294967295, 0, 0, []) :: (.ireturn, 36, 0, 0, 0, []) :: (.aload_n 0, 37, 0, 0, 0, []) :: (.getfield 32, 38, 12, 7, 0, []) :: (.iconst 4, 41, 4, 0, 0, []) :: (.iload_n 1, 42, 1, 0, 0, []) :: (.imul, 43, 0, 0, 0, []) :: (.iload_n 2, 44, 2, 0, 0, []) :: (.iadd, 45, 0, 0, 0, []) :: (.invokestatic 150, 46, 207, 2, 0, [0, 0]) :: (.ifCond .ne 6, 49, 31, 0, 0, []) :: (.bipush (-2), 52, 4294967294, 0, 0, []) :: (.ireturn, 54, 0, 0, 0, []) :: (.aload_n 0, 55, 0, 0, 0, []) :: zp_X12_seen_2
noncomputable def zp_X12_seen_0 : List ECE := (.aload_n 0, 0, 0, 0, 0, []) :: (.iconst 0, 1, 0, 0, 0, []) :: (.putfield 3, 2, 12, 0, 0, []) :: (.aload_n 0, 5, 0, 0, 0, []) :: (.iload_n 1, 6, 1, 0, 0, []) :: (.iload_n 2, 7, 2, 0, 0, []) :: (.invokevirtual 289, 8, 204, 3, 13, [0, 0]) :: (.ifCond .eq 24, 11, 18, 0, 0, []) :: (.iload_n 3, 14, 3, 0, 0, []) :: (.i2l, 15, 0, 0, 0, []) :: (.lconst 0, 16, 0, 0, 0, []) :: (.ldc2_w 317, 17, 7, 0, 0, []) :: (.invokestatic 123, 20, 196, 3, 0, [0, 0]) :: (.ifCond .eq 12, 23, 18, 0, 0, []) :: (.aload_n 0, 26, 0, 0, 0, []) :: (.getfield 418, 27, 12, 33, 0, []) :: zp_X12_seen_1
noncomputable def zp_X12_seen : List (List ECE) := [zp_X12_seen_0, zp_X12_seen_1, zp_X12_seen_2, zp_X12_seen_3]
noncomputable def zp_X12_forget_0 : List ECE := (.aload_n 0, 0, 0, 0, 0, []) :: (.iconst 0, 1, 0, 0, 0, []) :: (.putfield 3, 2, 12, 0, 0, []) :: (.aload_n 0, 5, 0, 0, 0, []) :: (.getfield 418, 6, 12, 33, 0, []) :: (.istore_n 1, 9, 1, 0, 0, []) :: (.aload_n 0, 10, 0, 0, 0, []) :: (.iconst 0, 11, 0, 0, 0, []) :: (.putfield 418, 12, 12, 33, 0, []) :: (.iload_n 1, 15, 1, 0, 0, []) :: (.ireturn, 16, 0, 0, 0, []) :: []
noncomputable def zp_X12_forget : List (List ECE) := [zp_X12_forget_0]
noncomputable def zp_X12_winds_3 : List ECE := (.iconst 1, 88, 1, 0, 0, []) :: (.iconst 3, 89, 3, 0, 0, []) :: (.iload_n 2, 90, 2, 0, 0, []) :: (.iadd, 91, 0, 0, 0, []) :: (.ishl, 92, 0, 0, 0, []) :: (.goto 4, 93, 55, 0, 0, []) :: (.iconst 0, 96, 0, 0, 0, []) :: (.ior, 97, 0, 0, 0, []) :: (.istore_n 1, 98, 1, 0, 0, []) :: (.iinc 2 1, 99, 2, 1, 0, []) :: (.goto (-97), 102, 4, 0, 0, []) :: (.iload_n 1, 105, 1, 0, 0, []) :: (.ireturn, 106, 0, 0, 0, []) :: []
noncomputable def zp_X12_winds_2 : List ECE := (.iload_n 2, 57, 2, 0, 0, []) :: (.invokevirtual 305, 58, 238, 4, 13, [0, 0]) :: (.aload_n 0, 61, 0, 0, 0, []) :: (.getfield 83, 62, 12, 35, 0, []) :: (.iload 4, 65, 4, 0, 0, []) :: (.iaload, 67, 0, 0, 0, []) :: (.if_icmp .ne 7, 68, 41, 0, 0, []) :: (.iconst 1, 71, 1, 0, 0, []) :: (.goto 4, 72, 42, 0, 0, []) :: (.iconst 0, 75, 0, 0, 0, []) :: (.istore_n 3, 76, 3, 0, 0, []) :: (.iinc 4 1, 77, 4, 1, 0, []) :: (.goto (-65), 80, 11, 0, 0, []) :: (.iload_n 1, 83, 1, 0, 0, []) :: (.iload_n 3, 84, 3, 0, 0, []) :: (.ifCond .eq 11, 85, 54, 0, 0, []) :: zp_X12_winds_3
noncomputable def zp_X12_winds_1 : List ECE := (.ifCond .eq 50, 25, 41, 0, 0, []) :: (.aload_n 0, 28, 0, 0, 0, []) :: (.getfield 32, 29, 12, 7, 0, []) :: (.aload_n 0, 32, 0, 0, 0, []) :: (.getfield 80, 33, 12, 34, 0, []) :: (.iload 4, 36, 4, 0, 0, []) :: (.iaload, 38, 0, 0, 0, []) :: (.invokestatic 150, 39, 207, 2, 0, [0, 0]) :: (.ifCond .eq 33, 42, 41, 0, 0, []) :: (.aload_n 0, 45, 0, 0, 0, []) :: (.aload_n 0, 46, 0, 0, 0, []) :: (.getfield 32, 47, 12, 7, 0, []) :: (.aload_n 0, 50, 0, 0, 0, []) :: (.getfield 80, 51, 12, 34, 0, []) :: (.iload 4, 54, 4, 0, 0, []) :: (.iaload, 56, 0, 0, 0, []) :: zp_X12_winds_2
noncomputable def zp_X12_winds_0 : List ECE := (.iconst 0, 0, 0, 0, 0, []) :: (.istore_n 1, 1, 1, 0, 0, []) :: (.bipush (-3), 2, 4294967293, 0, 0, []) :: (.istore_n 2, 4, 2, 0, 0, []) :: (.iload_n 2, 5, 2, 0, 0, []) :: (.iconst 3, 6, 3, 0, 0, []) :: (.if_icmp .gt 98, 7, 59, 0, 0, []) :: (.iconst 1, 10, 1, 0, 0, []) :: (.istore_n 3, 11, 3, 0, 0, []) :: (.iconst 0, 12, 0, 0, 0, []) :: (.istore 4, 13, 4, 0, 0, []) :: (.iload 4, 15, 4, 0, 0, []) :: (.aload_n 0, 17, 0, 0, 0, []) :: (.getfield 418, 18, 12, 33, 0, []) :: (.if_icmp .ge 62, 21, 45, 0, 0, []) :: (.iload_n 3, 24, 3, 0, 0, []) :: zp_X12_winds_1
noncomputable def zp_X12_winds : List (List ECE) := [zp_X12_winds_0, zp_X12_winds_1, zp_X12_winds_2, zp_X12_winds_3]
noncomputable def zp_X12_guess_1 : List ECE := (.iconst 3, 26, 3, 0, 0, []) :: (.aload_n 0, 27, 0, 0, 0, []) :: (.getfield 32, 28, 12, 7, 0, []) :: (.bipush 27, 31, 27, 0, 0, []) :: (.iaload, 33, 0, 0, 0, []) :: (.iadd, 34, 0, 0, 0, []) :: (.invokestatic 282, 35, 197, 2, 0, [0, 0]) :: (.invokestatic 138, 38, 198, 1, 0, [0, 0]) :: (.i2l, 41, 0, 0, 0, []) :: (.invokevirtual 18, 42, 200, 2, 13, [0, 0]) :: (.iload_n 1, 45, 1, 0, 0, []) :: (.ireturn, 46, 0, 0, 0, []) :: []
noncomputable def zp_X12_guess_0 : List ECE := (.aload_n 0, 0, 0, 0, 0, []) :: (.iconst 0, 1, 0, 0, 0, []) :: (.putfield 3, 2, 12, 0, 0, []) :: (.aload_n 0, 5, 0, 0, 0, []) :: (.invokevirtual 421, 6, 292, 1, 13, [0, 0]) :: (.istore_n 1, 9, 1, 0, 0, []) :: (.aload_n 0, 10, 0, 0, 0, []) :: (.iconst 0, 11, 0, 0, 0, []) :: (.putfield 15, 12, 12, 1, 0, []) :: (.aload_n 0, 15, 0, 0, 0, []) :: (.iload_n 1, 16, 1, 0, 0, []) :: (.invokestatic 312, 17, 323, 1, 0, [0, 0]) :: (.i2l, 20, 0, 0, 0, []) :: (.invokevirtual 18, 21, 200, 2, 13, [0, 0]) :: (.aload_n 0, 24, 0, 0, 0, []) :: (.iload_n 1, 25, 1, 0, 0, []) :: zp_X12_guess_1
noncomputable def zp_X12_guess : List (List ECE) := [zp_X12_guess_0, zp_X12_guess_1]
noncomputable def zp_X12_looks_6 : List ECE := (.ifCond .lt 14, 189, 104, 0, 0, []) :: (.aload_n 0, 192, 0, 0, 0, []) :: (.iconst 0, 193, 0, 0, 0, []) :: (.putfield 15, 194, 12, 1, 0, []) :: (.aload_n 0, 197, 0, 0, 0, []) :: (.iload_n 3, 198, 3, 0, 0, []) :: (.i2l, 199, 0, 0, 0, []) :: (.invokevirtual 18, 200, 200, 2, 13, [0, 0]) :: (.iload_n 2, 203, 2, 0, 0, []) :: (.ireturn, 204, 0, 0, 0, []) :: []
noncomputable def zp_X12_looks_5 : List ECE := (.idiv, 163, 0, 0, 0, []) :: (.imul, 164, 0, 0, 0, []) :: (.iload 4, 165, 4, 0, 0, []) :: (.iconst 4, 167, 4, 0, 0, []) :: (.irem, 168, 0, 0, 0, []) :: (.iadd, 169, 0, 0, 0, []) :: (.goto 4, 170, 88, 0, 0, []) :: (.iload_n 2, 173, 2, 0, 0, []) :: (.istore_n 2, 174, 2, 0, 0, []) :: (.iload_n 3, 175, 3, 0, 0, []) :: (.iload 5, 176, 5, 0, 0, []) :: (.invokestatic 166, 178, 326, 2, 0, [0, 0]) :: (.istore_n 3, 181, 3, 0, 0, []) :: (.iinc 4 1, 182, 4, 1, 0, []) :: (.goto (-158), 185, 16, 0, 0, []) :: (.iload_n 2, 188, 2, 0, 0, []) :: zp_X12_looks_6
noncomputable def zp_X12_looks_4 : List ECE := (.iadd, 128, 0, 0, 0, []) :: (.istore 7, 129, 7, 0, 0, []) :: (.iinc 8 1, 131, 8, 1, 0, []) :: (.goto (-50), 134, 42, 0, 0, []) :: (.iload 5, 137, 5, 0, 0, []) :: (.iload 7, 139, 7, 0, 0, []) :: (.invokestatic 270, 141, 325, 2, 0, [0, 0]) :: (.istore 5, 144, 5, 0, 0, []) :: (.iinc 6 1, 146, 6, 1, 0, []) :: (.goto (-91), 149, 30, 0, 0, []) :: (.iload 5, 152, 5, 0, 0, []) :: (.iload_n 3, 154, 3, 0, 0, []) :: (.if_icmp .ge 18, 155, 87, 0, 0, []) :: (.bipush 10, 158, 10, 0, 0, []) :: (.iload 4, 160, 4, 0, 0, []) :: (.iconst 4, 162, 4, 0, 0, []) :: zp_X12_looks_5
noncomputable def zp_X12_looks_3 : List ECE := (.iload 8, 94, 8, 0, 0, []) :: (.iadd, 96, 0, 0, 0, []) :: (.invokestatic 282, 97, 197, 2, 0, [0, 0]) :: (.ifCond .eq 24, 100, 62, 0, 0, []) :: (.aload_n 0, 103, 0, 0, 0, []) :: (.aload_n 0, 104, 0, 0, 0, []) :: (.getfield 32, 105, 12, 7, 0, []) :: (.iload 4, 108, 4, 0, 0, []) :: (.iload 8, 110, 8, 0, 0, []) :: (.invokevirtual 305, 112, 238, 4, 13, [0, 0]) :: (.iload 6, 115, 6, 0, 0, []) :: (.if_icmp .ne 7, 117, 62, 0, 0, []) :: (.iconst 1, 120, 1, 0, 0, []) :: (.goto 4, 121, 63, 0, 0, []) :: (.iconst 0, 124, 0, 0, 0, []) :: (.invokestatic 138, 125, 198, 1, 0, [0, 0]) :: zp_X12_looks_4
noncomputable def zp_X12_looks_2 : List ECE := (.if_icmp .ge 90, 62, 74, 0, 0, []) :: (.aload_n 0, 65, 0, 0, 0, []) :: (.getfield 32, 66, 12, 7, 0, []) :: (.iload 4, 69, 4, 0, 0, []) :: (.invokestatic 150, 71, 207, 2, 0, [0, 0]) :: (.ifCond .eq 78, 74, 74, 0, 0, []) :: (.iconst 0, 77, 0, 0, 0, []) :: (.istore 7, 78, 7, 0, 0, []) :: (.bipush (-3), 80, 4294967293, 0, 0, []) :: (.istore 8, 82, 8, 0, 0, []) :: (.iload 8, 84, 8, 0, 0, []) :: (.iconst 3, 86, 3, 0, 0, []) :: (.if_icmp .gt 50, 87, 68, 0, 0, []) :: (.iload 7, 90, 7, 0, 0, []) :: (.iload_n 1, 92, 1, 0, 0, []) :: (.iconst 3, 93, 3, 0, 0, []) :: zp_X12_looks_3
noncomputable def zp_X12_looks_1 : List ECE := (.iload 4, 27, 4, 0, 0, []) :: (.bipush 20, 29, 20, 0, 0, []) :: (.if_icmp .ge 157, 31, 95, 0, 0, []) :: (.aload_n 0, 34, 0, 0, 0, []) :: (.getfield 32, 35, 12, 7, 0, []) :: (.iload 4, 38, 4, 0, 0, []) :: (.invokestatic 150, 40, 207, 2, 0, [0, 0]) :: (.ifCond .eq 7, 43, 26, 0, 0, []) :: (.iconst 0, 46, 0, 0, 0, []) :: (.goto 6, 47, 27, 0, 0, []) :: (.ldc_w 424, 50, 1000000, 0, 0, []) :: (.istore 5, 53, 5, 0, 0, []) :: (.iconst 0, 55, 0, 0, 0, []) :: (.istore 6, 56, 6, 0, 0, []) :: (.iload 6, 58, 6, 0, 0, []) :: (.bipush 8, 60, 8, 0, 0, []) :: zp_X12_looks_2
noncomputable def zp_X12_looks_0 : List ECE := (.aload_n 0, 0, 0, 0, 0, []) :: (.iconst 0, 1, 0, 0, 0, []) :: (.putfield 3, 2, 12, 0, 0, []) :: (.aload_n 0, 5, 0, 0, 0, []) :: (.invokevirtual 421, 6, 292, 1, 13, [0, 0]) :: (.istore_n 1, 9, 1, 0, 0, []) :: (.iload_n 1, 10, 1, 0, 0, []) :: (.ifCond .ne 6, 11, 10, 0, 0, []) :: (.bipush (-2), 14, 4294967294, 0, 0, []) :: (.ireturn, 16, 0, 0, 0, []) :: (.bipush (-2), 17, 4294967294, 0, 0, []) :: (.istore_n 2, 19, 2, 0, 0, []) :: (.ldc_w 424, 20, 1000000, 0, 0, []) :: (.istore_n 3, 23, 3, 0, 0, []) :: (.iconst 0, 24, 0, 0, 0, []) :: (.istore 4, 25, 4, 0, 0, []) :: zp_X12_looks_1
noncomputable def zp_X12_looks : List (List ECE) := [zp_X12_looks_0, zp_X12_looks_1, zp_X12_looks_2, zp_X12_looks_3, zp_X12_looks_4, zp_X12_looks_5, zp_X12_looks_6]
noncomputable def zp_X12_highest_0 : List ECE := (.iload_n 0, 0, 0, 0, 0, []) :: (.ifCond .ne 8, 1, 4, 0, 0, []) :: (.bipush 7, 4, 7, 0, 0, []) :: (.goto 14, 6, 10, 0, 0, []) :: (.iload_n 0, 9, 0, 0, 0, []) :: (.iconst 1, 10, 1, 0, 0, []) :: (.if_icmp .ne 8, 11, 9, 0, 0, []) :: (.bipush 9, 14, 9, 0, 0, []) :: (.goto 4, 16, 10, 0, 0, []) :: (.iconst 4, 19, 4, 0, 0, []) :: (.ireturn, 20, 0, 0, 0, []) :: []
noncomputable def zp_X12_highest : List (List ECE) := [zp_X12_highest_0]
noncomputable def zp_X12_heard_2 : List ECE := (.getfield 428, 57, 12, 36, 0, []) :: (.iload_n 2, 60, 2, 0, 0, []) :: (.iastore, 61, 0, 0, 0, []) :: (.aload_n 0, 62, 0, 0, 0, []) :: (.dup, 63, 0, 0, 0, []) :: (.getfield 428, 64, 12, 36, 0, []) :: (.iconst 1, 67, 1, 0, 0, []) :: (.iadd, 68, 0, 0, 0, []) :: (.putfield 428, 69, 12, 36, 0, []) :: (.aload_n 0, 72, 0, 0, 0, []) :: (.getfield 428, 73, 12, 36, 0, []) :: (.ireturn, 76, 0, 0, 0, []) :: []
noncomputable def zp_X12_heard_1 : List ECE := (.ifCond .eq 12, 28, 21, 0, 0, []) :: (.aload_n 0, 31, 0, 0, 0, []) :: (.getfield 428, 32, 12, 36, 0, []) :: (.bipush 12, 35, 12, 0, 0, []) :: (.if_icmp .ne 5, 37, 23, 0, 0, []) :: (.iconst (-1), 40, 4294967295, 0, 0, []) :: (.ireturn, 41, 0, 0, 0, []) :: (.aload_n 0, 42, 0, 0, 0, []) :: (.getfield 86, 43, 12, 37, 0, []) :: (.aload_n 0, 46, 0, 0, 0, []) :: (.getfield 428, 47, 12, 36, 0, []) :: (.iload_n 1, 50, 1, 0, 0, []) :: (.iastore, 51, 0, 0, 0, []) :: (.aload_n 0, 52, 0, 0, 0, []) :: (.getfield 89, 53, 12, 38, 0, []) :: (.aload_n 0, 56, 0, 0, 0, []) :: zp_X12_heard_2
noncomputable def zp_X12_heard_0 : List ECE := (.aload_n 0, 0, 0, 0, 0, []) :: (.iconst 0, 1, 0, 0, 0, []) :: (.putfield 3, 2, 12, 0, 0, []) :: (.iload_n 1, 5, 1, 0, 0, []) :: (.i2l, 6, 0, 0, 0, []) :: (.lconst 0, 7, 0, 0, 0, []) :: (.ldc2_w 300, 8, 3, 0, 0, []) :: (.invokestatic 123, 11, 196, 3, 0, [0, 0]) :: (.ifCond .eq 26, 14, 21, 0, 0, []) :: (.iload_n 2, 17, 2, 0, 0, []) :: (.i2l, 18, 0, 0, 0, []) :: (.lconst 0, 19, 0, 0, 0, []) :: (.iload_n 1, 20, 1, 0, 0, []) :: (.invokestatic 425, 21, 295, 1, 0, [0, 0]) :: (.i2l, 24, 0, 0, 0, []) :: (.invokestatic 123, 25, 196, 3, 0, [0, 0]) :: zp_X12_heard_1
noncomputable def zp_X12_heard : List (List ECE) := [zp_X12_heard_0, zp_X12_heard_1, zp_X12_heard_2]
noncomputable def zp_X12_denies_0 : List ECE := (.aload_n 0, 0, 0, 0, 0, []) :: (.iconst 0, 1, 0, 0, 0, []) :: (.putfield 3, 2, 12, 0, 0, []) :: (.aload_n 0, 5, 0, 0, 0, []) :: (.getfield 428, 6, 12, 36, 0, []) :: (.istore_n 1, 9, 1, 0, 0, []) :: (.aload_n 0, 10, 0, 0, 0, []) :: (.iconst 0, 11, 0, 0, 0, []) :: (.putfield 428, 12, 12, 36, 0, []) :: (.iload_n 1, 15, 1, 0, 0, []) :: (.ireturn, 16, 0, 0, 0, []) :: []
noncomputable def zp_X12_denies : List (List ECE) := [zp_X12_denies_0]
noncomputable def zp_X12_fitting_3 : List ECE := (.iload_n 1, 84, 1, 0, 0, []) :: (.ireturn, 85, 0, 0, 0, []) :: []
noncomputable def zp_X12_fitting_2 : List ECE := (.iconst 0, 56, 0, 0, 0, []) :: (.istore_n 3, 57, 3, 0, 0, []) :: (.iinc 4 1, 58, 4, 1, 0, []) :: (.goto (-44), 61, 12, 0, 0, []) :: (.iload_n 1, 64, 1, 0, 0, []) :: (.iload_n 3, 65, 3, 0, 0, []) :: (.ifCond .eq 9, 66, 43, 0, 0, []) :: (.iconst 1, 69, 1, 0, 0, []) :: (.iload_n 2, 70, 2, 0, 0, []) :: (.ishl, 71, 0, 0, 0, []) :: (.goto 4, 72, 44, 0, 0, []) :: (.iconst 0, 75, 0, 0, 0, []) :: (.ior, 76, 0, 0, 0, []) :: (.istore_n 1, 77, 1, 0, 0, []) :: (.iinc 2 1, 78, 2, 1, 0, []) :: (.goto (-77), 81, 4, 0, 0, []) :: zp_X12_fitting_3
noncomputable def zp_X12_fitting_1 : List ECE := (.iload_n 3, 26, 3, 0, 0, []) :: (.ifCond .eq 29, 27, 32, 0, 0, []) :: (.aload_n 0, 30, 0, 0, 0, []) :: (.iload_n 2, 31, 2, 0, 0, []) :: (.aload_n 0, 32, 0, 0, 0, []) :: (.getfield 86, 33, 12, 37, 0, []) :: (.iload 4, 36, 4, 0, 0, []) :: (.iaload, 38, 0, 0, 0, []) :: (.aload_n 0, 39, 0, 0, 0, []) :: (.getfield 89, 40, 12, 38, 0, []) :: (.iload 4, 43, 4, 0, 0, []) :: (.iaload, 45, 0, 0, 0, []) :: (.invokevirtual 431, 46, 298, 4, 13, [0, 0]) :: (.ifCond .eq 7, 49, 32, 0, 0, []) :: (.iconst 1, 52, 1, 0, 0, []) :: (.goto 4, 53, 33, 0, 0, []) :: zp_X12_fitting_2
noncomputable def zp_X12_fitting_0 : List ECE := (.iconst 0, 0, 0, 0, 0, []) :: (.istore_n 1, 1, 1, 0, 0, []) :: (.iconst 0, 2, 0, 0, 0, []) :: (.istore_n 2, 3, 2, 0, 0, []) :: (.iload_n 2, 4, 2, 0, 0, []) :: (.aload_n 0, 5, 0, 0, 0, []) :: (.getfield 131, 6, 12, 4, 0, []) :: (.if_icmp .ge 75, 9, 48, 0, 0, []) :: (.iconst 1, 12, 1, 0, 0, []) :: (.istore_n 3, 13, 3, 0, 0, []) :: (.iconst 0, 14, 0, 0, 0, []) :: (.istore 4, 15, 4, 0, 0, []) :: (.iload 4, 17, 4, 0, 0, []) :: (.aload_n 0, 19, 0, 0, 0, []) :: (.getfield 428, 20, 12, 36, 0, []) :: (.if_icmp .ge 41, 23, 36, 0, 0, []) :: zp_X12_fitting_1
noncomputable def zp_X12_fitting : List (List ECE) := [zp_X12_fitting_0, zp_X12_fitting_1, zp_X12_fitting_2, zp_X12_fitting_3]
noncomputable def zp_X12_fits_0 : List ECE := (.aload_n 0, 0, 0, 0, 0, []) :: (.iconst 0, 1, 0, 0, 0, []) :: (.putfield 3, 2, 12, 0, 0, []) :: (.aload_n 0, 5, 0, 0, 0, []) :: (.invokevirtual 435, 6, 299, 1, 13, [0, 0]) :: (.istore_n 1, 9, 1, 0, 0, []) :: (.aload_n 0, 10, 0, 0, 0, []) :: (.iconst 0, 11, 0, 0, 0, []) :: (.putfield 15, 12, 12, 1, 0, []) :: (.aload_n 0, 15, 0, 0, 0, []) :: (.iload_n 1, 16, 1, 0, 0, []) :: (.invokestatic 312, 17, 323, 1, 0, [0, 0]) :: (.i2l, 20, 0, 0, 0, []) :: (.invokevirtual 18, 21, 200, 2, 13, [0, 0]) :: (.iload_n 1, 24, 1, 0, 0, []) :: (.ireturn, 25, 0, 0, 0, []) :: []
noncomputable def zp_X12_fits : List (List ECE) := [zp_X12_fits_0]
noncomputable def zp_X12_asks_5 : List ECE := (.putfield 15, 155, 12, 1, 0, []) :: (.aload_n 0, 158, 0, 0, 0, []) :: (.iload_n 3, 159, 3, 0, 0, []) :: (.i2l, 160, 0, 0, 0, []) :: (.invokevirtual 18, 161, 200, 2, 13, [0, 0]) :: (.iload_n 2, 164, 2, 0, 0, []) :: (.ireturn, 165, 0, 0, 0, []) :: []
noncomputable def zp_X12_asks_4 : List ECE := (.imul, 125, 0, 0, 0, []) :: (.iload 5, 126, 5, 0, 0, []) :: (.iadd, 128, 0, 0, 0, []) :: (.goto 4, 129, 69, 0, 0, []) :: (.iload_n 2, 132, 2, 0, 0, []) :: (.istore_n 2, 133, 2, 0, 0, []) :: (.iload_n 3, 134, 3, 0, 0, []) :: (.iload 7, 135, 7, 0, 0, []) :: (.invokestatic 166, 137, 326, 2, 0, [0, 0]) :: (.istore_n 3, 140, 3, 0, 0, []) :: (.iinc 5 1, 141, 5, 1, 0, []) :: (.goto (-109), 144, 21, 0, 0, []) :: (.iinc 4 1, 147, 4, 1, 0, []) :: (.goto (-124), 150, 16, 0, 0, []) :: (.aload_n 0, 153, 0, 0, 0, []) :: (.iconst 0, 154, 0, 0, 0, []) :: zp_X12_asks_5
noncomputable def zp_X12_asks_3 : List ECE := (.iadd, 92, 0, 0, 0, []) :: (.istore 6, 93, 6, 0, 0, []) :: (.iinc 7 1, 95, 7, 1, 0, []) :: (.goto (-47), 98, 29, 0, 0, []) :: (.iload 6, 101, 6, 0, 0, []) :: (.iload_n 1, 103, 1, 0, 0, []) :: (.invokestatic 312, 104, 323, 1, 0, [0, 0]) :: (.iload 6, 107, 6, 0, 0, []) :: (.isub, 109, 0, 0, 0, []) :: (.invokestatic 270, 110, 325, 2, 0, [0, 0]) :: (.istore 7, 113, 7, 0, 0, []) :: (.iload 7, 115, 7, 0, 0, []) :: (.iload_n 3, 117, 3, 0, 0, []) :: (.if_icmp .ge 14, 118, 68, 0, 0, []) :: (.bipush 10, 121, 10, 0, 0, []) :: (.iload 4, 123, 4, 0, 0, []) :: zp_X12_asks_4
noncomputable def zp_X12_asks_2 : List ECE := (.if_icmp .ge 44, 57, 52, 0, 0, []) :: (.iload 6, 60, 6, 0, 0, []) :: (.iload_n 1, 62, 1, 0, 0, []) :: (.iload 7, 63, 7, 0, 0, []) :: (.invokestatic 282, 65, 197, 2, 0, [0, 0]) :: (.ifCond .eq 20, 68, 46, 0, 0, []) :: (.aload_n 0, 71, 0, 0, 0, []) :: (.iload 7, 72, 7, 0, 0, []) :: (.iload 4, 74, 4, 0, 0, []) :: (.iload 5, 76, 5, 0, 0, []) :: (.invokevirtual 431, 78, 298, 4, 13, [0, 0]) :: (.ifCond .eq 7, 81, 46, 0, 0, []) :: (.iconst 1, 84, 1, 0, 0, []) :: (.goto 4, 85, 47, 0, 0, []) :: (.iconst 0, 88, 0, 0, 0, []) :: (.invokestatic 138, 89, 198, 1, 0, [0, 0]) :: zp_X12_asks_3
noncomputable def zp_X12_asks_1 : List ECE := (.iload 4, 26, 4, 0, 0, []) :: (.iconst 4, 28, 4, 0, 0, []) :: (.if_icmp .ge 124, 29, 78, 0, 0, []) :: (.iconst 0, 32, 0, 0, 0, []) :: (.istore 5, 33, 5, 0, 0, []) :: (.iload 5, 35, 5, 0, 0, []) :: (.iload 4, 37, 4, 0, 0, []) :: (.invokestatic 425, 39, 295, 1, 0, [0, 0]) :: (.if_icmp .gt 105, 42, 76, 0, 0, []) :: (.iconst 0, 45, 0, 0, 0, []) :: (.istore 6, 46, 6, 0, 0, []) :: (.iconst 0, 48, 0, 0, 0, []) :: (.istore 7, 49, 7, 0, 0, []) :: (.iload 7, 51, 7, 0, 0, []) :: (.aload_n 0, 53, 0, 0, 0, []) :: (.getfield 131, 54, 12, 4, 0, []) :: zp_X12_asks_2
noncomputable def zp_X12_asks_0 : List ECE := (.aload_n 0, 0, 0, 0, 0, []) :: (.iconst 0, 1, 0, 0, 0, []) :: (.putfield 3, 2, 12, 0, 0, []) :: (.aload_n 0, 5, 0, 0, 0, []) :: (.invokevirtual 435, 6, 299, 1, 13, [0, 0]) :: (.istore_n 1, 9, 1, 0, 0, []) :: (.iload_n 1, 10, 1, 0, 0, []) :: (.ifCond .ne 6, 11, 10, 0, 0, []) :: (.bipush (-2), 14, 4294967294, 0, 0, []) :: (.ireturn, 16, 0, 0, 0, []) :: (.iconst (-1), 17, 4294967295, 0, 0, []) :: (.istore_n 2, 18, 2, 0, 0, []) :: (.ldc_w 424, 19, 1000000, 0, 0, []) :: (.istore_n 3, 22, 3, 0, 0, []) :: (.iconst 0, 23, 0, 0, 0, []) :: (.istore 4, 24, 4, 0, 0, []) :: zp_X12_asks_1
noncomputable def zp_X12_asks : List (List ECE) := [zp_X12_asks_0, zp_X12_asks_1, zp_X12_asks_2, zp_X12_asks_3, zp_X12_asks_4, zp_X12_asks_5]
noncomputable def zp_X12_odds_5 : List ECE := (.iload 9, 148, 9, 0, 0, []) :: (.iload 4, 150, 4, 0, 0, []) :: (.if_icmp .ge 17, 152, 89, 0, 0, []) :: (.lload 7, 155, 7, 0, 0, []) :: (.ldc2_w 278, 157, 10, 0, 0, []) :: (.lmul, 160, 0, 0, 0, []) :: (.lstore 7, 161, 7, 0, 0, []) :: (.iinc 9 1, 163, 9, 1, 0, []) :: (.goto (-18), 166, 80, 0, 0, []) :: (.aload_n 0, 169, 0, 0, 0, []) :: (.lload 5, 170, 5, 0, 0, []) :: (.lload 7, 172, 7, 0, 0, []) :: (.invokevirtual 414, 174, 201, 3, 13, [0, 0]) :: (.ireturn, 177, 0, 0, 0, []) :: []
noncomputable def zp_X12_odds_4 : List ECE := (.i2l, 117, 0, 0, 0, []) :: (.goto 5, 118, 68, 0, 0, []) :: (.iload_n 3, 121, 3, 0, 0, []) :: (.i2l, 122, 0, 0, 0, []) :: (.lmul, 123, 0, 0, 0, []) :: (.lstore 10, 124, 10, 0, 0, []) :: (.iinc 12 1, 126, 12, 1, 0, []) :: (.goto (-35), 129, 53, 0, 0, []) :: (.lload 5, 132, 5, 0, 0, []) :: (.lload 10, 134, 10, 0, 0, []) :: (.ladd, 136, 0, 0, 0, []) :: (.lstore 5, 137, 5, 0, 0, []) :: (.iinc 9 1, 139, 9, 1, 0, []) :: (.goto (-87), 142, 31, 0, 0, []) :: (.iconst 0, 145, 0, 0, 0, []) :: (.istore 9, 146, 9, 0, 0, []) :: zp_X12_odds_5
noncomputable def zp_X12_odds_3 : List ECE := (.invokestatic 138, 85, 198, 1, 0, [0, 0]) :: (.i2l, 88, 0, 0, 0, []) :: (.lstore 10, 89, 10, 0, 0, []) :: (.iconst 0, 91, 0, 0, 0, []) :: (.istore 12, 92, 12, 0, 0, []) :: (.iload 12, 94, 12, 0, 0, []) :: (.iload 4, 96, 4, 0, 0, []) :: (.if_icmp .ge 34, 98, 72, 0, 0, []) :: (.lload 10, 101, 10, 0, 0, []) :: (.iload 9, 103, 9, 0, 0, []) :: (.iload 12, 105, 12, 0, 0, []) :: (.invokestatic 282, 107, 197, 2, 0, [0, 0]) :: (.ifCond .eq 11, 110, 66, 0, 0, []) :: (.bipush 10, 113, 10, 0, 0, []) :: (.iload_n 3, 115, 3, 0, 0, []) :: (.isub, 116, 0, 0, 0, []) :: zp_X12_odds_4
noncomputable def zp_X12_odds_2 : List ECE := (.iconst 1, 57, 1, 0, 0, []) :: (.iload 4, 58, 4, 0, 0, []) :: (.ishl, 60, 0, 0, 0, []) :: (.if_icmp .ge 84, 61, 78, 0, 0, []) :: (.iconst 2, 64, 2, 0, 0, []) :: (.iload 9, 65, 9, 0, 0, []) :: (.invokestatic 312, 67, 323, 1, 0, [0, 0]) :: (.imul, 70, 0, 0, 0, []) :: (.aload_n 0, 71, 0, 0, 0, []) :: (.getfield 28, 72, 12, 6, 0, []) :: (.iload_n 2, 75, 2, 0, 0, []) :: (.iaload, 76, 0, 0, 0, []) :: (.if_icmp .le 7, 77, 47, 0, 0, []) :: (.iconst 1, 80, 1, 0, 0, []) :: (.goto 4, 81, 48, 0, 0, []) :: (.iconst 0, 84, 0, 0, 0, []) :: zp_X12_odds_3
noncomputable def zp_X12_odds_1 : List ECE := (.ifCond .ne 5, 30, 19, 0, 0, []) :: (.iconst (-1), 33, 4294967295, 0, 0, []) :: (.ireturn, 34, 0, 0, 0, []) :: (.aload_n 0, 35, 0, 0, 0, []) :: (.getfield 32, 36, 12, 7, 0, []) :: (.iload_n 2, 39, 2, 0, 0, []) :: (.iload_n 1, 40, 1, 0, 0, []) :: (.invokestatic 142, 41, 209, 3, 0, [0, 0]) :: (.istore 4, 44, 4, 0, 0, []) :: (.lconst 0, 46, 0, 0, 0, []) :: (.lstore 5, 47, 5, 0, 0, []) :: (.lconst 1, 49, 1, 0, 0, []) :: (.lstore 7, 50, 7, 0, 0, []) :: (.iconst 0, 52, 0, 0, 0, []) :: (.istore 9, 53, 9, 0, 0, []) :: (.iload 9, 55, 9, 0, 0, []) :: zp_X12_odds_2
noncomputable def zp_X12_odds_0 : List ECE := (.aload_n 0, 0, 0, 0, 0, []) :: (.iconst 0, 1, 0, 0, 0, []) :: (.putfield 3, 2, 12, 0, 0, []) :: (.aload_n 0, 5, 0, 0, 0, []) :: (.iload_n 1, 6, 1, 0, 0, []) :: (.invokevirtual 292, 7, 205, 2, 13, [0, 0]) :: (.ifCond .eq 23, 10, 17, 0, 0, []) :: (.aload_n 0, 13, 0, 0, 0, []) :: (.iload_n 2, 14, 2, 0, 0, []) :: (.invokevirtual 127, 15, 203, 2, 13, [0, 0]) :: (.ifCond .eq 15, 18, 17, 0, 0, []) :: (.iload_n 3, 21, 3, 0, 0, []) :: (.i2l, 22, 0, 0, 0, []) :: (.lconst 0, 23, 0, 0, 0, []) :: (.ldc2_w 278, 24, 10, 0, 0, []) :: (.invokestatic 123, 27, 196, 3, 0, [0, 0]) :: zp_X12_odds_1
noncomputable def zp_X12_odds : List (List ECE) := [zp_X12_odds_0, zp_X12_odds_1, zp_X12_odds_2, zp_X12_odds_3, zp_X12_odds_4, zp_X12_odds_5]
noncomputable def zp_X12_went_3 : List ECE := (.iconst 1, 91, 1, 0, 0, []) :: (.iadd, 92, 0, 0, 0, []) :: (.putfield 442, 93, 12, 39, 0, []) :: (.aload_n 0, 96, 0, 0, 0, []) :: (.getfield 442, 97, 12, 39, 0, []) :: (.ireturn, 100, 0, 0, 0, []) :: []
noncomputable def zp_X12_went_2 : List ECE := (.iastore, 65, 0, 0, 0, []) :: (.aload_n 0, 66, 0, 0, 0, []) :: (.getfield 95, 67, 12, 41, 0, []) :: (.aload_n 0, 70, 0, 0, 0, []) :: (.getfield 442, 71, 12, 39, 0, []) :: (.iload_n 2, 74, 2, 0, 0, []) :: (.iastore, 75, 0, 0, 0, []) :: (.aload_n 0, 76, 0, 0, 0, []) :: (.getfield 98, 77, 12, 42, 0, []) :: (.aload_n 0, 80, 0, 0, 0, []) :: (.getfield 442, 81, 12, 39, 0, []) :: (.iload_n 3, 84, 3, 0, 0, []) :: (.iastore, 85, 0, 0, 0, []) :: (.aload_n 0, 86, 0, 0, 0, []) :: (.dup, 87, 0, 0, 0, []) :: (.getfield 442, 88, 12, 39, 0, []) :: zp_X12_went_3
noncomputable def zp_X12_went_1 : List ECE := (.i2l, 32, 0, 0, 0, []) :: (.ldc2_w 438, 33, 18446744073709551596, 0, 0, []) :: (.ldc2_w 440, 36, 20, 0, 0, []) :: (.invokestatic 123, 39, 196, 3, 0, [0, 0]) :: (.ifCond .eq 12, 42, 25, 0, 0, []) :: (.aload_n 0, 45, 0, 0, 0, []) :: (.getfield 442, 46, 12, 39, 0, []) :: (.bipush 10, 49, 10, 0, 0, []) :: (.if_icmp .ne 5, 51, 27, 0, 0, []) :: (.iconst (-1), 54, 4294967295, 0, 0, []) :: (.ireturn, 55, 0, 0, 0, []) :: (.aload_n 0, 56, 0, 0, 0, []) :: (.getfield 92, 57, 12, 40, 0, []) :: (.aload_n 0, 60, 0, 0, 0, []) :: (.getfield 442, 61, 12, 39, 0, []) :: (.iload_n 1, 64, 1, 0, 0, []) :: zp_X12_went_2
noncomputable def zp_X12_went_0 : List ECE := (.aload_n 0, 0, 0, 0, 0, []) :: (.iconst 0, 1, 0, 0, 0, []) :: (.putfield 3, 2, 12, 0, 0, []) :: (.iload_n 1, 5, 1, 0, 0, []) :: (.i2l, 6, 0, 0, 0, []) :: (.ldc2_w 330, 7, 18446744073709551613, 0, 0, []) :: (.ldc2_w 300, 10, 3, 0, 0, []) :: (.invokestatic 123, 13, 196, 3, 0, [0, 0]) :: (.ifCond .eq 38, 16, 25, 0, 0, []) :: (.iload_n 2, 19, 2, 0, 0, []) :: (.i2l, 20, 0, 0, 0, []) :: (.lconst 0, 21, 0, 0, 0, []) :: (.ldc2_w 300, 22, 3, 0, 0, []) :: (.invokestatic 123, 25, 196, 3, 0, [0, 0]) :: (.ifCond .eq 26, 28, 25, 0, 0, []) :: (.iload_n 3, 31, 3, 0, 0, []) :: zp_X12_went_1
noncomputable def zp_X12_went : List (List ECE) := [zp_X12_went_0, zp_X12_went_1, zp_X12_went_2, zp_X12_went_3]
noncomputable def zp_X12_clears_0 : List ECE := (.aload_n 0, 0, 0, 0, 0, []) :: (.iconst 0, 1, 0, 0, 0, []) :: (.putfield 3, 2, 12, 0, 0, []) :: (.aload_n 0, 5, 0, 0, 0, []) :: (.getfield 442, 6, 12, 39, 0, []) :: (.istore_n 1, 9, 1, 0, 0, []) :: (.aload_n 0, 10, 0, 0, 0, []) :: (.iconst 0, 11, 0, 0, 0, []) :: (.putfield 442, 12, 12, 39, 0, []) :: (.iload_n 1, 15, 1, 0, 0, []) :: (.ireturn, 16, 0, 0, 0, []) :: []
noncomputable def zp_X12_clears : List (List ECE) := [zp_X12_clears_0]
noncomputable def zp_X12_goesBy_0 : List ECE := (.iload_n 0, 0, 0, 0, 0, []) :: (.iconst 5, 1, 5, 0, 0, []) :: (.idiv, 2, 0, 0, 0, []) :: (.iload_n 1, 3, 1, 0, 0, []) :: (.imul, 4, 0, 0, 0, []) :: (.iload_n 0, 5, 0, 0, 0, []) :: (.iconst 5, 6, 5, 0, 0, []) :: (.irem, 7, 0, 0, 0, []) :: (.iconst 2, 8, 2, 0, 0, []) :: (.isub, 9, 0, 0, 0, []) :: (.iload_n 2, 10, 2, 0, 0, []) :: (.imul, 11, 0, 0, 0, []) :: (.iadd, 12, 0, 0, 0, []) :: (.ireturn, 13, 0, 0, 0, []) :: []
noncomputable def zp_X12_goesBy : List (List ECE) := [zp_X12_goesBy_0]
noncomputable def zp_X12_isScatter_2 : List ECE := (.ireturn, 54, 1, 0, 0, []) :: []
noncomputable def zp_X12_isScatter_1 : List ECE := (.getfield 95, 24, 12, 41, 0, []) :: (.iload_n 3, 27, 3, 0, 0, []) :: (.iaload, 28, 0, 0, 0, []) :: (.invokestatic 445, 29, 305, 3, 0, [0, 0]) :: (.aload_n 0, 32, 0, 0, 0, []) :: (.getfield 98, 33, 12, 42, 0, []) :: (.iload_n 3, 36, 3, 0, 0, []) :: (.iaload, 37, 0, 0, 0, []) :: (.if_icmp .ne 7, 38, 27, 0, 0, []) :: (.iconst 1, 41, 1, 0, 0, []) :: (.goto 4, 42, 28, 0, 0, []) :: (.iconst 0, 45, 0, 0, 0, []) :: (.istore_n 2, 46, 2, 0, 0, []) :: (.iinc 3 1, 47, 3, 1, 0, []) :: (.goto (-46), 50, 4, 0, 0, []) :: (.iload_n 2, 53, 2, 0, 0, []) :: zp_X12_isScatter_2
noncomputable def zp_X12_isScatter_0 : List ECE := (.iconst 1, 0, 1, 0, 0, []) :: (.istore_n 2, 1, 2, 0, 0, []) :: (.iconst 0, 2, 0, 0, 0, []) :: (.istore_n 3, 3, 3, 0, 0, []) :: (.iload_n 3, 4, 3, 0, 0, []) :: (.aload_n 0, 5, 0, 0, 0, []) :: (.getfield 442, 6, 12, 39, 0, []) :: (.if_icmp .ge 44, 9, 31, 0, 0, []) :: (.iload_n 2, 12, 2, 0, 0, []) :: (.ifCond .eq 32, 13, 27, 0, 0, []) :: (.iload_n 1, 16, 1, 0, 0, []) :: (.aload_n 0, 17, 0, 0, 0, []) :: (.getfield 92, 18, 12, 40, 0, []) :: (.iload_n 3, 21, 3, 0, 0, []) :: (.iaload, 22, 0, 0, 0, []) :: (.aload_n 0, 23, 0, 0, 0, []) :: zp_X12_isScatter_1
noncomputable def zp_X12_isScatter : List (List ECE) := [zp_X12_isScatter_0, zp_X12_isScatter_1, zp_X12_isScatter_2]
noncomputable def zp_X12_scatters_2 : List ECE := (.iadd, 48, 0, 0, 0, []) :: (.i2l, 49, 0, 0, 0, []) :: (.invokevirtual 18, 50, 200, 2, 13, [0, 0]) :: (.iload_n 1, 53, 1, 0, 0, []) :: (.iload_n 3, 54, 3, 0, 0, []) :: (.invokestatic 138, 55, 198, 1, 0, [0, 0]) :: (.iadd, 58, 0, 0, 0, []) :: (.istore_n 1, 59, 1, 0, 0, []) :: (.iinc 2 1, 60, 2, 1, 0, []) :: (.goto (-49), 63, 10, 0, 0, []) :: (.iload_n 1, 66, 1, 0, 0, []) :: (.ireturn, 67, 0, 0, 0, []) :: []
noncomputable def zp_X12_scatters_1 : List ECE := (.istore_n 3, 25, 3, 0, 0, []) :: (.iload_n 3, 26, 3, 0, 0, []) :: (.ifCond .eq 26, 27, 35, 0, 0, []) :: (.iload_n 1, 30, 1, 0, 0, []) :: (.ifCond .ne 22, 31, 35, 0, 0, []) :: (.aload_n 0, 34, 0, 0, 0, []) :: (.iload_n 2, 35, 2, 0, 0, []) :: (.iconst 5, 36, 5, 0, 0, []) :: (.idiv, 37, 0, 0, 0, []) :: (.i2l, 38, 0, 0, 0, []) :: (.invokevirtual 18, 39, 200, 2, 13, [0, 0]) :: (.aload_n 0, 42, 0, 0, 0, []) :: (.bipush 8, 43, 8, 0, 0, []) :: (.iload_n 2, 45, 2, 0, 0, []) :: (.iconst 5, 46, 5, 0, 0, []) :: (.irem, 47, 0, 0, 0, []) :: zp_X12_scatters_2
noncomputable def zp_X12_scatters_0 : List ECE := (.aload_n 0, 0, 0, 0, 0, []) :: (.iconst 0, 1, 0, 0, 0, []) :: (.putfield 3, 2, 12, 0, 0, []) :: (.iconst 0, 5, 0, 0, 0, []) :: (.istore_n 1, 6, 1, 0, 0, []) :: (.aload_n 0, 7, 0, 0, 0, []) :: (.iconst 0, 8, 0, 0, 0, []) :: (.putfield 15, 9, 12, 1, 0, []) :: (.iconst 0, 12, 0, 0, 0, []) :: (.istore_n 2, 13, 2, 0, 0, []) :: (.iload_n 2, 14, 2, 0, 0, []) :: (.bipush 20, 15, 20, 0, 0, []) :: (.if_icmp .ge 49, 17, 42, 0, 0, []) :: (.aload_n 0, 20, 0, 0, 0, []) :: (.iload_n 2, 21, 2, 0, 0, []) :: (.invokevirtual 448, 22, 306, 2, 13, [0, 0]) :: zp_X12_scatters_1
noncomputable def zp_X12_scatters : List (List ECE) := [zp_X12_scatters_0, zp_X12_scatters_1, zp_X12_scatters_2]
noncomputable def zp_X12_tries_6 : List ECE := (.ireturn, 177, 0, 0, 0, []) :: []
noncomputable def zp_X12_tries_5 : List ECE := (.iload_n 2, 146, 2, 0, 0, []) :: (.iload 5, 147, 5, 0, 0, []) :: (.invokestatic 166, 149, 326, 2, 0, [0, 0]) :: (.istore_n 2, 152, 2, 0, 0, []) :: (.iinc 4 1, 153, 4, 1, 0, []) :: (.goto (-133), 156, 14, 0, 0, []) :: (.iinc 3 1, 159, 3, 1, 0, []) :: (.goto (-147), 162, 9, 0, 0, []) :: (.aload_n 0, 165, 0, 0, 0, []) :: (.iconst 0, 166, 0, 0, 0, []) :: (.putfield 15, 167, 12, 1, 0, []) :: (.aload_n 0, 170, 0, 0, 0, []) :: (.iload_n 2, 171, 2, 0, 0, []) :: (.i2l, 172, 0, 0, 0, []) :: (.invokevirtual 18, 173, 200, 2, 13, [0, 0]) :: (.iload_n 1, 176, 1, 0, 0, []) :: zp_X12_tries_6
noncomputable def zp_X12_tries_4 : List ECE := (.ifCond .ne 6, 120, 67, 0, 0, []) :: (.bipush (-2), 123, 4294967294, 0, 0, []) :: (.ireturn, 125, 0, 0, 0, []) :: (.iload 5, 126, 5, 0, 0, []) :: (.iload_n 2, 128, 2, 0, 0, []) :: (.if_icmp .ge 15, 129, 78, 0, 0, []) :: (.bipush 10, 132, 10, 0, 0, []) :: (.iconst 3, 134, 3, 0, 0, []) :: (.iload_n 3, 135, 3, 0, 0, []) :: (.iadd, 136, 0, 0, 0, []) :: (.imul, 137, 0, 0, 0, []) :: (.iload 4, 138, 4, 0, 0, []) :: (.iadd, 140, 0, 0, 0, []) :: (.goto 4, 141, 79, 0, 0, []) :: (.iload_n 1, 144, 1, 0, 0, []) :: (.istore_n 1, 145, 1, 0, 0, []) :: zp_X12_tries_5
noncomputable def zp_X12_tries_3 : List ECE := (.aload_n 0, 87, 0, 0, 0, []) :: (.iload 6, 88, 6, 0, 0, []) :: (.invokevirtual 448, 90, 306, 2, 13, [0, 0]) :: (.invokestatic 138, 93, 198, 1, 0, [0, 0]) :: (.iadd, 96, 0, 0, 0, []) :: (.iastore, 97, 0, 0, 0, []) :: (.iload 5, 98, 5, 0, 0, []) :: (.aload_n 0, 100, 0, 0, 0, []) :: (.getfield 101, 101, 12, 43, 0, []) :: (.iload 7, 104, 7, 0, 0, []) :: (.iaload, 106, 0, 0, 0, []) :: (.invokestatic 270, 107, 325, 2, 0, [0, 0]) :: (.istore 5, 110, 5, 0, 0, []) :: (.iinc 6 1, 112, 6, 1, 0, []) :: (.goto (-56), 115, 33, 0, 0, []) :: (.iload 5, 118, 5, 0, 0, []) :: zp_X12_tries_4
noncomputable def zp_X12_tries_2 : List ECE := (.istore 6, 57, 6, 0, 0, []) :: (.iload 6, 59, 6, 0, 0, []) :: (.bipush 20, 61, 20, 0, 0, []) :: (.if_icmp .ge 55, 63, 63, 0, 0, []) :: (.bipush 20, 66, 20, 0, 0, []) :: (.iload 6, 68, 6, 0, 0, []) :: (.iload_n 3, 70, 3, 0, 0, []) :: (.iload 4, 71, 4, 0, 0, []) :: (.invokestatic 445, 73, 305, 3, 0, [0, 0]) :: (.iadd, 76, 0, 0, 0, []) :: (.istore 7, 77, 7, 0, 0, []) :: (.aload_n 0, 79, 0, 0, 0, []) :: (.getfield 101, 80, 12, 43, 0, []) :: (.iload 7, 83, 7, 0, 0, []) :: (.dup2, 85, 0, 0, 0, []) :: (.iaload, 86, 0, 0, 0, []) :: zp_X12_tries_3
noncomputable def zp_X12_tries_1 : List ECE := (.if_icmp .ge 133, 26, 86, 0, 0, []) :: (.iconst 0, 29, 0, 0, 0, []) :: (.istore 5, 30, 5, 0, 0, []) :: (.iconst 0, 32, 0, 0, 0, []) :: (.istore 6, 33, 6, 0, 0, []) :: (.iload 6, 35, 6, 0, 0, []) :: (.bipush 40, 37, 40, 0, 0, []) :: (.if_icmp .gt 17, 39, 31, 0, 0, []) :: (.aload_n 0, 42, 0, 0, 0, []) :: (.getfield 101, 43, 12, 43, 0, []) :: (.iload 6, 46, 6, 0, 0, []) :: (.iconst 0, 48, 0, 0, 0, []) :: (.iastore, 49, 0, 0, 0, []) :: (.iinc 6 1, 50, 6, 1, 0, []) :: (.goto (-18), 53, 21, 0, 0, []) :: (.iconst 0, 56, 0, 0, 0, []) :: zp_X12_tries_2
noncomputable def zp_X12_tries_0 : List ECE := (.aload_n 0, 0, 0, 0, 0, []) :: (.iconst 0, 1, 0, 0, 0, []) :: (.putfield 3, 2, 12, 0, 0, []) :: (.bipush (-2), 5, 4294967294, 0, 0, []) :: (.istore_n 1, 7, 1, 0, 0, []) :: (.ldc_w 424, 8, 1000000, 0, 0, []) :: (.istore_n 2, 11, 2, 0, 0, []) :: (.bipush (-3), 12, 4294967293, 0, 0, []) :: (.istore_n 3, 14, 3, 0, 0, []) :: (.iload_n 3, 15, 3, 0, 0, []) :: (.iconst 3, 16, 3, 0, 0, []) :: (.if_icmp .gt 148, 17, 88, 0, 0, []) :: (.iconst 0, 20, 0, 0, 0, []) :: (.istore 4, 21, 4, 0, 0, []) :: (.iload 4, 23, 4, 0, 0, []) :: (.iconst 4, 25, 4, 0, 0, []) :: zp_X12_tries_1
noncomputable def zp_X12_tries : List (List ECE) := [zp_X12_tries_0, zp_X12_tries_1, zp_X12_tries_2, zp_X12_tries_3, zp_X12_tries_4, zp_X12_tries_5, zp_X12_tries_6]
noncomputable def zp_X12_handfuls_4 : List ECE := (.getfield 104, 107, 12, 44, 0, []) :: (.iload_n 1, 110, 1, 0, 0, []) :: (.iaload, 111, 0, 0, 0, []) :: (.ireturn, 112, 0, 0, 0, []) :: []
noncomputable def zp_X12_handfuls_3 : List ECE := (.iload 4, 76, 4, 0, 0, []) :: (.ifCond .eq 9, 78, 54, 0, 0, []) :: (.iload_n 3, 81, 3, 0, 0, []) :: (.iload_n 3, 82, 3, 0, 0, []) :: (.imul, 83, 0, 0, 0, []) :: (.goto 9, 84, 58, 0, 0, []) :: (.aload_n 0, 87, 0, 0, 0, []) :: (.getfield 104, 88, 12, 44, 0, []) :: (.iload_n 2, 91, 2, 0, 0, []) :: (.iaload, 92, 0, 0, 0, []) :: (.iastore, 93, 0, 0, 0, []) :: (.iinc 3 (-1), 94, 3, 4294967295, 0, []) :: (.goto (-61), 97, 23, 0, 0, []) :: (.iinc 2 1, 100, 2, 1, 0, []) :: (.goto (-82), 103, 13, 0, 0, []) :: (.aload_n 0, 106, 0, 0, 0, []) :: zp_X12_handfuls_4
noncomputable def zp_X12_handfuls_2 : List ECE := (.iload_n 2, 51, 2, 0, 0, []) :: (.iload_n 2, 52, 2, 0, 0, []) :: (.iload_n 3, 53, 3, 0, 0, []) :: (.iload_n 3, 54, 3, 0, 0, []) :: (.imul, 55, 0, 0, 0, []) :: (.invokestatic 166, 56, 326, 2, 0, [0, 0]) :: (.isub, 59, 0, 0, 0, []) :: (.iaload, 60, 0, 0, 0, []) :: (.ifCond .ne 7, 61, 43, 0, 0, []) :: (.iconst 1, 64, 1, 0, 0, []) :: (.goto 4, 65, 44, 0, 0, []) :: (.iconst 0, 68, 0, 0, 0, []) :: (.istore 4, 69, 4, 0, 0, []) :: (.aload_n 0, 71, 0, 0, 0, []) :: (.getfield 104, 72, 12, 44, 0, []) :: (.iload_n 2, 75, 2, 0, 0, []) :: zp_X12_handfuls_3
noncomputable def zp_X12_handfuls_1 : List ECE := (.aload_n 0, 26, 0, 0, 0, []) :: (.getfield 104, 27, 12, 44, 0, []) :: (.iload_n 2, 30, 2, 0, 0, []) :: (.iconst 0, 31, 0, 0, 0, []) :: (.iastore, 32, 0, 0, 0, []) :: (.bipush 7, 33, 7, 0, 0, []) :: (.istore_n 3, 35, 3, 0, 0, []) :: (.iload_n 3, 36, 3, 0, 0, []) :: (.ifCond .le 63, 37, 61, 0, 0, []) :: (.iload_n 3, 40, 3, 0, 0, []) :: (.iload_n 3, 41, 3, 0, 0, []) :: (.imul, 42, 0, 0, 0, []) :: (.iload_n 2, 43, 2, 0, 0, []) :: (.if_icmp .gt 24, 44, 43, 0, 0, []) :: (.aload_n 0, 47, 0, 0, 0, []) :: (.getfield 104, 48, 12, 44, 0, []) :: zp_X12_handfuls_2
noncomputable def zp_X12_handfuls_0 : List ECE := (.aload_n 0, 0, 0, 0, 0, []) :: (.iconst 0, 1, 0, 0, 0, []) :: (.putfield 3, 2, 12, 0, 0, []) :: (.iload_n 1, 5, 1, 0, 0, []) :: (.i2l, 6, 0, 0, 0, []) :: (.lconst 0, 7, 0, 0, 0, []) :: (.ldc2_w 347, 8, 60, 0, 0, []) :: (.invokestatic 123, 11, 196, 3, 0, [0, 0]) :: (.ifCond .ne 5, 14, 11, 0, 0, []) :: (.iconst (-1), 17, 4294967295, 0, 0, []) :: (.ireturn, 18, 0, 0, 0, []) :: (.iconst 0, 19, 0, 0, 0, []) :: (.istore_n 2, 20, 2, 0, 0, []) :: (.iload_n 2, 21, 2, 0, 0, []) :: (.iload_n 1, 22, 1, 0, 0, []) :: (.if_icmp .gt 83, 23, 63, 0, 0, []) :: zp_X12_handfuls_1
noncomputable def zp_X12_handfuls : List (List ECE) := [zp_X12_handfuls_0, zp_X12_handfuls_1, zp_X12_handfuls_2, zp_X12_handfuls_3, zp_X12_handfuls_4]
noncomputable def zp_X12_other_6 : List ECE := (.invokevirtual 18, 178, 200, 2, 13, [0, 0]) :: (.aload_n 0, 181, 0, 0, 0, []) :: (.iload_n 3, 182, 3, 0, 0, []) :: (.i2l, 183, 0, 0, 0, []) :: (.invokevirtual 18, 184, 200, 2, 13, [0, 0]) :: (.aload_n 0, 187, 0, 0, 0, []) :: (.aload_n 0, 188, 0, 0, 0, []) :: (.getfield 35, 189, 12, 8, 0, []) :: (.invokevirtual 383, 192, 211, 2, 13, [0, 0]) :: (.iload_n 2, 195, 2, 0, 0, []) :: (.isub, 196, 0, 0, 0, []) :: (.ireturn, 197, 0, 0, 0, []) :: []
noncomputable def zp_X12_other_5 : List ECE := (.aload_n 0, 150, 0, 0, 0, []) :: (.aload_n 0, 151, 0, 0, 0, []) :: (.getfield 35, 152, 12, 8, 0, []) :: (.invokevirtual 383, 155, 211, 2, 13, [0, 0]) :: (.i2l, 158, 0, 0, 0, []) :: (.invokevirtual 18, 159, 200, 2, 13, [0, 0]) :: (.aload_n 0, 162, 0, 0, 0, []) :: (.iload_n 2, 163, 2, 0, 0, []) :: (.i2l, 164, 0, 0, 0, []) :: (.invokevirtual 18, 165, 200, 2, 13, [0, 0]) :: (.aload_n 0, 168, 0, 0, 0, []) :: (.aload_n 0, 169, 0, 0, 0, []) :: (.aload_n 0, 170, 0, 0, 0, []) :: (.getfield 35, 171, 12, 8, 0, []) :: (.invokevirtual 355, 174, 214, 2, 13, [0, 0]) :: (.i2l, 177, 0, 0, 0, []) :: zp_X12_other_6
noncomputable def zp_X12_other_4 : List ECE := (.invokestatic 386, 120, 215, 2, 0, [0, 0]) :: (.aload_n 0, 123, 0, 0, 0, []) :: (.aload_n 0, 124, 0, 0, 0, []) :: (.getfield 35, 125, 12, 8, 0, []) :: (.bipush 10, 128, 10, 0, 0, []) :: (.invokevirtual 349, 130, 250, 3, 13, [0, 0]) :: (.pop, 133, 0, 0, 0, []) :: (.aload_n 0, 134, 0, 0, 0, []) :: (.aload_n 0, 135, 0, 0, 0, []) :: (.getfield 107, 136, 12, 45, 0, []) :: (.iload 4, 139, 4, 0, 0, []) :: (.invokevirtual 257, 141, 233, 3, 13, [0, 0]) :: (.aload_n 0, 144, 0, 0, 0, []) :: (.iconst 0, 145, 0, 0, 0, []) :: (.putfield 15, 146, 12, 1, 0, []) :: (.aload_n 0, 149, 0, 0, 0, []) :: zp_X12_other_5
noncomputable def zp_X12_other_3 : List ECE := (.getfield 44, 87, 12, 16, 0, []) :: (.iload 5, 90, 5, 0, 0, []) :: (.iaload, 92, 0, 0, 0, []) :: (.iastore, 93, 0, 0, 0, []) :: (.iinc 5 1, 94, 5, 1, 0, []) :: (.goto (-26), 97, 40, 0, 0, []) :: (.aload_n 0, 100, 0, 0, 0, []) :: (.aload_n 0, 101, 0, 0, 0, []) :: (.getfield 47, 102, 12, 17, 0, []) :: (.aload_n 0, 105, 0, 0, 0, []) :: (.getfield 223, 106, 12, 19, 0, []) :: (.invokevirtual 257, 109, 233, 3, 13, [0, 0]) :: (.aload_n 0, 112, 0, 0, 0, []) :: (.getfield 35, 113, 12, 8, 0, []) :: (.aload_n 0, 116, 0, 0, 0, []) :: (.getfield 32, 117, 12, 7, 0, []) :: zp_X12_other_4
noncomputable def zp_X12_other_2 : List ECE := (.getfield 35, 55, 12, 8, 0, []) :: (.invokevirtual 355, 58, 214, 2, 13, [0, 0]) :: (.istore_n 3, 61, 3, 0, 0, []) :: (.aload_n 0, 62, 0, 0, 0, []) :: (.getfield 251, 63, 12, 18, 0, []) :: (.istore 4, 66, 4, 0, 0, []) :: (.iconst 0, 68, 0, 0, 0, []) :: (.istore 5, 69, 5, 0, 0, []) :: (.iload 5, 71, 5, 0, 0, []) :: (.aload_n 0, 73, 0, 0, 0, []) :: (.getfield 251, 74, 12, 18, 0, []) :: (.if_icmp .ge 23, 77, 54, 0, 0, []) :: (.aload_n 0, 80, 0, 0, 0, []) :: (.getfield 107, 81, 12, 45, 0, []) :: (.iload 5, 84, 5, 0, 0, []) :: (.aload_n 0, 86, 0, 0, 0, []) :: zp_X12_other_3
noncomputable def zp_X12_other_1 : List ECE := (.aload_n 0, 26, 0, 0, 0, []) :: (.getfield 32, 27, 12, 7, 0, []) :: (.invokestatic 386, 30, 215, 2, 0, [0, 0]) :: (.aload_n 0, 33, 0, 0, 0, []) :: (.aload_n 0, 34, 0, 0, 0, []) :: (.getfield 35, 35, 12, 8, 0, []) :: (.bipush 10, 38, 10, 0, 0, []) :: (.invokevirtual 349, 40, 250, 3, 13, [0, 0]) :: (.pop, 43, 0, 0, 0, []) :: (.aload_n 0, 44, 0, 0, 0, []) :: (.aload_n 0, 45, 0, 0, 0, []) :: (.getfield 35, 46, 12, 8, 0, []) :: (.invokevirtual 383, 49, 211, 2, 13, [0, 0]) :: (.istore_n 2, 52, 2, 0, 0, []) :: (.aload_n 0, 53, 0, 0, 0, []) :: (.aload_n 0, 54, 0, 0, 0, []) :: zp_X12_other_2
noncomputable def zp_X12_other_0 : List ECE := (.aload_n 0, 0, 0, 0, 0, []) :: (.iconst 0, 1, 0, 0, 0, []) :: (.putfield 3, 2, 12, 0, 0, []) :: (.aload_n 0, 5, 0, 0, 0, []) :: (.invokevirtual 254, 6, 232, 1, 13, [0, 0]) :: (.istore_n 1, 9, 1, 0, 0, []) :: (.iload_n 1, 10, 1, 0, 0, []) :: (.ifCond .ge 11, 11, 14, 0, 0, []) :: (.iload_n 1, 14, 1, 0, 0, []) :: (.iconst 1, 15, 1, 0, 0, []) :: (.iadd, 16, 0, 0, 0, []) :: (.sipush 10000, 17, 10000, 0, 0, []) :: (.isub, 20, 0, 0, 0, []) :: (.ireturn, 21, 0, 0, 0, []) :: (.aload_n 0, 22, 0, 0, 0, []) :: (.getfield 35, 23, 12, 8, 0, []) :: zp_X12_other_1
noncomputable def zp_X12_other : List (List ECE) := [zp_X12_other_0, zp_X12_other_1, zp_X12_other_2, zp_X12_other_3, zp_X12_other_4, zp_X12_other_5, zp_X12_other_6]
noncomputable def zp_X12_gets_1 : List ECE := (.ireturn, 22, 0, 0, 0, []) :: []
noncomputable def zp_X12_gets_0 : List ECE := (.iload_n 0, 0, 0, 0, 0, []) :: (.iload_n 1, 1, 1, 0, 0, []) :: (.iadd, 2, 0, 0, 0, []) :: (.iload_n 2, 3, 2, 0, 0, []) :: (.if_icmp .gt 9, 4, 9, 0, 0, []) :: (.iconst 2, 7, 2, 0, 0, []) :: (.iload_n 0, 8, 0, 0, 0, []) :: (.imul, 9, 0, 0, 0, []) :: (.goto 12, 10, 16, 0, 0, []) :: (.iconst 0, 13, 0, 0, 0, []) :: (.iload_n 2, 14, 2, 0, 0, []) :: (.iload_n 1, 15, 1, 0, 0, []) :: (.isub, 16, 0, 0, 0, []) :: (.iconst 3, 17, 3, 0, 0, []) :: (.isub, 18, 0, 0, 0, []) :: (.invokestatic 270, 19, 325, 2, 0, [0, 0]) :: zp_X12_gets_1
noncomputable def zp_X12_gets : List (List ECE) := [zp_X12_gets_0, zp_X12_gets_1]
noncomputable def zp_X12_isRest_1 : List ECE := (.invokestatic 451, 26, 311, 3, 0, [0, 0]) :: (.if_icmp .gt 7, 29, 20, 0, 0, []) :: (.iconst 1, 32, 1, 0, 0, []) :: (.goto 4, 33, 21, 0, 0, []) :: (.iconst 0, 36, 0, 0, 0, []) :: (.istore_n 3, 37, 3, 0, 0, []) :: (.iinc 4 1, 38, 4, 1, 0, []) :: (.goto (-36), 41, 4, 0, 0, []) :: (.iload_n 3, 44, 3, 0, 0, []) :: (.ireturn, 45, 1, 0, 0, []) :: []
noncomputable def zp_X12_isRest_0 : List ECE := (.iconst 1, 0, 1, 0, 0, []) :: (.istore_n 3, 1, 3, 0, 0, []) :: (.iconst 0, 2, 0, 0, 0, []) :: (.istore 4, 3, 4, 0, 0, []) :: (.iload 4, 5, 4, 0, 0, []) :: (.bipush 9, 7, 9, 0, 0, []) :: (.if_icmp .gt 35, 9, 24, 0, 0, []) :: (.iload_n 3, 12, 3, 0, 0, []) :: (.ifCond .eq 23, 13, 20, 0, 0, []) :: (.iload 4, 16, 4, 0, 0, []) :: (.iload_n 1, 18, 1, 0, 0, []) :: (.iload_n 2, 19, 2, 0, 0, []) :: (.invokestatic 451, 20, 311, 3, 0, [0, 0]) :: (.iload_n 0, 23, 0, 0, 0, []) :: (.iload_n 1, 24, 1, 0, 0, []) :: (.iload_n 2, 25, 2, 0, 0, []) :: zp_X12_isRest_1
noncomputable def zp_X12_isRest : List (List ECE) := [zp_X12_isRest_0, zp_X12_isRest_1]
noncomputable def zp_X12_grasps_3 : List ECE := (.goto (-50), 87, 23, 0, 0, []) :: (.iinc 3 1, 90, 3, 1, 0, []) :: (.goto (-65), 93, 18, 0, 0, []) :: (.iload_n 2, 96, 2, 0, 0, []) :: (.ireturn, 97, 0, 0, 0, []) :: []
noncomputable def zp_X12_grasps_2 : List ECE := (.iload_n 3, 56, 3, 0, 0, []) :: (.iload_n 1, 57, 1, 0, 0, []) :: (.invokestatic 456, 58, 312, 3, 0, [0, 0]) :: (.ifCond .eq 23, 61, 47, 0, 0, []) :: (.iload_n 2, 64, 2, 0, 0, []) :: (.ifCond .ne 16, 65, 46, 0, 0, []) :: (.aload_n 0, 68, 0, 0, 0, []) :: (.iload_n 3, 69, 3, 0, 0, []) :: (.i2l, 70, 0, 0, 0, []) :: (.invokevirtual 18, 71, 200, 2, 13, [0, 0]) :: (.aload_n 0, 74, 0, 0, 0, []) :: (.iload 4, 75, 4, 0, 0, []) :: (.i2l, 77, 0, 0, 0, []) :: (.invokevirtual 18, 78, 200, 2, 13, [0, 0]) :: (.iinc 2 1, 81, 2, 1, 0, []) :: (.iinc 4 1, 84, 4, 1, 0, []) :: zp_X12_grasps_3
noncomputable def zp_X12_grasps_1 : List ECE := (.iconst 0, 26, 0, 0, 0, []) :: (.istore_n 3, 27, 3, 0, 0, []) :: (.iload_n 3, 28, 3, 0, 0, []) :: (.bipush 9, 29, 9, 0, 0, []) :: (.if_icmp .gt 65, 31, 51, 0, 0, []) :: (.iconst 0, 34, 0, 0, 0, []) :: (.istore 4, 35, 4, 0, 0, []) :: (.iload 4, 37, 4, 0, 0, []) :: (.bipush 9, 39, 9, 0, 0, []) :: (.if_icmp .gt 49, 41, 49, 0, 0, []) :: (.iload_n 3, 44, 3, 0, 0, []) :: (.iload 4, 45, 4, 0, 0, []) :: (.iload_n 1, 47, 1, 0, 0, []) :: (.invokestatic 456, 48, 312, 3, 0, [0, 0]) :: (.ifCond .eq 33, 51, 47, 0, 0, []) :: (.iload 4, 54, 4, 0, 0, []) :: zp_X12_grasps_2
noncomputable def zp_X12_grasps_0 : List ECE := (.aload_n 0, 0, 0, 0, 0, []) :: (.iconst 0, 1, 0, 0, 0, []) :: (.putfield 3, 2, 12, 0, 0, []) :: (.iload_n 1, 5, 1, 0, 0, []) :: (.i2l, 6, 0, 0, 0, []) :: (.lconst 0, 7, 0, 0, 0, []) :: (.ldc2_w 454, 8, 18, 0, 0, []) :: (.invokestatic 123, 11, 196, 3, 0, [0, 0]) :: (.ifCond .ne 5, 14, 11, 0, 0, []) :: (.iconst (-1), 17, 4294967295, 0, 0, []) :: (.ireturn, 18, 0, 0, 0, []) :: (.iconst 0, 19, 0, 0, 0, []) :: (.istore_n 2, 20, 2, 0, 0, []) :: (.aload_n 0, 21, 0, 0, 0, []) :: (.iconst 0, 22, 0, 0, 0, []) :: (.putfield 15, 23, 12, 1, 0, []) :: zp_X12_grasps_1
noncomputable def zp_X12_grasps : List (List ECE) := [zp_X12_grasps_0, zp_X12_grasps_1, zp_X12_grasps_2, zp_X12_grasps_3]
noncomputable def zp_X12_draws_0 : List ECE := (.aload_n 0, 0, 0, 0, 0, []) :: (.aload_n 0, 1, 0, 0, 0, []) :: (.getfield 459, 2, 12, 46, 0, []) :: (.ldc_w 462, 5, 1103515245, 0, 0, []) :: (.imul, 8, 0, 0, 0, []) :: (.sipush 12345, 9, 12345, 0, 0, []) :: (.iadd, 12, 0, 0, 0, []) :: (.putfield 459, 13, 12, 46, 0, []) :: (.aload_n 0, 16, 0, 0, 0, []) :: (.getfield 459, 17, 12, 46, 0, []) :: (.bipush 16, 20, 16, 0, 0, []) :: (.iushr, 22, 0, 0, 0, []) :: (.iload_n 1, 23, 1, 0, 0, []) :: (.irem, 24, 0, 0, 0, []) :: (.ireturn, 25, 0, 0, 0, []) :: []
noncomputable def zp_X12_draws : List (List ECE) := [zp_X12_draws_0]
noncomputable def zp_X12_years_5 : List ECE := (.i2l, 149, 0, 0, 0, []) :: (.invokevirtual 18, 150, 200, 2, 13, [0, 0]) :: (.aload_n 0, 153, 0, 0, 0, []) :: (.aload_n 0, 154, 0, 0, 0, []) :: (.aload_n 0, 155, 0, 0, 0, []) :: (.getfield 35, 156, 12, 8, 0, []) :: (.invokevirtual 355, 159, 214, 2, 13, [0, 0]) :: (.i2l, 162, 0, 0, 0, []) :: (.invokevirtual 18, 163, 200, 2, 13, [0, 0]) :: (.iload_n 3, 166, 3, 0, 0, []) :: (.ireturn, 167, 0, 0, 0, []) :: []
noncomputable def zp_X12_years_4 : List ECE := (.bipush 20, 118, 20, 0, 0, []) :: (.iload 6, 120, 6, 0, 0, []) :: (.iadd, 122, 0, 0, 0, []) :: (.aload_n 0, 123, 0, 0, 0, []) :: (.bipush 8, 124, 8, 0, 0, []) :: (.invokevirtual 463, 126, 314, 2, 13, [0, 0]) :: (.iastore, 129, 0, 0, 0, []) :: (.iinc 4 1, 130, 4, 1, 0, []) :: (.goto (-93), 133, 23, 0, 0, []) :: (.aload_n 0, 136, 0, 0, 0, []) :: (.iconst 0, 137, 0, 0, 0, []) :: (.putfield 15, 138, 12, 1, 0, []) :: (.aload_n 0, 141, 0, 0, 0, []) :: (.aload_n 0, 142, 0, 0, 0, []) :: (.getfield 35, 143, 12, 8, 0, []) :: (.invokestatic 352, 146, 212, 1, 0, [0, 0]) :: zp_X12_years_5
noncomputable def zp_X12_years_3 : List ECE := (.bipush 7, 86, 7, 0, 0, []) :: (.invokevirtual 463, 88, 314, 2, 13, [0, 0]) :: (.iconst 3, 91, 3, 0, 0, []) :: (.isub, 92, 0, 0, 0, []) :: (.iastore, 93, 0, 0, 0, []) :: (.goto 36, 94, 71, 0, 0, []) :: (.aload_n 0, 97, 0, 0, 0, []) :: (.getfield 131, 98, 12, 4, 0, []) :: (.ifCond .le 29, 101, 71, 0, 0, []) :: (.aload_n 0, 104, 0, 0, 0, []) :: (.aload_n 0, 105, 0, 0, 0, []) :: (.getfield 131, 106, 12, 4, 0, []) :: (.invokevirtual 463, 109, 314, 2, 13, [0, 0]) :: (.istore 6, 112, 6, 0, 0, []) :: (.aload_n 0, 114, 0, 0, 0, []) :: (.getfield 35, 115, 12, 8, 0, []) :: zp_X12_years_4
noncomputable def zp_X12_years_2 : List ECE := (.if_icmp .ge 17, 56, 41, 0, 0, []) :: (.iload_n 3, 59, 3, 0, 0, []) :: (.aload_n 0, 60, 0, 0, 0, []) :: (.aload_n 0, 61, 0, 0, 0, []) :: (.getfield 35, 62, 12, 8, 0, []) :: (.invokevirtual 308, 65, 249, 2, 13, [0, 0]) :: (.iadd, 68, 0, 0, 0, []) :: (.istore_n 3, 69, 3, 0, 0, []) :: (.goto 60, 70, 71, 0, 0, []) :: (.iload 5, 73, 5, 0, 0, []) :: (.iconst 2, 75, 2, 0, 0, []) :: (.if_icmp .ne 21, 76, 54, 0, 0, []) :: (.aload_n 0, 79, 0, 0, 0, []) :: (.getfield 35, 80, 12, 8, 0, []) :: (.bipush 27, 83, 27, 0, 0, []) :: (.aload_n 0, 85, 0, 0, 0, []) :: zp_X12_years_3
noncomputable def zp_X12_years_1 : List ECE := (.aload_n 0, 28, 0, 0, 0, []) :: (.getfield 32, 29, 12, 7, 0, []) :: (.invokestatic 386, 32, 215, 2, 0, [0, 0]) :: (.iconst 0, 35, 0, 0, 0, []) :: (.istore_n 3, 36, 3, 0, 0, []) :: (.iconst 0, 37, 0, 0, 0, []) :: (.istore 4, 38, 4, 0, 0, []) :: (.iload 4, 40, 4, 0, 0, []) :: (.iload_n 2, 42, 2, 0, 0, []) :: (.if_icmp .ge 93, 43, 73, 0, 0, []) :: (.aload_n 0, 46, 0, 0, 0, []) :: (.iconst 4, 47, 4, 0, 0, []) :: (.invokevirtual 463, 48, 314, 2, 13, [0, 0]) :: (.istore 5, 51, 5, 0, 0, []) :: (.iload 5, 53, 5, 0, 0, []) :: (.iconst 2, 55, 2, 0, 0, []) :: zp_X12_years_2
noncomputable def zp_X12_years_0 : List ECE := (.aload_n 0, 0, 0, 0, 0, []) :: (.iconst 0, 1, 0, 0, 0, []) :: (.putfield 3, 2, 12, 0, 0, []) :: (.iload_n 2, 5, 2, 0, 0, []) :: (.i2l, 6, 0, 0, 0, []) :: (.lconst 1, 7, 1, 0, 0, []) :: (.ldc2_w 347, 8, 60, 0, 0, []) :: (.invokestatic 123, 11, 196, 3, 0, [0, 0]) :: (.ifCond .ne 5, 14, 11, 0, 0, []) :: (.iconst (-1), 17, 4294967295, 0, 0, []) :: (.ireturn, 18, 0, 0, 0, []) :: (.aload_n 0, 19, 0, 0, 0, []) :: (.iload_n 1, 20, 1, 0, 0, []) :: (.putfield 459, 21, 12, 46, 0, []) :: (.aload_n 0, 24, 0, 0, 0, []) :: (.getfield 35, 25, 12, 8, 0, []) :: zp_X12_years_1
noncomputable def zp_X12_years : List (List ECE) := [zp_X12_years_0, zp_X12_years_1, zp_X12_years_2, zp_X12_years_3, zp_X12_years_4, zp_X12_years_5]
noncomputable def zp_X12_keep_2 : List ECE := (.iload_n 2, 52, 2, 0, 0, []) :: (.iadd, 53, 0, 0, 0, []) :: (.aload_n 0, 54, 0, 0, 0, []) :: (.getfield 32, 55, 12, 7, 0, []) :: (.iload_n 2, 58, 2, 0, 0, []) :: (.iaload, 59, 0, 0, 0, []) :: (.iastore, 60, 0, 0, 0, []) :: (.iinc 2 1, 61, 2, 1, 0, []) :: (.goto (-26), 64, 24, 0, 0, []) :: (.iconst 1, 67, 1, 0, 0, []) :: (.ireturn, 68, 1, 0, 0, []) :: []
noncomputable def zp_X12_keep_1 : List ECE := (.aload_n 0, 26, 0, 0, 0, []) :: (.getfield 114, 27, 12, 48, 0, []) :: (.iload_n 1, 30, 1, 0, 0, []) :: (.aload_n 0, 31, 0, 0, 0, []) :: (.getfield 213, 32, 12, 5, 0, []) :: (.iastore, 35, 0, 0, 0, []) :: (.iconst 0, 36, 0, 0, 0, []) :: (.istore_n 2, 37, 2, 0, 0, []) :: (.iload_n 2, 38, 2, 0, 0, []) :: (.bipush 29, 39, 29, 0, 0, []) :: (.if_icmp .ge 26, 41, 41, 0, 0, []) :: (.aload_n 0, 44, 0, 0, 0, []) :: (.getfield 117, 45, 12, 49, 0, []) :: (.bipush 29, 48, 29, 0, 0, []) :: (.iload_n 1, 50, 1, 0, 0, []) :: (.imul, 51, 0, 0, 0, []) :: zp_X12_keep_2
noncomputable def zp_X12_keep_0 : List ECE := (.aload_n 0, 0, 0, 0, 0, []) :: (.iconst 0, 1, 0, 0, 0, []) :: (.putfield 3, 2, 12, 0, 0, []) :: (.iload_n 1, 5, 1, 0, 0, []) :: (.i2l, 6, 0, 0, 0, []) :: (.lconst 0, 7, 0, 0, 0, []) :: (.ldc2_w 295, 8, 2, 0, 0, []) :: (.invokestatic 123, 11, 196, 3, 0, [0, 0]) :: (.ifCond .ne 5, 14, 11, 0, 0, []) :: (.iconst 0, 17, 0, 0, 0, []) :: (.ireturn, 18, 1, 0, 0, []) :: (.aload_n 0, 19, 0, 0, 0, []) :: (.getfield 110, 20, 12, 47, 0, []) :: (.iload_n 1, 23, 1, 0, 0, []) :: (.iconst 1, 24, 1, 0, 0, []) :: (.bastore, 25, 0, 0, 0, []) :: zp_X12_keep_1
noncomputable def zp_X12_keep : List (List ECE) := [zp_X12_keep_0, zp_X12_keep_1, zp_X12_keep_2]
noncomputable def zp_X12_again_2 : List ECE := (.getfield 117, 55, 12, 49, 0, []) :: (.bipush 29, 58, 29, 0, 0, []) :: (.iload_n 1, 60, 1, 0, 0, []) :: (.imul, 61, 0, 0, 0, []) :: (.iload_n 2, 62, 2, 0, 0, []) :: (.iadd, 63, 0, 0, 0, []) :: (.iaload, 64, 0, 0, 0, []) :: (.iastore, 65, 0, 0, 0, []) :: (.iinc 2 1, 66, 2, 1, 0, []) :: (.goto (-26), 69, 25, 0, 0, []) :: (.aload_n 0, 72, 0, 0, 0, []) :: (.iconst 0, 73, 0, 0, 0, []) :: (.putfield 210, 74, 12, 22, 0, []) :: (.iconst 1, 77, 1, 0, 0, []) :: (.ireturn, 78, 1, 0, 0, []) :: []
noncomputable def zp_X12_again_1 : List ECE := (.iload_n 1, 30, 1, 0, 0, []) :: (.iaload, 31, 0, 0, 0, []) :: (.aload_n 0, 32, 0, 0, 0, []) :: (.getfield 213, 33, 12, 5, 0, []) :: (.if_icmp .eq 5, 36, 23, 0, 0, []) :: (.iconst 0, 39, 0, 0, 0, []) :: (.ireturn, 40, 1, 0, 0, []) :: (.iconst 0, 41, 0, 0, 0, []) :: (.istore_n 2, 42, 2, 0, 0, []) :: (.iload_n 2, 43, 2, 0, 0, []) :: (.bipush 29, 44, 29, 0, 0, []) :: (.if_icmp .ge 26, 46, 42, 0, 0, []) :: (.aload_n 0, 49, 0, 0, 0, []) :: (.getfield 32, 50, 12, 7, 0, []) :: (.iload_n 2, 53, 2, 0, 0, []) :: (.aload_n 0, 54, 0, 0, 0, []) :: zp_X12_again_2
noncomputable def zp_X12_again_0 : List ECE := (.aload_n 0, 0, 0, 0, 0, []) :: (.iconst 0, 1, 0, 0, 0, []) :: (.putfield 3, 2, 12, 0, 0, []) :: (.iload_n 1, 5, 1, 0, 0, []) :: (.i2l, 6, 0, 0, 0, []) :: (.lconst 0, 7, 0, 0, 0, []) :: (.ldc2_w 295, 8, 2, 0, 0, []) :: (.invokestatic 123, 11, 196, 3, 0, [0, 0]) :: (.ifCond .eq 25, 14, 21, 0, 0, []) :: (.aload_n 0, 17, 0, 0, 0, []) :: (.getfield 110, 18, 12, 47, 0, []) :: (.iload_n 1, 21, 1, 0, 0, []) :: (.baload, 22, 0, 0, 0, []) :: (.ifCond .eq 16, 23, 21, 0, 0, []) :: (.aload_n 0, 26, 0, 0, 0, []) :: (.getfield 114, 27, 12, 48, 0, []) :: zp_X12_again_1
noncomputable def zp_X12_again : List (List ECE) := [zp_X12_again_0, zp_X12_again_1, zp_X12_again_2]
noncomputable def zp_X12_count_3 : List ECE := (.aload_n 0, 148, 0, 0, 0, []) :: (.getfield 442, 149, 12, 39, 0, []) :: (.ireturn, 152, 0, 0, 0, []) :: (.aload_n 0, 153, 0, 0, 0, []) :: (.getfield 210, 154, 12, 22, 0, []) :: (.ireturn, 157, 0, 0, 0, []) :: (.aload_n 0, 158, 0, 0, 0, []) :: (.getfield 15, 159, 12, 1, 0, []) :: (.ireturn, 162, 0, 0, 0, []) :: (.aload_n 0, 163, 0, 0, 0, []) :: (.getfield 157, 164, 12, 10, 0, []) :: (.ireturn, 167, 0, 0, 0, []) :: (.bipush (-100), 168, 4294967196, 0, 0, []) :: (.ireturn, 170, 0, 0, 0, []) :: []
noncomputable def zp_X12_count_2 : List ECE := (.ireturn, 120, 0, 0, 0, []) :: (.aload_n 0, 121, 0, 0, 0, []) :: (.getfield 32, 122, 12, 7, 0, []) :: (.invokestatic 352, 125, 212, 1, 0, [0, 0]) :: (.ireturn, 128, 0, 0, 0, []) :: (.aload_n 0, 129, 0, 0, 0, []) :: (.aload_n 0, 130, 0, 0, 0, []) :: (.getfield 32, 131, 12, 7, 0, []) :: (.invokevirtual 383, 134, 211, 2, 13, [0, 0]) :: (.ireturn, 137, 0, 0, 0, []) :: (.aload_n 0, 138, 0, 0, 0, []) :: (.getfield 418, 139, 12, 33, 0, []) :: (.ireturn, 142, 0, 0, 0, []) :: (.aload_n 0, 143, 0, 0, 0, []) :: (.getfield 428, 144, 12, 36, 0, []) :: (.ireturn, 147, 0, 0, 0, []) :: zp_X12_count_3
noncomputable def zp_X12_count_1 : List ECE := (.iadd, 95, 0, 0, 0, []) :: (.ireturn, 96, 0, 0, 0, []) :: (.aload_n 0, 97, 0, 0, 0, []) :: (.getfield 32, 98, 12, 7, 0, []) :: (.bipush 28, 101, 28, 0, 0, []) :: (.iaload, 103, 0, 0, 0, []) :: (.ireturn, 104, 0, 0, 0, []) :: (.aload_n 0, 105, 0, 0, 0, []) :: (.getfield 32, 106, 12, 7, 0, []) :: (.bipush 25, 109, 25, 0, 0, []) :: (.iaload, 111, 0, 0, 0, []) :: (.ireturn, 112, 0, 0, 0, []) :: (.aload_n 0, 113, 0, 0, 0, []) :: (.getfield 32, 114, 12, 7, 0, []) :: (.bipush 26, 117, 26, 0, 0, []) :: (.iaload, 119, 0, 0, 0, []) :: zp_X12_count_2
noncomputable def zp_X12_count_0 : List ECE := (.aload_n 0, 0, 0, 0, 0, []) :: (.iconst 0, 1, 0, 0, 0, []) :: (.putfield 3, 2, 12, 0, 0, []) :: (.iload_n 1, 5, 1, 0, 0, []) :: (.tableswitch 162 0 13 #[70, 75, 80, 91, 99, 107, 115, 123, 132, 137, 142, 147, 152, 157], 6, 60, 0, 0, [2147483648, 5, 2147483649, 8, 2147483650, 11, 2147483651, 18, 2147483652, 23, 2147483653, 28, 2147483654, 33, 2147483655, 37, 2147483656, 42, 2147483657, 45, 2147483658, 48, 2147483659, 51, 2147483660, 54, 2147483661, 57]) :: (.aload_n 0, 76, 0, 0, 0, []) :: (.getfield 120, 77, 12, 3, 0, []) :: (.ireturn, 80, 0, 0, 0, []) :: (.aload_n 0, 81, 0, 0, 0, []) :: (.getfield 131, 82, 12, 4, 0, []) :: (.ireturn, 85, 0, 0, 0, []) :: (.bipush 10, 86, 10, 0, 0, []) :: (.aload_n 0, 88, 0, 0, 0, []) :: (.getfield 32, 89, 12, 7, 0, []) :: (.bipush 27, 92, 27, 0, 0, []) :: (.iaload, 94, 0, 0, 0, []) :: zp_X12_count_1
noncomputable def zp_X12_count : List (List ECE) := [zp_X12_count_0, zp_X12_count_1, zp_X12_count_2, zp_X12_count_3]
noncomputable def zp_J6_bitCount_0f7a4_2 : List ECE := (.iload_n 0, 41, 0, 0, 0, []) :: (.iload_n 0, 42, 0, 0, 0, []) :: (.bipush 16, 43, 16, 0, 0, []) :: (.iushr, 45, 0, 0, 0, []) :: (.iadd, 46, 0, 0, 0, []) :: (.istore_n 0, 47, 0, 0, 0, []) :: (.iload_n 0, 48, 0, 0, 0, []) :: (.bipush 63, 49, 63, 0, 0, []) :: (.iand, 51, 0, 0, 0, []) :: (.ireturn, 52, 0, 0, 0, []) :: []
noncomputable def zp_J6_bitCount_0f7a4_1 : List ECE := (.iadd, 22, 0, 0, 0, []) :: (.istore_n 0, 23, 0, 0, 0, []) :: (.iload_n 0, 24, 0, 0, 0, []) :: (.iload_n 0, 25, 0, 0, 0, []) :: (.iconst 4, 26, 4, 0, 0, []) :: (.iushr, 27, 0, 0, 0, []) :: (.iadd, 28, 0, 0, 0, []) :: (.ldc_w 267, 29, 252645135, 0, 0, []) :: (.iand, 32, 0, 0, 0, []) :: (.istore_n 0, 33, 0, 0, 0, []) :: (.iload_n 0, 34, 0, 0, 0, []) :: (.iload_n 0, 35, 0, 0, 0, []) :: (.bipush 8, 36, 8, 0, 0, []) :: (.iushr, 38, 0, 0, 0, []) :: (.iadd, 39, 0, 0, 0, []) :: (.istore_n 0, 40, 0, 0, 0, []) :: zp_J6_bitCount_0f7a4_2
noncomputable def zp_J6_bitCount_0f7a4_0 : List ECE := (.iload_n 0, 0, 0, 0, 0, []) :: (.iload_n 0, 1, 0, 0, 0, []) :: (.iconst 1, 2, 1, 0, 0, []) :: (.iushr, 3, 0, 0, 0, []) :: (.ldc_w 265, 4, 1431655765, 0, 0, []) :: (.iand, 7, 0, 0, 0, []) :: (.isub, 8, 0, 0, 0, []) :: (.istore_n 0, 9, 0, 0, 0, []) :: (.iload_n 0, 10, 0, 0, 0, []) :: (.ldc_w 266, 11, 858993459, 0, 0, []) :: (.iand, 14, 0, 0, 0, []) :: (.iload_n 0, 15, 0, 0, 0, []) :: (.iconst 2, 16, 2, 0, 0, []) :: (.iushr, 17, 0, 0, 0, []) :: (.ldc_w 266, 18, 858993459, 0, 0, []) :: (.iand, 21, 0, 0, 0, []) :: zp_J6_bitCount_0f7a4_1
noncomputable def zp_J6_bitCount_0f7a4 : List (List ECE) := [zp_J6_bitCount_0f7a4_0, zp_J6_bitCount_0f7a4_1, zp_J6_bitCount_0f7a4_2]
noncomputable def zp_J9_max_7cf53_0 : List ECE := (.iload_n 0, 0, 0, 0, 0, []) :: (.iload_n 1, 1, 1, 0, 0, []) :: (.if_icmp .lt 7, 2, 5, 0, 0, []) :: (.iload_n 0, 5, 0, 0, 0, []) :: (.goto 4, 6, 6, 0, 0, []) :: (.iload_n 1, 9, 1, 0, 0, []) :: (.ireturn, 10, 0, 0, 0, []) :: []
noncomputable def zp_J9_max_7cf53 : List (List ECE) := [zp_J9_max_7cf53_0]
noncomputable def zp_J9_min_7cf53_0 : List ECE := (.iload_n 0, 0, 0, 0, 0, []) :: (.iload_n 1, 1, 1, 0, 0, []) :: (.if_icmp .gt 7, 2, 5, 0, 0, []) :: (.iload_n 0, 5, 0, 0, 0, []) :: (.goto 4, 6, 6, 0, 0, []) :: (.iload_n 1, 9, 1, 0, 0, []) :: (.ireturn, 10, 0, 0, 0, []) :: []
noncomputable def zp_J9_min_7cf53 : List (List ECE) := [zp_J9_min_7cf53_0]
noncomputable def zp_L_law_0 : List ECE := (.aload_n 3, 0, 3, 0, 0, []) :: (.iconst 0, 1, 0, 0, 0, []) :: (.aload_n 0, 2, 0, 0, 0, []) :: (.iload_n 1, 3, 1, 0, 0, []) :: (.iload_n 2, 4, 2, 0, 0, []) :: (.invokevirtual 7, 5, 131, 3, 12, [0, 0]) :: (.i2l, 8, 0, 0, 0, []) :: (.lastore, 9, 0, 0, 0, []) :: (.goto 7, 10, 12, 0, 0, []) :: (.astore 4, 13, 4, 0, 0, []) :: (.iconst 1, 15, 1, 0, 0, []) :: (.ireturn, 16, 0, 0, 0, []) :: (.iconst 0, 17, 0, 0, 0, []) :: (.ireturn, 18, 0, 0, 0, []) :: []
noncomputable def zp_L_law : List (List ECE) := [zp_L_law_0]
noncomputable def zp_L_bit_0 : List ECE := (.aload_n 3, 0, 3, 0, 0, []) :: (.iconst 0, 1, 0, 0, 0, []) :: (.aload_n 0, 2, 0, 0, 0, []) :: (.iload_n 1, 3, 1, 0, 0, []) :: (.iload_n 2, 4, 2, 0, 0, []) :: (.invokevirtual 15, 5, 132, 3, 12, [0, 0]) :: (.i2l, 8, 0, 0, 0, []) :: (.lastore, 9, 0, 0, 0, []) :: (.goto 7, 10, 12, 0, 0, []) :: (.astore 4, 13, 4, 0, 0, []) :: (.iconst 1, 15, 1, 0, 0, []) :: (.ireturn, 16, 0, 0, 0, []) :: (.iconst 0, 17, 0, 0, 0, []) :: (.ireturn, 18, 0, 0, 0, []) :: []
noncomputable def zp_L_bit : List (List ECE) := [zp_L_bit_0]
noncomputable def zp_L_one_0 : List ECE := (.aload_n 3, 0, 3, 0, 0, []) :: (.iconst 0, 1, 0, 0, 0, []) :: (.aload_n 0, 2, 0, 0, 0, []) :: (.iload_n 1, 3, 1, 0, 0, []) :: (.iload_n 2, 4, 2, 0, 0, []) :: (.invokevirtual 18, 5, 133, 3, 12, [0, 0]) :: (.i2l, 8, 0, 0, 0, []) :: (.lastore, 9, 0, 0, 0, []) :: (.goto 7, 10, 12, 0, 0, []) :: (.astore 4, 13, 4, 0, 0, []) :: (.iconst 1, 15, 1, 0, 0, []) :: (.ireturn, 16, 0, 0, 0, []) :: (.iconst 0, 17, 0, 0, 0, []) :: (.ireturn, 18, 0, 0, 0, []) :: []
noncomputable def zp_L_one : List (List ECE) := [zp_L_one_0]
noncomputable def zp_L_row_0 : List ECE := (.aload_n 2, 0, 2, 0, 0, []) :: (.iconst 0, 1, 0, 0, 0, []) :: (.aload_n 0, 2, 0, 0, 0, []) :: (.iload_n 1, 3, 1, 0, 0, []) :: (.invokevirtual 21, 4, 179, 2, 12, [0, 0]) :: (.lastore, 7, 0, 0, 0, []) :: (.goto 6, 8, 10, 0, 0, []) :: (.astore_n 3, 11, 3, 0, 0, []) :: (.iconst 1, 12, 1, 0, 0, []) :: (.ireturn, 13, 0, 0, 0, []) :: (.iconst 0, 14, 0, 0, 0, []) :: (.ireturn, 15, 0, 0, 0, []) :: []
noncomputable def zp_L_row : List (List ECE) := [zp_L_row_0]
noncomputable def zp_L_law__67 : List ECE := (.ireturn, 1809, 1, 0, 0, []) :: (.goto 3, 1810, 1074, 0, 0, []) :: (.iinc 4 5, 1813, 4, 5, 0, []) :: (.goto (-1793), 1816, 13, 0, 0, []) :: (.iconst 1, 1819, 1, 0, 0, []) :: (.ireturn, 1820, 1, 0, 0, []) :: []
noncomputable def zp_L_law__66 : List ECE := (.lstore 6, 1781, 6, 0, 0, []) :: (.aload_n 2, 1783, 2, 0, 0, []) :: (.invokevirtual 58, 1784, 194, 1, 13, [0, 0]) :: (.iload 5, 1787, 5, 0, 0, []) :: (.if_icmp .eq 5, 1789, 1063, 0, 0, []) :: (.iconst 0, 1792, 0, 0, 0, []) :: (.ireturn, 1793, 1, 0, 0, []) :: (.iload 5, 1794, 5, 0, 0, []) :: (.ifCond .ne 14, 1796, 1073, 0, 0, []) :: (.aload_n 3, 1799, 3, 0, 0, []) :: (.iconst 0, 1800, 0, 0, 0, []) :: (.laload, 1801, 0, 0, 0, []) :: (.lload 6, 1802, 6, 0, 0, []) :: (.lcmp, 1804, 0, 0, 0, []) :: (.ifCond .eq 5, 1805, 1073, 0, 0, []) :: (.iconst 0, 1808, 0, 0, 0, []) :: zp_L_law__67
noncomputable def zp_L_law__65 : List ECE := (.aload_n 1, 1758, 1, 0, 0, []) :: (.aload_n 0, 1759, 0, 0, 0, []) :: (.iload 4, 1760, 4, 0, 0, []) :: (.iconst 1, 1762, 1, 0, 0, []) :: (.iadd, 1763, 0, 0, 0, []) :: (.iaload, 1764, 0, 0, 0, []) :: (.aload_n 3, 1765, 3, 0, 0, []) :: (.invokestatic 249, 1766, 354, 3, 0, [0, 0]) :: (.istore 5, 1769, 5, 0, 0, []) :: (.aload_n 2, 1771, 2, 0, 0, []) :: (.aload_n 0, 1772, 0, 0, 0, []) :: (.iload 4, 1773, 4, 0, 0, []) :: (.iconst 1, 1775, 1, 0, 0, []) :: (.iadd, 1776, 0, 0, 0, []) :: (.iaload, 1777, 0, 0, 0, []) :: (.invokevirtual 252, 1778, 319, 2, 13, [0, 0]) :: zp_L_law__66
noncomputable def zp_L_law__64 : List ECE := (.aload_n 0, 1734, 0, 0, 0, []) :: (.iload 4, 1735, 4, 0, 0, []) :: (.iconst 1, 1737, 1, 0, 0, []) :: (.iadd, 1738, 0, 0, 0, []) :: (.iaload, 1739, 0, 0, 0, []) :: (.invokevirtual 245, 1740, 178, 2, 12, [0, 0]) :: (.aload_n 2, 1743, 2, 0, 0, []) :: (.aload_n 0, 1744, 0, 0, 0, []) :: (.iload 4, 1745, 4, 0, 0, []) :: (.iconst 1, 1747, 1, 0, 0, []) :: (.iadd, 1748, 0, 0, 0, []) :: (.iaload, 1749, 0, 0, 0, []) :: (.invokevirtual 248, 1750, 318, 2, 13, [0, 0]) :: (.if_icmp .eq 60, 1753, 1074, 0, 0, []) :: (.iconst 0, 1756, 0, 0, 0, []) :: (.ireturn, 1757, 1, 0, 0, []) :: zp_L_law__65
noncomputable def zp_L_law__63 : List ECE := (.iload 4, 1710, 4, 0, 0, []) :: (.iconst 1, 1712, 1, 0, 0, []) :: (.iadd, 1713, 0, 0, 0, []) :: (.iaload, 1714, 0, 0, 0, []) :: (.invokevirtual 241, 1715, 177, 2, 12, [0, 0]) :: (.aload_n 2, 1718, 2, 0, 0, []) :: (.aload_n 0, 1719, 0, 0, 0, []) :: (.iload 4, 1720, 4, 0, 0, []) :: (.iconst 1, 1722, 1, 0, 0, []) :: (.iadd, 1723, 0, 0, 0, []) :: (.iaload, 1724, 0, 0, 0, []) :: (.invokevirtual 244, 1725, 317, 2, 13, [0, 0]) :: (.if_icmp .eq 85, 1728, 1074, 0, 0, []) :: (.iconst 0, 1731, 0, 0, 0, []) :: (.ireturn, 1732, 1, 0, 0, []) :: (.aload_n 1, 1733, 1, 0, 0, []) :: zp_L_law__64
noncomputable def zp_L_law__62 : List ECE := (.iconst 1, 1687, 1, 0, 0, []) :: (.iadd, 1688, 0, 0, 0, []) :: (.iaload, 1689, 0, 0, 0, []) :: (.invokevirtual 237, 1690, 176, 2, 12, [0, 0]) :: (.aload_n 2, 1693, 2, 0, 0, []) :: (.aload_n 0, 1694, 0, 0, 0, []) :: (.iload 4, 1695, 4, 0, 0, []) :: (.iconst 1, 1697, 1, 0, 0, []) :: (.iadd, 1698, 0, 0, 0, []) :: (.iaload, 1699, 0, 0, 0, []) :: (.invokevirtual 240, 1700, 316, 2, 13, [0, 0]) :: (.if_icmp .eq 110, 1703, 1074, 0, 0, []) :: (.iconst 0, 1706, 0, 0, 0, []) :: (.ireturn, 1707, 1, 0, 0, []) :: (.aload_n 1, 1708, 1, 0, 0, []) :: (.aload_n 0, 1709, 0, 0, 0, []) :: zp_L_law__63
noncomputable def zp_L_law__61 : List ECE := (.iload 4, 1664, 4, 0, 0, []) :: (.iconst 1, 1666, 1, 0, 0, []) :: (.iadd, 1667, 0, 0, 0, []) :: (.iaload, 1668, 0, 0, 0, []) :: (.aload_n 0, 1669, 0, 0, 0, []) :: (.iload 4, 1670, 4, 0, 0, []) :: (.iconst 2, 1672, 2, 0, 0, []) :: (.iadd, 1673, 0, 0, 0, []) :: (.iaload, 1674, 0, 0, 0, []) :: (.invokevirtual 236, 1675, 315, 3, 13, [0, 0]) :: (.if_icmp .eq 135, 1678, 1074, 0, 0, []) :: (.iconst 0, 1681, 0, 0, 0, []) :: (.ireturn, 1682, 1, 0, 0, []) :: (.aload_n 1, 1683, 1, 0, 0, []) :: (.aload_n 0, 1684, 0, 0, 0, []) :: (.iload 4, 1685, 4, 0, 0, []) :: zp_L_law__62
noncomputable def zp_L_law__60 : List ECE := (.iconst 0, 1644, 0, 0, 0, []) :: (.ireturn, 1645, 1, 0, 0, []) :: (.aload_n 1, 1646, 1, 0, 0, []) :: (.aload_n 0, 1647, 0, 0, 0, []) :: (.iload 4, 1648, 4, 0, 0, []) :: (.iconst 1, 1650, 1, 0, 0, []) :: (.iadd, 1651, 0, 0, 0, []) :: (.iaload, 1652, 0, 0, 0, []) :: (.aload_n 0, 1653, 0, 0, 0, []) :: (.iload 4, 1654, 4, 0, 0, []) :: (.iconst 2, 1656, 2, 0, 0, []) :: (.iadd, 1657, 0, 0, 0, []) :: (.iaload, 1658, 0, 0, 0, []) :: (.invokevirtual 233, 1659, 175, 3, 12, [0, 0]) :: (.aload_n 2, 1662, 2, 0, 0, []) :: (.aload_n 0, 1663, 0, 0, 0, []) :: zp_L_law__61
noncomputable def zp_L_law__59 : List ECE := (.ireturn, 1620, 1, 0, 0, []) :: (.aload_n 1, 1621, 1, 0, 0, []) :: (.aload_n 0, 1622, 0, 0, 0, []) :: (.iload 4, 1623, 4, 0, 0, []) :: (.iconst 1, 1625, 1, 0, 0, []) :: (.iadd, 1626, 0, 0, 0, []) :: (.iaload, 1627, 0, 0, 0, []) :: (.invokevirtual 229, 1628, 174, 2, 12, [0, 0]) :: (.aload_n 2, 1631, 2, 0, 0, []) :: (.aload_n 0, 1632, 0, 0, 0, []) :: (.iload 4, 1633, 4, 0, 0, []) :: (.iconst 1, 1635, 1, 0, 0, []) :: (.iadd, 1636, 0, 0, 0, []) :: (.iaload, 1637, 0, 0, 0, []) :: (.invokevirtual 232, 1638, 313, 2, 13, [0, 0]) :: (.if_icmp .eq 172, 1641, 1074, 0, 0, []) :: zp_L_law__60
noncomputable def zp_L_law__58 : List ECE := (.aload_n 2, 1593, 2, 0, 0, []) :: (.aload_n 0, 1594, 0, 0, 0, []) :: (.iload 4, 1595, 4, 0, 0, []) :: (.iconst 1, 1597, 1, 0, 0, []) :: (.iadd, 1598, 0, 0, 0, []) :: (.iaload, 1599, 0, 0, 0, []) :: (.invokevirtual 224, 1600, 309, 2, 13, [0, 0]) :: (.if_icmp .eq 210, 1603, 1074, 0, 0, []) :: (.iconst 0, 1606, 0, 0, 0, []) :: (.ireturn, 1607, 1, 0, 0, []) :: (.aload_n 1, 1608, 1, 0, 0, []) :: (.invokevirtual 225, 1609, 173, 1, 12, [0, 0]) :: (.aload_n 2, 1612, 2, 0, 0, []) :: (.invokevirtual 228, 1613, 310, 1, 13, [0, 0]) :: (.if_icmp .eq 197, 1616, 1074, 0, 0, []) :: (.iconst 0, 1619, 0, 0, 0, []) :: zp_L_law__59
noncomputable def zp_L_law__57 : List ECE := (.iconst 0, 1568, 0, 0, 0, []) :: (.ireturn, 1569, 1, 0, 0, []) :: (.aload_n 1, 1570, 1, 0, 0, []) :: (.invokevirtual 217, 1571, 171, 1, 12, [0, 0]) :: (.aload_n 2, 1574, 2, 0, 0, []) :: (.invokevirtual 220, 1575, 308, 1, 13, [0, 0]) :: (.if_icmp .eq 235, 1578, 1074, 0, 0, []) :: (.iconst 0, 1581, 0, 0, 0, []) :: (.ireturn, 1582, 1, 0, 0, []) :: (.aload_n 1, 1583, 1, 0, 0, []) :: (.aload_n 0, 1584, 0, 0, 0, []) :: (.iload 4, 1585, 4, 0, 0, []) :: (.iconst 1, 1587, 1, 0, 0, []) :: (.iadd, 1588, 0, 0, 0, []) :: (.iaload, 1589, 0, 0, 0, []) :: (.invokevirtual 221, 1590, 172, 2, 12, [0, 0]) :: zp_L_law__58
noncomputable def zp_L_law__56 : List ECE := (.invokevirtual 208, 1536, 303, 4, 13, [0, 0]) :: (.if_icmp .eq 274, 1539, 1074, 0, 0, []) :: (.iconst 0, 1542, 0, 0, 0, []) :: (.ireturn, 1543, 1, 0, 0, []) :: (.aload_n 1, 1544, 1, 0, 0, []) :: (.invokevirtual 209, 1545, 169, 1, 12, [0, 0]) :: (.aload_n 2, 1548, 2, 0, 0, []) :: (.invokevirtual 212, 1549, 304, 1, 13, [0, 0]) :: (.if_icmp .eq 261, 1552, 1074, 0, 0, []) :: (.iconst 0, 1555, 0, 0, 0, []) :: (.ireturn, 1556, 1, 0, 0, []) :: (.aload_n 1, 1557, 1, 0, 0, []) :: (.invokevirtual 213, 1558, 170, 1, 12, [0, 0]) :: (.aload_n 2, 1561, 2, 0, 0, []) :: (.invokevirtual 216, 1562, 307, 1, 13, [0, 0]) :: (.if_icmp .eq 248, 1565, 1074, 0, 0, []) :: zp_L_law__57
noncomputable def zp_L_law__55 : List ECE := (.aload_n 2, 1517, 2, 0, 0, []) :: (.aload_n 0, 1518, 0, 0, 0, []) :: (.iload 4, 1519, 4, 0, 0, []) :: (.iconst 1, 1521, 1, 0, 0, []) :: (.iadd, 1522, 0, 0, 0, []) :: (.iaload, 1523, 0, 0, 0, []) :: (.aload_n 0, 1524, 0, 0, 0, []) :: (.iload 4, 1525, 4, 0, 0, []) :: (.iconst 2, 1527, 2, 0, 0, []) :: (.iadd, 1528, 0, 0, 0, []) :: (.iaload, 1529, 0, 0, 0, []) :: (.aload_n 0, 1530, 0, 0, 0, []) :: (.iload 4, 1531, 4, 0, 0, []) :: (.iconst 3, 1533, 3, 0, 0, []) :: (.iadd, 1534, 0, 0, 0, []) :: (.iaload, 1535, 0, 0, 0, []) :: zp_L_law__56
noncomputable def zp_L_law__54 : List ECE := (.aload_n 0, 1496, 0, 0, 0, []) :: (.iload 4, 1497, 4, 0, 0, []) :: (.iconst 1, 1499, 1, 0, 0, []) :: (.iadd, 1500, 0, 0, 0, []) :: (.iaload, 1501, 0, 0, 0, []) :: (.aload_n 0, 1502, 0, 0, 0, []) :: (.iload 4, 1503, 4, 0, 0, []) :: (.iconst 2, 1505, 2, 0, 0, []) :: (.iadd, 1506, 0, 0, 0, []) :: (.iaload, 1507, 0, 0, 0, []) :: (.aload_n 0, 1508, 0, 0, 0, []) :: (.iload 4, 1509, 4, 0, 0, []) :: (.iconst 3, 1511, 3, 0, 0, []) :: (.iadd, 1512, 0, 0, 0, []) :: (.iaload, 1513, 0, 0, 0, []) :: (.invokevirtual 205, 1514, 168, 4, 12, [0, 0]) :: zp_L_law__55
noncomputable def zp_L_law__53 : List ECE := (.iaload, 1474, 0, 0, 0, []) :: (.aload_n 0, 1475, 0, 0, 0, []) :: (.iload 4, 1476, 4, 0, 0, []) :: (.iconst 2, 1478, 2, 0, 0, []) :: (.iadd, 1479, 0, 0, 0, []) :: (.iaload, 1480, 0, 0, 0, []) :: (.aload_n 0, 1481, 0, 0, 0, []) :: (.iload 4, 1482, 4, 0, 0, []) :: (.iconst 3, 1484, 3, 0, 0, []) :: (.iadd, 1485, 0, 0, 0, []) :: (.iaload, 1486, 0, 0, 0, []) :: (.invokevirtual 204, 1487, 302, 4, 13, [0, 0]) :: (.if_icmp .eq 323, 1490, 1074, 0, 0, []) :: (.iconst 0, 1493, 0, 0, 0, []) :: (.ireturn, 1494, 1, 0, 0, []) :: (.aload_n 1, 1495, 1, 0, 0, []) :: zp_L_law__54
noncomputable def zp_L_law__52 : List ECE := (.aload_n 0, 1453, 0, 0, 0, []) :: (.iload 4, 1454, 4, 0, 0, []) :: (.iconst 2, 1456, 2, 0, 0, []) :: (.iadd, 1457, 0, 0, 0, []) :: (.iaload, 1458, 0, 0, 0, []) :: (.aload_n 0, 1459, 0, 0, 0, []) :: (.iload 4, 1460, 4, 0, 0, []) :: (.iconst 3, 1462, 3, 0, 0, []) :: (.iadd, 1463, 0, 0, 0, []) :: (.iaload, 1464, 0, 0, 0, []) :: (.invokevirtual 201, 1465, 167, 4, 12, [0, 0]) :: (.aload_n 2, 1468, 2, 0, 0, []) :: (.aload_n 0, 1469, 0, 0, 0, []) :: (.iload 4, 1470, 4, 0, 0, []) :: (.iconst 1, 1472, 1, 0, 0, []) :: (.iadd, 1473, 0, 0, 0, []) :: zp_L_law__53
noncomputable def zp_L_law__51 : List ECE := (.if_icmp .eq 385, 1428, 1074, 0, 0, []) :: (.iconst 0, 1431, 0, 0, 0, []) :: (.ireturn, 1432, 1, 0, 0, []) :: (.aload_n 1, 1433, 1, 0, 0, []) :: (.invokevirtual 197, 1434, 166, 1, 12, [0, 0]) :: (.aload_n 2, 1437, 2, 0, 0, []) :: (.invokevirtual 200, 1438, 301, 1, 13, [0, 0]) :: (.if_icmp .eq 372, 1441, 1074, 0, 0, []) :: (.iconst 0, 1444, 0, 0, 0, []) :: (.ireturn, 1445, 1, 0, 0, []) :: (.aload_n 1, 1446, 1, 0, 0, []) :: (.aload_n 0, 1447, 0, 0, 0, []) :: (.iload 4, 1448, 4, 0, 0, []) :: (.iconst 1, 1450, 1, 0, 0, []) :: (.iadd, 1451, 0, 0, 0, []) :: (.iaload, 1452, 0, 0, 0, []) :: zp_L_law__52
noncomputable def zp_L_law__50 : List ECE := (.iaload, 1398, 0, 0, 0, []) :: (.invokevirtual 188, 1399, 296, 3, 13, [0, 0]) :: (.if_icmp .eq 411, 1402, 1074, 0, 0, []) :: (.iconst 0, 1405, 0, 0, 0, []) :: (.ireturn, 1406, 1, 0, 0, []) :: (.aload_n 1, 1407, 1, 0, 0, []) :: (.invokevirtual 189, 1408, 164, 1, 12, [0, 0]) :: (.aload_n 2, 1411, 2, 0, 0, []) :: (.invokevirtual 192, 1412, 297, 1, 13, [0, 0]) :: (.if_icmp .eq 398, 1415, 1074, 0, 0, []) :: (.iconst 0, 1418, 0, 0, 0, []) :: (.ireturn, 1419, 1, 0, 0, []) :: (.aload_n 1, 1420, 1, 0, 0, []) :: (.invokevirtual 193, 1421, 165, 1, 12, [0, 0]) :: (.aload_n 2, 1424, 2, 0, 0, []) :: (.invokevirtual 196, 1425, 300, 1, 13, [0, 0]) :: zp_L_law__51
noncomputable def zp_L_law__49 : List ECE := (.aload_n 0, 1377, 0, 0, 0, []) :: (.iload 4, 1378, 4, 0, 0, []) :: (.iconst 2, 1380, 2, 0, 0, []) :: (.iadd, 1381, 0, 0, 0, []) :: (.iaload, 1382, 0, 0, 0, []) :: (.invokevirtual 185, 1383, 163, 3, 12, [0, 0]) :: (.aload_n 2, 1386, 2, 0, 0, []) :: (.aload_n 0, 1387, 0, 0, 0, []) :: (.iload 4, 1388, 4, 0, 0, []) :: (.iconst 1, 1390, 1, 0, 0, []) :: (.iadd, 1391, 0, 0, 0, []) :: (.iaload, 1392, 0, 0, 0, []) :: (.aload_n 0, 1393, 0, 0, 0, []) :: (.iload 4, 1394, 4, 0, 0, []) :: (.iconst 2, 1396, 2, 0, 0, []) :: (.iadd, 1397, 0, 0, 0, []) :: zp_L_law__50
noncomputable def zp_L_law__48 : List ECE := (.if_icmp .eq 461, 1352, 1074, 0, 0, []) :: (.iconst 0, 1355, 0, 0, 0, []) :: (.ireturn, 1356, 1, 0, 0, []) :: (.aload_n 1, 1357, 1, 0, 0, []) :: (.invokevirtual 181, 1358, 162, 1, 12, [0, 0]) :: (.aload_n 2, 1361, 2, 0, 0, []) :: (.invokevirtual 184, 1362, 294, 1, 13, [0, 0]) :: (.if_icmp .eq 448, 1365, 1074, 0, 0, []) :: (.iconst 0, 1368, 0, 0, 0, []) :: (.ireturn, 1369, 1, 0, 0, []) :: (.aload_n 1, 1370, 1, 0, 0, []) :: (.aload_n 0, 1371, 0, 0, 0, []) :: (.iload 4, 1372, 4, 0, 0, []) :: (.iconst 1, 1374, 1, 0, 0, []) :: (.iadd, 1375, 0, 0, 0, []) :: (.iaload, 1376, 0, 0, 0, []) :: zp_L_law__49
noncomputable def zp_L_law__47 : List ECE := (.iaload, 1322, 0, 0, 0, []) :: (.invokevirtual 172, 1323, 290, 4, 13, [0, 0]) :: (.if_icmp .eq 487, 1326, 1074, 0, 0, []) :: (.iconst 0, 1329, 0, 0, 0, []) :: (.ireturn, 1330, 1, 0, 0, []) :: (.aload_n 1, 1331, 1, 0, 0, []) :: (.invokevirtual 173, 1332, 160, 1, 12, [0, 0]) :: (.aload_n 2, 1335, 2, 0, 0, []) :: (.invokevirtual 176, 1336, 291, 1, 13, [0, 0]) :: (.if_icmp .eq 474, 1339, 1074, 0, 0, []) :: (.iconst 0, 1342, 0, 0, 0, []) :: (.ireturn, 1343, 1, 0, 0, []) :: (.aload_n 1, 1344, 1, 0, 0, []) :: (.invokevirtual 177, 1345, 161, 1, 12, [0, 0]) :: (.aload_n 2, 1348, 2, 0, 0, []) :: (.invokevirtual 180, 1349, 293, 1, 13, [0, 0]) :: zp_L_law__48
noncomputable def zp_L_law__46 : List ECE := (.invokevirtual 169, 1301, 159, 4, 12, [0, 0]) :: (.aload_n 2, 1304, 2, 0, 0, []) :: (.aload_n 0, 1305, 0, 0, 0, []) :: (.iload 4, 1306, 4, 0, 0, []) :: (.iconst 1, 1308, 1, 0, 0, []) :: (.iadd, 1309, 0, 0, 0, []) :: (.iaload, 1310, 0, 0, 0, []) :: (.aload_n 0, 1311, 0, 0, 0, []) :: (.iload 4, 1312, 4, 0, 0, []) :: (.iconst 2, 1314, 2, 0, 0, []) :: (.iadd, 1315, 0, 0, 0, []) :: (.iaload, 1316, 0, 0, 0, []) :: (.aload_n 0, 1317, 0, 0, 0, []) :: (.iload 4, 1318, 4, 0, 0, []) :: (.iconst 3, 1320, 3, 0, 0, []) :: (.iadd, 1321, 0, 0, 0, []) :: zp_L_law__47
noncomputable def zp_L_law__45 : List ECE := (.aload_n 1, 1282, 1, 0, 0, []) :: (.aload_n 0, 1283, 0, 0, 0, []) :: (.iload 4, 1284, 4, 0, 0, []) :: (.iconst 1, 1286, 1, 0, 0, []) :: (.iadd, 1287, 0, 0, 0, []) :: (.iaload, 1288, 0, 0, 0, []) :: (.aload_n 0, 1289, 0, 0, 0, []) :: (.iload 4, 1290, 4, 0, 0, []) :: (.iconst 2, 1292, 2, 0, 0, []) :: (.iadd, 1293, 0, 0, 0, []) :: (.iaload, 1294, 0, 0, 0, []) :: (.aload_n 0, 1295, 0, 0, 0, []) :: (.iload 4, 1296, 4, 0, 0, []) :: (.iconst 3, 1298, 3, 0, 0, []) :: (.iadd, 1299, 0, 0, 0, []) :: (.iaload, 1300, 0, 0, 0, []) :: zp_L_law__46
noncomputable def zp_L_law__44 : List ECE := (.aload_n 0, 1255, 0, 0, 0, []) :: (.iload 4, 1256, 4, 0, 0, []) :: (.iconst 1, 1258, 1, 0, 0, []) :: (.iadd, 1259, 0, 0, 0, []) :: (.iaload, 1260, 0, 0, 0, []) :: (.invokevirtual 164, 1261, 288, 2, 13, [0, 0]) :: (.if_icmp .eq 549, 1264, 1074, 0, 0, []) :: (.iconst 0, 1267, 0, 0, 0, []) :: (.ireturn, 1268, 1, 0, 0, []) :: (.aload_n 1, 1269, 1, 0, 0, []) :: (.invokevirtual 165, 1270, 158, 1, 12, [0, 0]) :: (.aload_n 2, 1273, 2, 0, 0, []) :: (.invokevirtual 168, 1274, 289, 1, 13, [0, 0]) :: (.if_icmp .eq 536, 1277, 1074, 0, 0, []) :: (.iconst 0, 1280, 0, 0, 0, []) :: (.ireturn, 1281, 1, 0, 0, []) :: zp_L_law__45
noncomputable def zp_L_law__43 : List ECE := (.ireturn, 1230, 1, 0, 0, []) :: (.aload_n 1, 1231, 1, 0, 0, []) :: (.invokevirtual 157, 1232, 156, 1, 12, [0, 0]) :: (.aload_n 2, 1235, 2, 0, 0, []) :: (.invokevirtual 160, 1236, 286, 1, 13, [0, 0]) :: (.if_icmp .eq 574, 1239, 1074, 0, 0, []) :: (.iconst 0, 1242, 0, 0, 0, []) :: (.ireturn, 1243, 1, 0, 0, []) :: (.aload_n 1, 1244, 1, 0, 0, []) :: (.aload_n 0, 1245, 0, 0, 0, []) :: (.iload 4, 1246, 4, 0, 0, []) :: (.iconst 1, 1248, 1, 0, 0, []) :: (.iadd, 1249, 0, 0, 0, []) :: (.iaload, 1250, 0, 0, 0, []) :: (.invokevirtual 161, 1251, 157, 2, 12, [0, 0]) :: (.aload_n 2, 1254, 2, 0, 0, []) :: zp_L_law__44
noncomputable def zp_L_law__42 : List ECE := (.iaload, 1206, 0, 0, 0, []) :: (.invokevirtual 153, 1207, 155, 3, 12, [0, 0]) :: (.aload_n 2, 1210, 2, 0, 0, []) :: (.aload_n 0, 1211, 0, 0, 0, []) :: (.iload 4, 1212, 4, 0, 0, []) :: (.iconst 1, 1214, 1, 0, 0, []) :: (.iadd, 1215, 0, 0, 0, []) :: (.iaload, 1216, 0, 0, 0, []) :: (.aload_n 0, 1217, 0, 0, 0, []) :: (.iload 4, 1218, 4, 0, 0, []) :: (.iconst 2, 1220, 2, 0, 0, []) :: (.iadd, 1221, 0, 0, 0, []) :: (.iaload, 1222, 0, 0, 0, []) :: (.invokevirtual 156, 1223, 285, 3, 13, [0, 0]) :: (.if_icmp .eq 587, 1226, 1074, 0, 0, []) :: (.iconst 0, 1229, 0, 0, 0, []) :: zp_L_law__43
noncomputable def zp_L_law__41 : List ECE := (.invokevirtual 149, 1182, 154, 1, 12, [0, 0]) :: (.aload_n 2, 1185, 2, 0, 0, []) :: (.invokevirtual 152, 1186, 284, 1, 13, [0, 0]) :: (.if_icmp .eq 624, 1189, 1074, 0, 0, []) :: (.iconst 0, 1192, 0, 0, 0, []) :: (.ireturn, 1193, 1, 0, 0, []) :: (.aload_n 1, 1194, 1, 0, 0, []) :: (.aload_n 0, 1195, 0, 0, 0, []) :: (.iload 4, 1196, 4, 0, 0, []) :: (.iconst 1, 1198, 1, 0, 0, []) :: (.iadd, 1199, 0, 0, 0, []) :: (.iaload, 1200, 0, 0, 0, []) :: (.aload_n 0, 1201, 0, 0, 0, []) :: (.iload 4, 1202, 4, 0, 0, []) :: (.iconst 2, 1204, 2, 0, 0, []) :: (.iadd, 1205, 0, 0, 0, []) :: zp_L_law__42
noncomputable def zp_L_law__40 : List ECE := (.iload 4, 1155, 4, 0, 0, []) :: (.iconst 1, 1157, 1, 0, 0, []) :: (.iadd, 1158, 0, 0, 0, []) :: (.iaload, 1159, 0, 0, 0, []) :: (.invokevirtual 144, 1160, 279, 2, 13, [0, 0]) :: (.if_icmp .eq 650, 1163, 1074, 0, 0, []) :: (.iconst 0, 1166, 0, 0, 0, []) :: (.ireturn, 1167, 1, 0, 0, []) :: (.aload_n 1, 1168, 1, 0, 0, []) :: (.invokevirtual 145, 1169, 153, 1, 12, [0, 0]) :: (.aload_n 2, 1172, 2, 0, 0, []) :: (.invokevirtual 148, 1173, 282, 1, 13, [0, 0]) :: (.if_icmp .eq 637, 1176, 1074, 0, 0, []) :: (.iconst 0, 1179, 0, 0, 0, []) :: (.ireturn, 1180, 1, 0, 0, []) :: (.aload_n 1, 1181, 1, 0, 0, []) :: zp_L_law__41
noncomputable def zp_L_law__39 : List ECE := (.iconst 2, 1132, 2, 0, 0, []) :: (.iadd, 1133, 0, 0, 0, []) :: (.iaload, 1134, 0, 0, 0, []) :: (.invokevirtual 140, 1135, 278, 3, 13, [0, 0]) :: (.if_icmp .eq 675, 1138, 1074, 0, 0, []) :: (.iconst 0, 1141, 0, 0, 0, []) :: (.ireturn, 1142, 1, 0, 0, []) :: (.aload_n 1, 1143, 1, 0, 0, []) :: (.aload_n 0, 1144, 0, 0, 0, []) :: (.iload 4, 1145, 4, 0, 0, []) :: (.iconst 1, 1147, 1, 0, 0, []) :: (.iadd, 1148, 0, 0, 0, []) :: (.iaload, 1149, 0, 0, 0, []) :: (.invokevirtual 141, 1150, 152, 2, 12, [0, 0]) :: (.aload_n 2, 1153, 2, 0, 0, []) :: (.aload_n 0, 1154, 0, 0, 0, []) :: zp_L_law__40
noncomputable def zp_L_law__38 : List ECE := (.iadd, 1111, 0, 0, 0, []) :: (.iaload, 1112, 0, 0, 0, []) :: (.aload_n 0, 1113, 0, 0, 0, []) :: (.iload 4, 1114, 4, 0, 0, []) :: (.iconst 2, 1116, 2, 0, 0, []) :: (.iadd, 1117, 0, 0, 0, []) :: (.iaload, 1118, 0, 0, 0, []) :: (.invokevirtual 137, 1119, 151, 3, 12, [0, 0]) :: (.aload_n 2, 1122, 2, 0, 0, []) :: (.aload_n 0, 1123, 0, 0, 0, []) :: (.iload 4, 1124, 4, 0, 0, []) :: (.iconst 1, 1126, 1, 0, 0, []) :: (.iadd, 1127, 0, 0, 0, []) :: (.iaload, 1128, 0, 0, 0, []) :: (.aload_n 0, 1129, 0, 0, 0, []) :: (.iload 4, 1130, 4, 0, 0, []) :: zp_L_law__39
noncomputable def zp_L_law__37 : List ECE := (.iconst 1, 1089, 1, 0, 0, []) :: (.iadd, 1090, 0, 0, 0, []) :: (.iaload, 1091, 0, 0, 0, []) :: (.aload_n 0, 1092, 0, 0, 0, []) :: (.iload 4, 1093, 4, 0, 0, []) :: (.iconst 2, 1095, 2, 0, 0, []) :: (.iadd, 1096, 0, 0, 0, []) :: (.iaload, 1097, 0, 0, 0, []) :: (.invokevirtual 136, 1098, 277, 3, 13, [0, 0]) :: (.if_icmp .eq 712, 1101, 1074, 0, 0, []) :: (.iconst 0, 1104, 0, 0, 0, []) :: (.ireturn, 1105, 1, 0, 0, []) :: (.aload_n 1, 1106, 1, 0, 0, []) :: (.aload_n 0, 1107, 0, 0, 0, []) :: (.iload 4, 1108, 4, 0, 0, []) :: (.iconst 1, 1110, 1, 0, 0, []) :: zp_L_law__38
noncomputable def zp_L_law__36 : List ECE := (.ireturn, 1068, 1, 0, 0, []) :: (.aload_n 1, 1069, 1, 0, 0, []) :: (.aload_n 0, 1070, 0, 0, 0, []) :: (.iload 4, 1071, 4, 0, 0, []) :: (.iconst 1, 1073, 1, 0, 0, []) :: (.iadd, 1074, 0, 0, 0, []) :: (.iaload, 1075, 0, 0, 0, []) :: (.aload_n 0, 1076, 0, 0, 0, []) :: (.iload 4, 1077, 4, 0, 0, []) :: (.iconst 2, 1079, 2, 0, 0, []) :: (.iadd, 1080, 0, 0, 0, []) :: (.iaload, 1081, 0, 0, 0, []) :: (.invokevirtual 133, 1082, 150, 3, 12, [0, 0]) :: (.aload_n 2, 1085, 2, 0, 0, []) :: (.aload_n 0, 1086, 0, 0, 0, []) :: (.iload 4, 1087, 4, 0, 0, []) :: zp_L_law__37
noncomputable def zp_L_law__35 : List ECE := (.iconst 1, 1046, 1, 0, 0, []) :: (.iadd, 1047, 0, 0, 0, []) :: (.iaload, 1048, 0, 0, 0, []) :: (.aload_n 0, 1049, 0, 0, 0, []) :: (.iload 4, 1050, 4, 0, 0, []) :: (.iconst 2, 1052, 2, 0, 0, []) :: (.iadd, 1053, 0, 0, 0, []) :: (.iaload, 1054, 0, 0, 0, []) :: (.aload_n 0, 1055, 0, 0, 0, []) :: (.iload 4, 1056, 4, 0, 0, []) :: (.iconst 3, 1058, 3, 0, 0, []) :: (.iadd, 1059, 0, 0, 0, []) :: (.iaload, 1060, 0, 0, 0, []) :: (.invokevirtual 132, 1061, 275, 4, 13, [0, 0]) :: (.if_icmp .eq 749, 1064, 1074, 0, 0, []) :: (.iconst 0, 1067, 0, 0, 0, []) :: zp_L_law__36
noncomputable def zp_L_law__34 : List ECE := (.iadd, 1025, 0, 0, 0, []) :: (.iaload, 1026, 0, 0, 0, []) :: (.aload_n 0, 1027, 0, 0, 0, []) :: (.iload 4, 1028, 4, 0, 0, []) :: (.iconst 2, 1030, 2, 0, 0, []) :: (.iadd, 1031, 0, 0, 0, []) :: (.iaload, 1032, 0, 0, 0, []) :: (.aload_n 0, 1033, 0, 0, 0, []) :: (.iload 4, 1034, 4, 0, 0, []) :: (.iconst 3, 1036, 3, 0, 0, []) :: (.iadd, 1037, 0, 0, 0, []) :: (.iaload, 1038, 0, 0, 0, []) :: (.invokevirtual 129, 1039, 149, 4, 12, [0, 0]) :: (.aload_n 2, 1042, 2, 0, 0, []) :: (.aload_n 0, 1043, 0, 0, 0, []) :: (.iload 4, 1044, 4, 0, 0, []) :: zp_L_law__35
noncomputable def zp_L_law__33 : List ECE := (.iaload, 1001, 0, 0, 0, []) :: (.invokevirtual 125, 1002, 148, 2, 12, [0, 0]) :: (.aload_n 2, 1005, 2, 0, 0, []) :: (.aload_n 0, 1006, 0, 0, 0, []) :: (.iload 4, 1007, 4, 0, 0, []) :: (.iconst 1, 1009, 1, 0, 0, []) :: (.iadd, 1010, 0, 0, 0, []) :: (.iaload, 1011, 0, 0, 0, []) :: (.invokevirtual 128, 1012, 274, 2, 13, [0, 0]) :: (.if_icmp .eq 798, 1015, 1074, 0, 0, []) :: (.iconst 0, 1018, 0, 0, 0, []) :: (.ireturn, 1019, 1, 0, 0, []) :: (.aload_n 1, 1020, 1, 0, 0, []) :: (.aload_n 0, 1021, 0, 0, 0, []) :: (.iload 4, 1022, 4, 0, 0, []) :: (.iconst 1, 1024, 1, 0, 0, []) :: zp_L_law__34
noncomputable def zp_L_law__32 : List ECE := (.invokevirtual 120, 974, 272, 3, 13, [0, 0]) :: (.if_icmp .eq 836, 977, 1074, 0, 0, []) :: (.iconst 0, 980, 0, 0, 0, []) :: (.ireturn, 981, 1, 0, 0, []) :: (.aload_n 1, 982, 1, 0, 0, []) :: (.invokevirtual 121, 983, 147, 1, 12, [0, 0]) :: (.aload_n 2, 986, 2, 0, 0, []) :: (.invokevirtual 124, 987, 273, 1, 13, [0, 0]) :: (.if_icmp .eq 823, 990, 1074, 0, 0, []) :: (.iconst 0, 993, 0, 0, 0, []) :: (.ireturn, 994, 1, 0, 0, []) :: (.aload_n 1, 995, 1, 0, 0, []) :: (.aload_n 0, 996, 0, 0, 0, []) :: (.iload 4, 997, 4, 0, 0, []) :: (.iconst 1, 999, 1, 0, 0, []) :: (.iadd, 1000, 0, 0, 0, []) :: zp_L_law__33
noncomputable def zp_L_law__31 : List ECE := (.iload 4, 953, 4, 0, 0, []) :: (.iconst 2, 955, 2, 0, 0, []) :: (.iadd, 956, 0, 0, 0, []) :: (.iaload, 957, 0, 0, 0, []) :: (.invokevirtual 117, 958, 146, 3, 12, [0, 0]) :: (.aload_n 2, 961, 2, 0, 0, []) :: (.aload_n 0, 962, 0, 0, 0, []) :: (.iload 4, 963, 4, 0, 0, []) :: (.iconst 1, 965, 1, 0, 0, []) :: (.iadd, 966, 0, 0, 0, []) :: (.iaload, 967, 0, 0, 0, []) :: (.aload_n 0, 968, 0, 0, 0, []) :: (.iload 4, 969, 4, 0, 0, []) :: (.iconst 2, 971, 2, 0, 0, []) :: (.iadd, 972, 0, 0, 0, []) :: (.iaload, 973, 0, 0, 0, []) :: zp_L_law__32
noncomputable def zp_L_law__30 : List ECE := (.aload_n 0, 931, 0, 0, 0, []) :: (.iload 4, 932, 4, 0, 0, []) :: (.iconst 3, 934, 3, 0, 0, []) :: (.iadd, 935, 0, 0, 0, []) :: (.iaload, 936, 0, 0, 0, []) :: (.invokevirtual 116, 937, 271, 4, 13, [0, 0]) :: (.if_icmp .eq 873, 940, 1074, 0, 0, []) :: (.iconst 0, 943, 0, 0, 0, []) :: (.ireturn, 944, 1, 0, 0, []) :: (.aload_n 1, 945, 1, 0, 0, []) :: (.aload_n 0, 946, 0, 0, 0, []) :: (.iload 4, 947, 4, 0, 0, []) :: (.iconst 1, 949, 1, 0, 0, []) :: (.iadd, 950, 0, 0, 0, []) :: (.iaload, 951, 0, 0, 0, []) :: (.aload_n 0, 952, 0, 0, 0, []) :: zp_L_law__31
noncomputable def zp_L_law__29 : List ECE := (.iload 4, 910, 4, 0, 0, []) :: (.iconst 3, 912, 3, 0, 0, []) :: (.iadd, 913, 0, 0, 0, []) :: (.iaload, 914, 0, 0, 0, []) :: (.invokevirtual 113, 915, 145, 4, 12, [0, 0]) :: (.aload_n 2, 918, 2, 0, 0, []) :: (.aload_n 0, 919, 0, 0, 0, []) :: (.iload 4, 920, 4, 0, 0, []) :: (.iconst 1, 922, 1, 0, 0, []) :: (.iadd, 923, 0, 0, 0, []) :: (.iaload, 924, 0, 0, 0, []) :: (.aload_n 0, 925, 0, 0, 0, []) :: (.iload 4, 926, 4, 0, 0, []) :: (.iconst 2, 928, 2, 0, 0, []) :: (.iadd, 929, 0, 0, 0, []) :: (.iaload, 930, 0, 0, 0, []) :: zp_L_law__30
noncomputable def zp_L_law__28 : List ECE := (.invokevirtual 112, 888, 248, 1, 13, [0, 0]) :: (.if_icmp .eq 922, 891, 1074, 0, 0, []) :: (.iconst 0, 894, 0, 0, 0, []) :: (.ireturn, 895, 1, 0, 0, []) :: (.aload_n 1, 896, 1, 0, 0, []) :: (.aload_n 0, 897, 0, 0, 0, []) :: (.iload 4, 898, 4, 0, 0, []) :: (.iconst 1, 900, 1, 0, 0, []) :: (.iadd, 901, 0, 0, 0, []) :: (.iaload, 902, 0, 0, 0, []) :: (.aload_n 0, 903, 0, 0, 0, []) :: (.iload 4, 904, 4, 0, 0, []) :: (.iconst 2, 906, 2, 0, 0, []) :: (.iadd, 907, 0, 0, 0, []) :: (.iaload, 908, 0, 0, 0, []) :: (.aload_n 0, 909, 0, 0, 0, []) :: zp_L_law__29
noncomputable def zp_L_law__27 : List ECE := (.iadd, 860, 0, 0, 0, []) :: (.iaload, 861, 0, 0, 0, []) :: (.invokevirtual 104, 862, 267, 2, 13, [0, 0]) :: (.if_icmp .eq 948, 865, 1074, 0, 0, []) :: (.iconst 0, 868, 0, 0, 0, []) :: (.ireturn, 869, 1, 0, 0, []) :: (.aload_n 1, 870, 1, 0, 0, []) :: (.invokevirtual 105, 871, 143, 1, 12, [0, 0]) :: (.aload_n 2, 874, 2, 0, 0, []) :: (.invokevirtual 108, 875, 270, 1, 13, [0, 0]) :: (.if_icmp .eq 935, 878, 1074, 0, 0, []) :: (.iconst 0, 881, 0, 0, 0, []) :: (.ireturn, 882, 1, 0, 0, []) :: (.aload_n 1, 883, 1, 0, 0, []) :: (.invokevirtual 109, 884, 144, 1, 12, [0, 0]) :: (.aload_n 2, 887, 2, 0, 0, []) :: zp_L_law__28
noncomputable def zp_L_law__26 : List ECE := (.iaload, 836, 0, 0, 0, []) :: (.invokevirtual 100, 837, 266, 2, 13, [0, 0]) :: (.if_icmp .eq 973, 840, 1074, 0, 0, []) :: (.iconst 0, 843, 0, 0, 0, []) :: (.ireturn, 844, 1, 0, 0, []) :: (.aload_n 1, 845, 1, 0, 0, []) :: (.aload_n 0, 846, 0, 0, 0, []) :: (.iload 4, 847, 4, 0, 0, []) :: (.iconst 1, 849, 1, 0, 0, []) :: (.iadd, 850, 0, 0, 0, []) :: (.iaload, 851, 0, 0, 0, []) :: (.invokevirtual 101, 852, 142, 2, 12, [0, 0]) :: (.aload_n 2, 855, 2, 0, 0, []) :: (.aload_n 0, 856, 0, 0, 0, []) :: (.iload 4, 857, 4, 0, 0, []) :: (.iconst 1, 859, 1, 0, 0, []) :: zp_L_law__27
noncomputable def zp_L_law__25 : List ECE := (.invokevirtual 96, 812, 265, 4, 13, [0, 0]) :: (.if_icmp .eq 998, 815, 1074, 0, 0, []) :: (.iconst 0, 818, 0, 0, 0, []) :: (.ireturn, 819, 1, 0, 0, []) :: (.aload_n 1, 820, 1, 0, 0, []) :: (.aload_n 0, 821, 0, 0, 0, []) :: (.iload 4, 822, 4, 0, 0, []) :: (.iconst 1, 824, 1, 0, 0, []) :: (.iadd, 825, 0, 0, 0, []) :: (.iaload, 826, 0, 0, 0, []) :: (.invokevirtual 97, 827, 141, 2, 12, [0, 0]) :: (.aload_n 2, 830, 2, 0, 0, []) :: (.aload_n 0, 831, 0, 0, 0, []) :: (.iload 4, 832, 4, 0, 0, []) :: (.iconst 1, 834, 1, 0, 0, []) :: (.iadd, 835, 0, 0, 0, []) :: zp_L_law__26
noncomputable def zp_L_law__24 : List ECE := (.aload_n 2, 793, 2, 0, 0, []) :: (.aload_n 0, 794, 0, 0, 0, []) :: (.iload 4, 795, 4, 0, 0, []) :: (.iconst 1, 797, 1, 0, 0, []) :: (.iadd, 798, 0, 0, 0, []) :: (.iaload, 799, 0, 0, 0, []) :: (.aload_n 0, 800, 0, 0, 0, []) :: (.iload 4, 801, 4, 0, 0, []) :: (.iconst 2, 803, 2, 0, 0, []) :: (.iadd, 804, 0, 0, 0, []) :: (.iaload, 805, 0, 0, 0, []) :: (.aload_n 0, 806, 0, 0, 0, []) :: (.iload 4, 807, 4, 0, 0, []) :: (.iconst 3, 809, 3, 0, 0, []) :: (.iadd, 810, 0, 0, 0, []) :: (.iaload, 811, 0, 0, 0, []) :: zp_L_law__25
noncomputable def zp_L_law__23 : List ECE := (.aload_n 0, 772, 0, 0, 0, []) :: (.iload 4, 773, 4, 0, 0, []) :: (.iconst 1, 775, 1, 0, 0, []) :: (.iadd, 776, 0, 0, 0, []) :: (.iaload, 777, 0, 0, 0, []) :: (.aload_n 0, 778, 0, 0, 0, []) :: (.iload 4, 779, 4, 0, 0, []) :: (.iconst 2, 781, 2, 0, 0, []) :: (.iadd, 782, 0, 0, 0, []) :: (.iaload, 783, 0, 0, 0, []) :: (.aload_n 0, 784, 0, 0, 0, []) :: (.iload 4, 785, 4, 0, 0, []) :: (.iconst 3, 787, 3, 0, 0, []) :: (.iadd, 788, 0, 0, 0, []) :: (.iaload, 789, 0, 0, 0, []) :: (.invokevirtual 92, 790, 140, 4, 12, [0, 0]) :: zp_L_law__24
noncomputable def zp_L_law__22 : List ECE := (.aload_n 2, 750, 2, 0, 0, []) :: (.aload_n 0, 751, 0, 0, 0, []) :: (.iload 4, 752, 4, 0, 0, []) :: (.iconst 1, 754, 1, 0, 0, []) :: (.iadd, 755, 0, 0, 0, []) :: (.iaload, 756, 0, 0, 0, []) :: (.aload_n 0, 757, 0, 0, 0, []) :: (.iload 4, 758, 4, 0, 0, []) :: (.iconst 2, 760, 2, 0, 0, []) :: (.iadd, 761, 0, 0, 0, []) :: (.iaload, 762, 0, 0, 0, []) :: (.invokevirtual 91, 763, 264, 3, 13, [0, 0]) :: (.if_icmp .eq 1047, 766, 1074, 0, 0, []) :: (.iconst 0, 769, 0, 0, 0, []) :: (.ireturn, 770, 1, 0, 0, []) :: (.aload_n 1, 771, 1, 0, 0, []) :: zp_L_law__23
noncomputable def zp_L_law__21 : List ECE := (.invokevirtual 87, 726, 263, 2, 13, [0, 0]) :: (.if_icmp .eq 1084, 729, 1074, 0, 0, []) :: (.iconst 0, 732, 0, 0, 0, []) :: (.ireturn, 733, 1, 0, 0, []) :: (.aload_n 1, 734, 1, 0, 0, []) :: (.aload_n 0, 735, 0, 0, 0, []) :: (.iload 4, 736, 4, 0, 0, []) :: (.iconst 1, 738, 1, 0, 0, []) :: (.iadd, 739, 0, 0, 0, []) :: (.iaload, 740, 0, 0, 0, []) :: (.aload_n 0, 741, 0, 0, 0, []) :: (.iload 4, 742, 4, 0, 0, []) :: (.iconst 2, 744, 2, 0, 0, []) :: (.iadd, 745, 0, 0, 0, []) :: (.iaload, 746, 0, 0, 0, []) :: (.invokevirtual 88, 747, 139, 3, 12, [0, 0]) :: zp_L_law__22
noncomputable def zp_L_law__20 : List ECE := (.if_icmp .eq 1109, 704, 1074, 0, 0, []) :: (.iconst 0, 707, 0, 0, 0, []) :: (.ireturn, 708, 1, 0, 0, []) :: (.aload_n 1, 709, 1, 0, 0, []) :: (.aload_n 0, 710, 0, 0, 0, []) :: (.iload 4, 711, 4, 0, 0, []) :: (.iconst 1, 713, 1, 0, 0, []) :: (.iadd, 714, 0, 0, 0, []) :: (.iaload, 715, 0, 0, 0, []) :: (.invokevirtual 84, 716, 138, 2, 12, [0, 0]) :: (.aload_n 2, 719, 2, 0, 0, []) :: (.aload_n 0, 720, 0, 0, 0, []) :: (.iload 4, 721, 4, 0, 0, []) :: (.iconst 1, 723, 1, 0, 0, []) :: (.iadd, 724, 0, 0, 0, []) :: (.iaload, 725, 0, 0, 0, []) :: zp_L_law__21
noncomputable def zp_L_law__19 : List ECE := (.iconst 0, 682, 0, 0, 0, []) :: (.ireturn, 683, 1, 0, 0, []) :: (.aload_n 1, 684, 1, 0, 0, []) :: (.aload_n 0, 685, 0, 0, 0, []) :: (.iload 4, 686, 4, 0, 0, []) :: (.iconst 1, 688, 1, 0, 0, []) :: (.iadd, 689, 0, 0, 0, []) :: (.iaload, 690, 0, 0, 0, []) :: (.invokevirtual 80, 691, 137, 2, 12, [0, 0]) :: (.aload_n 2, 694, 2, 0, 0, []) :: (.aload_n 0, 695, 0, 0, 0, []) :: (.iload 4, 696, 4, 0, 0, []) :: (.iconst 1, 698, 1, 0, 0, []) :: (.iadd, 699, 0, 0, 0, []) :: (.iaload, 700, 0, 0, 0, []) :: (.invokevirtual 83, 701, 262, 2, 13, [0, 0]) :: zp_L_law__20
noncomputable def zp_L_law__18 : List ECE := (.iadd, 658, 0, 0, 0, []) :: (.iaload, 659, 0, 0, 0, []) :: (.invokevirtual 76, 660, 136, 3, 12, [0, 0]) :: (.aload_n 2, 663, 2, 0, 0, []) :: (.aload_n 0, 664, 0, 0, 0, []) :: (.iload 4, 665, 4, 0, 0, []) :: (.iconst 1, 667, 1, 0, 0, []) :: (.iadd, 668, 0, 0, 0, []) :: (.iaload, 669, 0, 0, 0, []) :: (.aload_n 0, 670, 0, 0, 0, []) :: (.iload 4, 671, 4, 0, 0, []) :: (.iconst 2, 673, 2, 0, 0, []) :: (.iadd, 674, 0, 0, 0, []) :: (.iaload, 675, 0, 0, 0, []) :: (.invokevirtual 79, 676, 261, 3, 13, [0, 0]) :: (.if_icmp .eq 1134, 679, 1074, 0, 0, []) :: zp_L_law__19
noncomputable def zp_L_law__17 : List ECE := (.iconst 1, 636, 1, 0, 0, []) :: (.iadd, 637, 0, 0, 0, []) :: (.iaload, 638, 0, 0, 0, []) :: (.invokevirtual 75, 639, 260, 2, 13, [0, 0]) :: (.if_icmp .eq 1171, 642, 1074, 0, 0, []) :: (.iconst 0, 645, 0, 0, 0, []) :: (.ireturn, 646, 1, 0, 0, []) :: (.aload_n 1, 647, 1, 0, 0, []) :: (.aload_n 0, 648, 0, 0, 0, []) :: (.iload 4, 649, 4, 0, 0, []) :: (.iconst 1, 651, 1, 0, 0, []) :: (.iadd, 652, 0, 0, 0, []) :: (.iaload, 653, 0, 0, 0, []) :: (.aload_n 0, 654, 0, 0, 0, []) :: (.iload 4, 655, 4, 0, 0, []) :: (.iconst 2, 657, 2, 0, 0, []) :: zp_L_law__18
noncomputable def zp_L_law__16 : List ECE := (.iadd, 612, 0, 0, 0, []) :: (.iaload, 613, 0, 0, 0, []) :: (.invokevirtual 71, 614, 244, 5, 13, [0, 0]) :: (.if_icmp .eq 1196, 617, 1074, 0, 0, []) :: (.iconst 0, 620, 0, 0, 0, []) :: (.ireturn, 621, 1, 0, 0, []) :: (.aload_n 1, 622, 1, 0, 0, []) :: (.aload_n 0, 623, 0, 0, 0, []) :: (.iload 4, 624, 4, 0, 0, []) :: (.iconst 1, 626, 1, 0, 0, []) :: (.iadd, 627, 0, 0, 0, []) :: (.iaload, 628, 0, 0, 0, []) :: (.invokevirtual 72, 629, 135, 2, 12, [0, 0]) :: (.aload_n 2, 632, 2, 0, 0, []) :: (.aload_n 0, 633, 0, 0, 0, []) :: (.iload 4, 634, 4, 0, 0, []) :: zp_L_law__17
noncomputable def zp_L_law__15 : List ECE := (.iconst 1, 593, 1, 0, 0, []) :: (.iadd, 594, 0, 0, 0, []) :: (.iaload, 595, 0, 0, 0, []) :: (.aload_n 0, 596, 0, 0, 0, []) :: (.iload 4, 597, 4, 0, 0, []) :: (.iconst 2, 599, 2, 0, 0, []) :: (.iadd, 600, 0, 0, 0, []) :: (.iaload, 601, 0, 0, 0, []) :: (.aload_n 0, 602, 0, 0, 0, []) :: (.iload 4, 603, 4, 0, 0, []) :: (.iconst 3, 605, 3, 0, 0, []) :: (.iadd, 606, 0, 0, 0, []) :: (.iaload, 607, 0, 0, 0, []) :: (.aload_n 0, 608, 0, 0, 0, []) :: (.iload 4, 609, 4, 0, 0, []) :: (.iconst 4, 611, 4, 0, 0, []) :: zp_L_law__16
noncomputable def zp_L_law__14 : List ECE := (.iadd, 572, 0, 0, 0, []) :: (.iaload, 573, 0, 0, 0, []) :: (.aload_n 0, 574, 0, 0, 0, []) :: (.iload 4, 575, 4, 0, 0, []) :: (.iconst 3, 577, 3, 0, 0, []) :: (.iadd, 578, 0, 0, 0, []) :: (.iaload, 579, 0, 0, 0, []) :: (.aload_n 0, 580, 0, 0, 0, []) :: (.iload 4, 581, 4, 0, 0, []) :: (.iconst 4, 583, 4, 0, 0, []) :: (.iadd, 584, 0, 0, 0, []) :: (.iaload, 585, 0, 0, 0, []) :: (.invokevirtual 67, 586, 134, 5, 12, [0, 0]) :: (.aload_n 2, 589, 2, 0, 0, []) :: (.aload_n 0, 590, 0, 0, 0, []) :: (.iload 4, 591, 4, 0, 0, []) :: zp_L_law__15
noncomputable def zp_L_law__13 : List ECE := (.iload 6, 549, 6, 0, 0, []) :: (.i2l, 551, 0, 0, 0, []) :: (.lcmp, 552, 0, 0, 0, []) :: (.ifCond .eq 5, 553, 214, 0, 0, []) :: (.iconst 0, 556, 0, 0, 0, []) :: (.ireturn, 557, 1, 0, 0, []) :: (.goto 1255, 558, 1074, 0, 0, []) :: (.aload_n 1, 561, 1, 0, 0, []) :: (.aload_n 0, 562, 0, 0, 0, []) :: (.iload 4, 563, 4, 0, 0, []) :: (.iconst 1, 565, 1, 0, 0, []) :: (.iadd, 566, 0, 0, 0, []) :: (.iaload, 567, 0, 0, 0, []) :: (.aload_n 0, 568, 0, 0, 0, []) :: (.iload 4, 569, 4, 0, 0, []) :: (.iconst 2, 571, 2, 0, 0, []) :: zp_L_law__14
noncomputable def zp_L_law__12 : List ECE := (.iconst 2, 522, 2, 0, 0, []) :: (.iadd, 523, 0, 0, 0, []) :: (.iaload, 524, 0, 0, 0, []) :: (.invokevirtual 66, 525, 243, 3, 13, [0, 0]) :: (.istore 6, 528, 6, 0, 0, []) :: (.aload_n 2, 530, 2, 0, 0, []) :: (.invokevirtual 58, 531, 194, 1, 13, [0, 0]) :: (.iload 5, 534, 5, 0, 0, []) :: (.if_icmp .eq 5, 536, 203, 0, 0, []) :: (.iconst 0, 539, 0, 0, 0, []) :: (.ireturn, 540, 1, 0, 0, []) :: (.iload 5, 541, 5, 0, 0, []) :: (.ifCond .ne 15, 543, 214, 0, 0, []) :: (.aload_n 3, 546, 3, 0, 0, []) :: (.iconst 0, 547, 0, 0, 0, []) :: (.laload, 548, 0, 0, 0, []) :: zp_L_law__13
noncomputable def zp_L_law__11 : List ECE := (.aload_n 0, 500, 0, 0, 0, []) :: (.iload 4, 501, 4, 0, 0, []) :: (.iconst 2, 503, 2, 0, 0, []) :: (.iadd, 504, 0, 0, 0, []) :: (.iaload, 505, 0, 0, 0, []) :: (.aload_n 3, 506, 3, 0, 0, []) :: (.invokestatic 64, 507, 353, 4, 0, [0, 0]) :: (.istore 5, 510, 5, 0, 0, []) :: (.aload_n 2, 512, 2, 0, 0, []) :: (.aload_n 0, 513, 0, 0, 0, []) :: (.iload 4, 514, 4, 0, 0, []) :: (.iconst 1, 516, 1, 0, 0, []) :: (.iadd, 517, 0, 0, 0, []) :: (.iaload, 518, 0, 0, 0, []) :: (.aload_n 0, 519, 0, 0, 0, []) :: (.iload 4, 520, 4, 0, 0, []) :: zp_L_law__12
noncomputable def zp_L_law__10 : List ECE := (.aload_n 3, 478, 3, 0, 0, []) :: (.iconst 0, 479, 0, 0, 0, []) :: (.laload, 480, 0, 0, 0, []) :: (.iload 6, 481, 6, 0, 0, []) :: (.i2l, 483, 0, 0, 0, []) :: (.lcmp, 484, 0, 0, 0, []) :: (.ifCond .eq 5, 485, 169, 0, 0, []) :: (.iconst 0, 488, 0, 0, 0, []) :: (.ireturn, 489, 1, 0, 0, []) :: (.goto 1323, 490, 1074, 0, 0, []) :: (.aload_n 1, 493, 1, 0, 0, []) :: (.aload_n 0, 494, 0, 0, 0, []) :: (.iload 4, 495, 4, 0, 0, []) :: (.iconst 1, 497, 1, 0, 0, []) :: (.iadd, 498, 0, 0, 0, []) :: (.iaload, 499, 0, 0, 0, []) :: zp_L_law__11
noncomputable def zp_L_law__9 : List ECE := (.iaload, 450, 0, 0, 0, []) :: (.aload_n 0, 451, 0, 0, 0, []) :: (.iload 4, 452, 4, 0, 0, []) :: (.iconst 2, 454, 2, 0, 0, []) :: (.iadd, 455, 0, 0, 0, []) :: (.iaload, 456, 0, 0, 0, []) :: (.invokevirtual 63, 457, 241, 3, 13, [0, 0]) :: (.istore 6, 460, 6, 0, 0, []) :: (.aload_n 2, 462, 2, 0, 0, []) :: (.invokevirtual 58, 463, 194, 1, 13, [0, 0]) :: (.iload 5, 466, 5, 0, 0, []) :: (.if_icmp .eq 5, 468, 158, 0, 0, []) :: (.iconst 0, 471, 0, 0, 0, []) :: (.ireturn, 472, 1, 0, 0, []) :: (.iload 5, 473, 5, 0, 0, []) :: (.ifCond .ne 15, 475, 169, 0, 0, []) :: zp_L_law__10
noncomputable def zp_L_law__8 : List ECE := (.iconst 1, 429, 1, 0, 0, []) :: (.iadd, 430, 0, 0, 0, []) :: (.iaload, 431, 0, 0, 0, []) :: (.aload_n 0, 432, 0, 0, 0, []) :: (.iload 4, 433, 4, 0, 0, []) :: (.iconst 2, 435, 2, 0, 0, []) :: (.iadd, 436, 0, 0, 0, []) :: (.iaload, 437, 0, 0, 0, []) :: (.aload_n 3, 438, 3, 0, 0, []) :: (.invokestatic 61, 439, 352, 4, 0, [0, 0]) :: (.istore 5, 442, 5, 0, 0, []) :: (.aload_n 2, 444, 2, 0, 0, []) :: (.aload_n 0, 445, 0, 0, 0, []) :: (.iload 4, 446, 4, 0, 0, []) :: (.iconst 1, 448, 1, 0, 0, []) :: (.iadd, 449, 0, 0, 0, []) :: zp_L_law__9
noncomputable def zp_L_law__7 : List ECE := (.ireturn, 404, 1, 0, 0, []) :: (.iload 5, 405, 5, 0, 0, []) :: (.ifCond .ne 15, 407, 124, 0, 0, []) :: (.aload_n 3, 410, 3, 0, 0, []) :: (.iconst 0, 411, 0, 0, 0, []) :: (.laload, 412, 0, 0, 0, []) :: (.iload 6, 413, 6, 0, 0, []) :: (.i2l, 415, 0, 0, 0, []) :: (.lcmp, 416, 0, 0, 0, []) :: (.ifCond .eq 5, 417, 124, 0, 0, []) :: (.iconst 0, 420, 0, 0, 0, []) :: (.ireturn, 421, 1, 0, 0, []) :: (.goto 1391, 422, 1074, 0, 0, []) :: (.aload_n 1, 425, 1, 0, 0, []) :: (.aload_n 0, 426, 0, 0, 0, []) :: (.iload 4, 427, 4, 0, 0, []) :: zp_L_law__8
noncomputable def zp_L_law__6 : List ECE := (.iload 4, 378, 4, 0, 0, []) :: (.iconst 1, 380, 1, 0, 0, []) :: (.iadd, 381, 0, 0, 0, []) :: (.iaload, 382, 0, 0, 0, []) :: (.aload_n 0, 383, 0, 0, 0, []) :: (.iload 4, 384, 4, 0, 0, []) :: (.iconst 2, 386, 2, 0, 0, []) :: (.iadd, 387, 0, 0, 0, []) :: (.iaload, 388, 0, 0, 0, []) :: (.invokevirtual 57, 389, 240, 3, 13, [0, 0]) :: (.istore 6, 392, 6, 0, 0, []) :: (.aload_n 2, 394, 2, 0, 0, []) :: (.invokevirtual 58, 395, 194, 1, 13, [0, 0]) :: (.iload 5, 398, 5, 0, 0, []) :: (.if_icmp .eq 5, 400, 113, 0, 0, []) :: (.iconst 0, 403, 0, 0, 0, []) :: zp_L_law__7
noncomputable def zp_L_law__5 : List ECE := (.aload_n 1, 357, 1, 0, 0, []) :: (.aload_n 0, 358, 0, 0, 0, []) :: (.iload 4, 359, 4, 0, 0, []) :: (.iconst 1, 361, 1, 0, 0, []) :: (.iadd, 362, 0, 0, 0, []) :: (.iaload, 363, 0, 0, 0, []) :: (.aload_n 0, 364, 0, 0, 0, []) :: (.iload 4, 365, 4, 0, 0, []) :: (.iconst 2, 367, 2, 0, 0, []) :: (.iadd, 368, 0, 0, 0, []) :: (.iaload, 369, 0, 0, 0, []) :: (.aload_n 3, 370, 3, 0, 0, []) :: (.invokestatic 52, 371, 351, 4, 0, [0, 0]) :: (.istore 5, 374, 5, 0, 0, []) :: (.aload_n 2, 376, 2, 0, 0, []) :: (.aload_n 0, 377, 0, 0, 0, []) :: zp_L_law__6
noncomputable def zp_L_law__4 : List ECE := (.iconst 0, 329, 0, 0, 0, []) :: (.ireturn, 330, 1, 0, 0, []) :: (.aload_n 1, 331, 1, 0, 0, []) :: (.invokevirtual 44, 332, 129, 1, 12, [0, 0]) :: (.aload_n 2, 335, 2, 0, 0, []) :: (.invokevirtual 47, 336, 228, 1, 13, [0, 0]) :: (.if_icmp .eq 1474, 339, 1074, 0, 0, []) :: (.iconst 0, 342, 0, 0, 0, []) :: (.ireturn, 343, 1, 0, 0, []) :: (.aload_n 1, 344, 1, 0, 0, []) :: (.invokevirtual 48, 345, 130, 1, 12, [0, 0]) :: (.aload_n 2, 348, 2, 0, 0, []) :: (.invokevirtual 51, 349, 234, 1, 13, [0, 0]) :: (.if_icmp .eq 1461, 352, 1074, 0, 0, []) :: (.iconst 0, 355, 0, 0, 0, []) :: (.ireturn, 356, 1, 0, 0, []) :: zp_L_law__5
noncomputable def zp_L_law__3 : List ECE := (.invokevirtual 34, 300, 127, 2, 12, [0, 0]) :: (.aload_n 2, 303, 2, 0, 0, []) :: (.aload_n 0, 304, 0, 0, 0, []) :: (.iload 4, 305, 4, 0, 0, []) :: (.iconst 1, 307, 1, 0, 0, []) :: (.iadd, 308, 0, 0, 0, []) :: (.iaload, 309, 0, 0, 0, []) :: (.invokevirtual 38, 310, 217, 2, 13, [0, 0]) :: (.if_icmp .eq 1500, 313, 1074, 0, 0, []) :: (.iconst 0, 316, 0, 0, 0, []) :: (.ireturn, 317, 1, 0, 0, []) :: (.aload_n 1, 318, 1, 0, 0, []) :: (.invokevirtual 39, 319, 128, 1, 12, [0, 0]) :: (.aload_n 2, 322, 2, 0, 0, []) :: (.invokevirtual 43, 323, 227, 1, 13, [0, 0]) :: (.if_icmp .eq 1487, 326, 1074, 0, 0, []) :: zp_L_law__4
noncomputable def zp_L_law__2 : List ECE := (.aload_n 2, 278, 2, 0, 0, []) :: (.aload_n 0, 279, 0, 0, 0, []) :: (.iload 4, 280, 4, 0, 0, []) :: (.iconst 1, 282, 1, 0, 0, []) :: (.iadd, 283, 0, 0, 0, []) :: (.iaload, 284, 0, 0, 0, []) :: (.invokevirtual 33, 285, 216, 2, 13, [0, 0]) :: (.if_icmp .eq 1525, 288, 1074, 0, 0, []) :: (.iconst 0, 291, 0, 0, 0, []) :: (.ireturn, 292, 1, 0, 0, []) :: (.aload_n 1, 293, 1, 0, 0, []) :: (.aload_n 0, 294, 0, 0, 0, []) :: (.iload 4, 295, 4, 0, 0, []) :: (.iconst 1, 297, 1, 0, 0, []) :: (.iadd, 298, 0, 0, 0, []) :: (.iaload, 299, 0, 0, 0, []) :: zp_L_law__3
noncomputable def zp_L_law__1 : List ECE := (.iconst 5, 27, 5, 0, 0, []) :: (.isub, 28, 0, 0, 0, []) :: (.if_icmp .gt 1790, 29, 1076, 0, 0, []) :: (.aload_n 0, 32, 0, 0, 0, []) :: (.iload 4, 33, 4, 0, 0, []) :: (.iaload, 35, 0, 0, 0, []) :: (.bipush 63, 36, 63, 0, 0, []) :: (.iand, 38, 0, 0, 0, []) :: (.tableswitch 1774 0 53 #[229, 254, 279, 292, 305, 318, 386, 454, 522, 583, 608, 645, 670, 695, 732, 781, 806, 831, 844, 857, 906, 943, 956, 981, 1030, 1067, 1104, 1129, 1142, 1155, 1192, 1205, 1230, 1243, 1292, 1305, 1318, 1331, 1368, 1381, 1394, 1407, 1456, 1505, 1518, 1531, 1544, 1569, 1582, 1607, 1644, 1669, 1694, 1719], 39, 1074, 0, 0, [2147483648, 25, 2147483649, 42, 2147483650, 59, 2147483651, 66, 2147483652, 73, 2147483653, 80, 2147483654, 125, 2147483655, 170, 2147483656, 215, 2147483657, 262, 2147483658, 279, 2147483659, 306, 2147483660, 323, 2147483661, 340, 2147483662, 367, 2147483663, 404, 2147483664, 421, 2147483665, 438, 2147483666, 445, 2147483667, 452, 2147483668, 489, 2147483669, 516, 2147483670, 523, 2147483671, 540, 2147483672, 577, 2147483673, 604, 2147483674, 631, 2147483675, 648, 2147483676, 655, 2147483677, 662, 2147483678, 689, 2147483679, 696, 2147483680, 713, 2147483681, 720, 2147483682, 757, 2147483683, 764, 2147483684, 771, 2147483685, 778, 2147483686, 805, 2147483687, 812, 2147483688, 819, 2147483689, 826, 2147483690, 863, 2147483691, 900, 2147483692, 907, 2147483693, 914, 2147483694, 921, 2147483695, 938, 2147483696, 945, 2147483697, 962, 2147483698, 989, 2147483699, 1006, 2147483700, 1023, 2147483701, 1040]) :: (.aload_n 1, 268, 1, 0, 0, []) :: (.aload_n 0, 269, 0, 0, 0, []) :: (.iload 4, 270, 4, 0, 0, []) :: (.iconst 1, 272, 1, 0, 0, []) :: (.iadd, 273, 0, 0, 0, []) :: (.iaload, 274, 0, 0, 0, []) :: (.invokevirtual 29, 275, 126, 2, 12, [0, 0]) :: zp_L_law__2
noncomputable def zp_L_law__0 : List ECE := (.new 8, 0, 11, 0, 0, [2, 2, 2, 2, 2, 2, 2, 2, 2, 2, 2, 2, 2]) :: (.dup, 3, 0, 0, 0, []) :: (.invokespecial 25, 4, 125, 1, 0, [118, 1578]) :: (.astore_n 1, 7, 1, 0, 0, []) :: (.new 26, 8, 12, 0, 0, [0, 0, 2, 0, 0, 0, 2, 2, 2, 2, 0, 0, 0, 0, 2, 0, 2, 2, 0, 0, 2, 2, 0, 2, 2, 2, 2, 2, 2, 0, 2, 2, 0, 0, 2, 2, 0, 2, 2, 0, 2, 2, 2, 2, 2, 2, 0, 2, 2, 2]) :: (.dup, 11, 0, 0, 0, []) :: (.invokespecial 28, 12, 202, 1, 0, [31, 1502]) :: (.astore_n 2, 15, 2, 0, 0, []) :: (.iconst 1, 16, 1, 0, 0, []) :: (.newarray .long, 17, 150, 3, 0, []) :: (.astore_n 3, 19, 3, 0, 0, []) :: (.iconst 0, 20, 0, 0, 0, []) :: (.istore 4, 21, 4, 0, 0, []) :: (.iload 4, 23, 4, 0, 0, []) :: (.aload_n 0, 25, 0, 0, 0, []) :: (.arraylength, 26, 0, 0, 0, []) :: zp_L_law__1
noncomputable def zp_L_law_ : List (List ECE) := [zp_L_law__0, zp_L_law__1, zp_L_law__2, zp_L_law__3, zp_L_law__4, zp_L_law__5, zp_L_law__6, zp_L_law__7, zp_L_law__8, zp_L_law__9, zp_L_law__10, zp_L_law__11, zp_L_law__12, zp_L_law__13, zp_L_law__14, zp_L_law__15, zp_L_law__16, zp_L_law__17, zp_L_law__18, zp_L_law__19, zp_L_law__20, zp_L_law__21, zp_L_law__22, zp_L_law__23, zp_L_law__24, zp_L_law__25, zp_L_law__26, zp_L_law__27, zp_L_law__28, zp_L_law__29, zp_L_law__30, zp_L_law__31, zp_L_law__32, zp_L_law__33, zp_L_law__34, zp_L_law__35, zp_L_law__36, zp_L_law__37, zp_L_law__38, zp_L_law__39, zp_L_law__40, zp_L_law__41, zp_L_law__42, zp_L_law__43, zp_L_law__44, zp_L_law__45, zp_L_law__46, zp_L_law__47, zp_L_law__48, zp_L_law__49, zp_L_law__50, zp_L_law__51, zp_L_law__52, zp_L_law__53, zp_L_law__54, zp_L_law__55, zp_L_law__56, zp_L_law__57, zp_L_law__58, zp_L_law__59, zp_L_law__60, zp_L_law__61, zp_L_law__62, zp_L_law__63, zp_L_law__64, zp_L_law__65, zp_L_law__66, zp_L_law__67]
noncomputable def zp_all : List (List EM) := [[(zp_X0_init, 1, 2, 39), (zp_X0_timesWind, 1, 0, 0), (zp_X0_timesNumber, 1, 0, 0), (zp_X0_firstOf, 2, 0, 0), (zp_X0_wayBy, 3, 0, 0), (zp_X0_lawsLeft, 3, 0, 0), (zp_X0_suits, 3, 0, 0), (zp_X0_mostLeft, 8, 0, 0), (zp_X1_init, 1, 2, 39), (zp_X1_isTalk, 2, 0, 0), (zp_X1_peopleLeft, 4, 0, 0), ([], 0, 0, 0), ([], 0, 0, 0), ([], 0, 0, 0), (zp_X2_init, 2, 1, 36), (zp_X2_size, 1, 0, 0)],
  [(zp_X2_add, 5, 0, 0), ([], 0, 0, 0), ([], 0, 0, 0), (zp_X2_empty, 2, 0, 0), (zp_X3_init, 2, 74, 720), (zp_X3_size, 1, 0, 0), (zp_X3_push, 3, 0, 0), (zp_X3_pop, 3, 0, 0), (zp_X3_deedAt, 3, 0, 0), (zp_X3_store, 3, 0, 0), (zp_X3_bringBack, 3, 0, 0), ([], 0, 0, 0), (zp_X4_init, 1, 1, 12), (zp_X4_size, 1, 0, 0), ([], 0, 0, 0), (zp_X4_clear, 1, 0, 0)],
  [(zp_X4_add, 3, 0, 0), (zp_X4_tell, 3, 0, 0), (zp_X4_tell_, 5, 0, 0), ([], 0, 0, 0), (zp_X5_init, 1, 4, 127), (zp_X5_read, 6, 0, 0), ([], 0, 0, 0), ([], 0, 0, 0), ([], 0, 0, 0), ([], 0, 0, 0), ([], 0, 0, 0), ([], 0, 0, 0), ([], 0, 0, 0), ([], 0, 0, 0), ([], 0, 0, 0), ([], 0, 0, 0)],
  [([], 0, 0, 0), ([], 0, 0, 0), ([], 0, 0, 0), (zp_X6_init, 1, 1, 80), (zp_X6_length, 1, 0, 0), (zp_X6_append, 3, 0, 0), (zp_X6_cut, 2, 0, 0), (zp_X6_take, 2, 0, 0), ([], 0, 0, 0), ([], 0, 0, 0), ([], 0, 0, 0), (zp_X6_faultOfWedding, 6, 0, 0), ([], 0, 0, 0), ([], 0, 0, 0), ([], 0, 0, 0), (zp_X7_init, 1, 3, 202)],
  [(zp_X7_lawsHeld, 4, 0, 0), (zp_X7_hittingSet, 5, 0, 0), (zp_X7_hitsAll, 3, 0, 0), (zp_X7_weighAwards, 6, 0, 0), (zp_X7_tellAwards, 6, 0, 0), ([], 0, 0, 0), ([], 0, 0, 0), ([], 0, 0, 0), (zp_X7_weigh, 3, 0, 0), ([], 0, 0, 0), (zp_X7_isLeast, 3, 0, 0), (zp_X7_prevails, 4, 0, 0), (zp_X8_init, 1, 3, 47), (zp_X8_windsLeft, 6, 0, 0), (zp_X8_suits, 7, 0, 0), ([], 0, 0, 0)],
  [(zp_X9_init, 2, 3, 30), (zp_X9_become, 2, 0, 0), ([], 0, 0, 0), ([], 0, 0, 0), (zp_X9_hasLaw, 2, 0, 0), (zp_X9_hasOne, 2, 0, 0), (zp_X9_hasBit, 3, 0, 0), ([], 0, 0, 0), ([], 0, 0, 0), ([], 0, 0, 0), ([], 0, 0, 0), (zp_X9_placeOf, 2, 0, 0), ([], 0, 0, 0), (zp_X9_lay, 3, 0, 0), (zp_X9_lies, 2, 0, 0), (zp_X9_isHeld, 3, 0, 0)],
  [(zp_X9_lyingCount, 3, 0, 0), (zp_X9_heldCount, 3, 0, 0), (zp_X9_bitsAt, 4, 0, 0), ([], 0, 0, 0), ([], 0, 0, 0), (zp_X9_heldBy, 2, 0, 0), ([], 0, 0, 0), (zp_X9_holdersOf, 4, 0, 0), ([], 0, 0, 0), ([], 0, 0, 0), ([], 0, 0, 0), (zp_X9_rightCount, 3, 0, 0), (zp_X9_carry, 2, 0, 0), (zp_X9_fling, 3, 0, 0), ([], 0, 0, 0), ([], 0, 0, 0)],
  [(zp_X9_sweep, 3, 0, 0), (zp_X9_walk, 4, 0, 0), (zp_X9_give, 7, 0, 0), (zp_X9_letFall, 4, 0, 0), (zp_X9_turnWind, 3, 0, 0), ([], 0, 0, 0), (zp_X10_init, 1, 2, 28), (zp_X10_passDays, 7, 0, 0), (zp_X10_passYears, 9, 0, 0), (zp_X10_countCrowd, 4, 0, 0), ([], 0, 0, 0), (zp_X10_blow, 4, 0, 0), (zp_X10_draw, 2, 0, 0), (zp_X11_init, 1, 118, 1578), (zp_X11_sign, 2, 0, 0), (zp_X11_end, 2, 0, 0)],
  [(zp_X11_laws, 1, 0, 0), (zp_X11_people, 1, 0, 0), (zp_X11_rule, 3, 0, 0), (zp_X11_law, 3, 0, 0), (zp_X11_bit, 3, 0, 0), (zp_X11_one, 3, 0, 0), (zp_X11_sheet, 9, 0, 0), (zp_X11_carries, 2, 0, 0), (zp_X11_flings, 3, 0, 0), (zp_X11_sweeps, 2, 0, 0), (zp_X11_days, 3, 0, 0), (zp_X11_walks, 3, 0, 0), (zp_X11_gives, 4, 0, 0), (zp_X11_falls, 2, 0, 0), (zp_X11_wind, 2, 0, 0), (zp_X11_wedding, 7, 0, 0)],
  [(zp_X11_undo, 1, 0, 0), (zp_X11_later, 4, 0, 0), (zp_X11_when, 4, 0, 0), (zp_X11_clean, 2, 0, 0), (zp_X11_drifts, 4, 0, 0), (zp_X11_aims, 7, 0, 0), (zp_X11_prays, 8, 0, 0), (zp_X11_seeks, 9, 0, 0), (zp_X11_whole, 3, 0, 0), (zp_X11_quorum, 2, 0, 0), (zp_X11_awards, 2, 0, 0), (zp_X11_needs, 5, 0, 0), (zp_X11_line, 4, 0, 0), (zp_X11_power, 3, 0, 0), (zp_X11_least, 3, 0, 0), (zp_X11_seen, 4, 0, 0)],
  [(zp_X11_forget, 1, 0, 0), (zp_X11_guess, 2, 0, 0), (zp_X11_looks, 6, 0, 0), (zp_X11_heard, 3, 0, 0), (zp_X11_denies, 1, 0, 0), (zp_X11_fits, 2, 0, 0), (zp_X11_asks, 8, 0, 0), (zp_X11_odds, 8, 0, 0), (zp_X11_went, 5, 0, 0), (zp_X11_clears, 1, 0, 0), (zp_X11_scatters, 3, 0, 0), (zp_X11_tries, 7, 0, 0), (zp_X11_handfuls, 2, 0, 0), (zp_X11_other, 5, 0, 0), (zp_X11_grasps, 5, 0, 0), (zp_X11_years, 4, 0, 0)],
  [(zp_X11_keep, 2, 0, 0), (zp_X11_again, 2, 0, 0), (zp_X11_count, 2, 0, 0), (zp_X11_row, 2, 0, 0), (zp_X11_countKept, 2, 0, 0), (zp_X11_readLines, 7, 0, 0), (zp_X11_noted, 2, 0, 0), ([], 0, 0, 0), (zp_X11_dreamOf, 3, 0, 0), ([], 0, 0, 0), ([], 0, 0, 0), (zp_X11_winningHandful, 5, 0, 0), (zp_X11_handfulOutOf, 4, 0, 0), (zp_X11_isContent, 4, 0, 0), (zp_X11_grasped, 3, 0, 0), (zp_X11_isWithin, 3, 0, 0)],
  [([], 0, 0, 0), ([], 0, 0, 0), ([], 0, 0, 0), ([], 0, 0, 0), (zp_X12_in, 6, 0, 0), (zp_X12_has, 2, 0, 0), (zp_X12_flag, 1, 0, 0), ([], 0, 0, 0), (zp_X12_enters, 3, 0, 0), ([], 0, 0, 0), (zp_X12_init, 2, 31, 1502), (zp_X12_isLaw, 2, 0, 0), (zp_X12_isBit, 3, 0, 0), (zp_X12_isOne, 2, 0, 0), (zp_X12_all, 1, 0, 0), (zp_X12_lies, 2, 0, 0)],
  [([], 0, 0, 0), ([], 0, 0, 0), ([], 0, 0, 0), (zp_X12_heldMany, 4, 0, 0), (zp_X12_lieMany, 3, 0, 0), ([], 0, 0, 0), (zp_X12_rights, 5, 0, 0), (zp_X12_copies, 3, 0, 0), (zp_X12_sign, 3, 0, 0), (zp_X12_end, 2, 0, 0), (zp_X12_begins, 3, 0, 0), ([], 0, 0, 0), ([], 0, 0, 0), ([], 0, 0, 0), ([], 0, 0, 0), ([], 0, 0, 0)],
  [(zp_X12_faultOf, 5, 0, 0), (zp_X12_readsLines, 8, 0, 0), (zp_X12_came, 1, 0, 0), (zp_X12_laws, 3, 0, 0), (zp_X12_people, 3, 0, 0), ([], 0, 0, 0), ([], 0, 0, 0), ([], 0, 0, 0), (zp_X12_readsRule, 3, 0, 0), (zp_X12_laysCode, 4, 0, 0), (zp_X12_rule, 2, 0, 0), ([], 0, 0, 0), ([], 0, 0, 0), (zp_X12_lyingIn, 4, 0, 0), ([], 0, 0, 0), ([], 0, 0, 0)],
  [([], 0, 0, 0), ([], 0, 0, 0), ([], 0, 0, 0), ([], 0, 0, 0), (zp_X12_sheet, 9, 0, 0), (zp_X12_putsBy, 2, 0, 0), (zp_X12_adds, 3, 0, 0), (zp_X12_counted, 2, 0, 0), (zp_X12_undo, 2, 0, 0), (zp_X12_dayGoes, 5, 0, 0), (zp_X12_goesOn, 5, 0, 0), (zp_X12_carriesOne, 2, 0, 0), ([], 0, 0, 0), (zp_X12_flingsOne, 3, 0, 0), (zp_X12_sweepsOne, 4, 0, 0), (zp_X12_walksOne, 4, 0, 0)],
  [([], 0, 0, 0), (zp_X12_givesAll, 5, 0, 0), (zp_X12_fallsFrom, 2, 0, 0), (zp_X12_windTo, 3, 0, 0), (zp_X12_carries, 2, 0, 0), (zp_X12_flings, 3, 0, 0), (zp_X12_sweeps, 2, 0, 0), (zp_X12_days, 3, 0, 0), (zp_X12_walks, 3, 0, 0), (zp_X12_gives, 4, 0, 0), (zp_X12_falls, 2, 0, 0), (zp_X12_wind, 2, 0, 0), ([], 0, 0, 0), ([], 0, 0, 0), (zp_X12_wedding, 5, 0, 0), (zp_X12_later, 4, 0, 0)],
  [(zp_X12_when, 4, 0, 0), (zp_X12_clean, 2, 0, 0), (zp_X12_drifts, 4, 0, 0), (zp_X12_aims, 8, 0, 0), ([], 0, 0, 0), (zp_X12_prays, 5, 0, 0), (zp_X12_seeks, 8, 0, 0), (zp_X12_whole, 4, 0, 0), ([], 0, 0, 0), (zp_X12_holdsOfAll, 4, 0, 0), (zp_X12_quorum, 4, 0, 0), (zp_X12_awardsFrom, 5, 0, 0), (zp_X12_awards, 2, 0, 0), (zp_X12_needs, 6, 0, 0), (zp_X12_line, 3, 0, 0), (zp_X12_carriesIt, 4, 0, 0)],
  [(zp_X12_power, 4, 0, 0), (zp_X12_least, 5, 0, 0), (zp_X12_seen, 4, 0, 0), (zp_X12_forget, 2, 0, 0), (zp_X12_winds, 5, 0, 0), (zp_X12_guess, 2, 0, 0), (zp_X12_looks, 9, 0, 0), (zp_X12_highest, 1, 0, 0), (zp_X12_heard, 3, 0, 0), (zp_X12_denies, 2, 0, 0), ([], 0, 0, 0), (zp_X12_fitting, 5, 0, 0), (zp_X12_fits, 2, 0, 0), (zp_X12_asks, 8, 0, 0), (zp_X12_odds, 13, 0, 0), (zp_X12_went, 4, 0, 0)],
  [(zp_X12_clears, 2, 0, 0), (zp_X12_goesBy, 3, 0, 0), (zp_X12_isScatter, 4, 0, 0), (zp_X12_scatters, 4, 0, 0), (zp_X12_tries, 8, 0, 0), (zp_X12_handfuls, 5, 0, 0), (zp_X12_other, 6, 0, 0), (zp_X12_gets, 3, 0, 0), (zp_X12_isRest, 5, 0, 0), (zp_X12_grasps, 5, 0, 0), (zp_X12_draws, 2, 0, 0), (zp_X12_years, 7, 0, 0), (zp_X12_keep, 3, 0, 0), (zp_X12_again, 3, 0, 0), (zp_X12_count, 2, 0, 0), ([], 0, 0, 0)],
  [([], 0, 0, 0), ([], 0, 0, 0), ([], 0, 0, 0), (zp_J6_bitCount_0f7a4, 1, 0, 0), ([], 0, 0, 0), (zp_J9_max_7cf53, 2, 0, 0), (zp_J9_min_7cf53, 2, 0, 0), ([], 0, 0, 0), ([], 0, 0, 0), ([], 0, 0, 0), ([], 0, 0, 0), ([], 0, 0, 0), ([], 0, 0, 0), ([], 0, 0, 0), ([], 0, 0, 0), ([], 0, 0, 0)],
  [([], 0, 0, 0), ([], 0, 0, 0), ([], 0, 0, 0), ([], 0, 0, 0), ([], 0, 0, 0), ([], 0, 0, 0), ([], 0, 0, 0), ([], 0, 0, 0), ([], 0, 0, 0), ([], 0, 0, 0), ([], 0, 0, 0), ([], 0, 0, 0), ([], 0, 0, 0), ([], 0, 0, 0), ([], 0, 0, 0), (zp_L_law, 5, 0, 0)],
  [(zp_L_bit, 5, 0, 0), (zp_L_one, 5, 0, 0), (zp_L_row, 4, 0, 0), (zp_L_law_, 8, 0, 0)]]
end
section
/-! the rows agree with the bytes -/
theorem zt_X0_init : zk_code 0 cX0_init 1 none true zp_X0_init zp_X0_init_0 = true := by decide +kernel
theorem zt_X0_timesWind : zk_code 0 cX0_timesWind 1 (some .int) false zp_X0_timesWind zp_X0_timesWind_0 = true := by decide +kernel
theorem zt_X0_timesNumber : zk_code 0 cX0_timesNumber 1 (some .int) false zp_X0_timesNumber zp_X0_timesNumber_0 = true := by decide +kernel
theorem zt_X0_firstOf : zk_code 0 cX0_firstOf 2 (some .int) false zp_X0_firstOf zp_X0_firstOf_0 = true := by decide +kernel
theorem zt_X0_wayBy : zk_code 0 cX0_wayBy 3 (some .int) false zp_X0_wayBy zp_X0_wayBy_0 = true := by decide +kernel
theorem zt_X0_lawsLeft : zk_code 0 cX0_lawsLeft 3 (some .int) false zp_X0_lawsLeft zp_X0_lawsLeft_0 = true := by decide +kernel
theorem zt_X0_suits : zk_code 0 cX0_suits 3 (some .boolean) false zp_X0_suits zp_X0_suits_0 = true := by decide +kernel
theorem zt_X0_mostLeft : zk_code 0 cX0_mostLeft 8 (some .int) false zp_X0_mostLeft zp_X0_mostLeft_0 = true := by decide +kernel
theorem zt_X1_init : zk_code 1 cX1_init 1 none true zp_X1_init zp_X1_init_0 = true := by decide +kernel
theorem zt_X1_isTalk : zk_code 1 cX1_isTalk 2 (some .boolean) false zp_X1_isTalk zp_X1_isTalk_0 = true := by decide +kernel
theorem zt_X1_peopleLeft : zk_code 1 cX1_peopleLeft 4 (some .int) false zp_X1_peopleLeft zp_X1_peopleLeft_0 = true := by decide +kernel
theorem zt_X2_init : zk_code 2 cX2_init 2 none true zp_X2_init zp_X2_init_0 = true := by decide +kernel
theorem zt_X2_size : zk_code 2 cX2_size 1 (some .int) false zp_X2_size zp_X2_size_0 = true := by decide +kernel
theorem zt_X2_add : zk_code 2 cX2_add 5 (some .int) false zp_X2_add zp_X2_add_0 = true := by decide +kernel
theorem zt_X2_empty : zk_code 2 cX2_empty 2 (some .int) false zp_X2_empty zp_X2_empty_0 = true := by decide +kernel
theorem zt_X3_init : zk_code 3 cX3_init 2 none true zp_X3_init zp_X3_init_0 = true := by decide +kernel
theorem zt_X3_size : zk_code 3 cX3_size 1 (some .int) false zp_X3_size zp_X3_size_0 = true := by decide +kernel
theorem zt_X3_push : zk_code 3 cX3_push 3 none false zp_X3_push zp_X3_push_0 = true := by decide +kernel
theorem zt_X3_pop : zk_code 3 cX3_pop 3 (some .int) false zp_X3_pop zp_X3_pop_0 = true := by decide +kernel
theorem zt_X3_deedAt : zk_code 3 cX3_deedAt 3 (some (.object "ConfettiMinutes$Town")) false zp_X3_deedAt zp_X3_deedAt_0 = true := by decide +kernel
theorem zt_X3_store : zk_code 3 cX3_store 3 (some .boolean) false zp_X3_store zp_X3_store_0 = true := by decide +kernel
theorem zt_X3_bringBack : zk_code 3 cX3_bringBack 3 (some .boolean) false zp_X3_bringBack zp_X3_bringBack_0 = true := by decide +kernel
theorem zt_X4_init : zk_code 4 cX4_init 1 none true zp_X4_init zp_X4_init_0 = true := by decide +kernel
theorem zt_X4_size : zk_code 4 cX4_size 1 (some .int) false zp_X4_size zp_X4_size_0 = true := by decide +kernel
theorem zt_X4_clear : zk_code 4 cX4_clear 1 none false zp_X4_clear zp_X4_clear_0 = true := by decide +kernel
theorem zt_X4_add : zk_code 4 cX4_add 3 none false zp_X4_add zp_X4_add_0 = true := by decide +kernel
theorem zt_X4_tell : zk_code 4 cX4_tell 3 none false zp_X4_tell zp_X4_tell_0 = true := by decide +kernel
theorem zt_X4_tell_ : zk_code 4 cX4_tell_ 5 none false zp_X4_tell_ zp_X4_tell__0 = true := by decide +kernel
theorem zt_X5_init : zk_code 5 cX5_init 1 none true zp_X5_init zp_X5_init_0 = true := by decide +kernel
theorem zt_X5_read : zk_code 5 cX5_read 6 (some .int) false zp_X5_read zp_X5_read_0 = true := by decide +kernel
theorem zt_X6_init : zk_code 6 cX6_init 1 none true zp_X6_init zp_X6_init_0 = true := by decide +kernel
theorem zt_X6_length : zk_code 6 cX6_length 1 (some .int) false zp_X6_length zp_X6_length_0 = true := by decide +kernel
theorem zt_X6_append : zk_code 6 cX6_append 3 (some .int) false zp_X6_append zp_X6_append_0 = true := by decide +kernel
theorem zt_X6_cut : zk_code 6 cX6_cut 2 (some .boolean) false zp_X6_cut zp_X6_cut_0 = true := by decide +kernel
theorem zt_X6_take : zk_code 6 cX6_take 2 (some .int) false zp_X6_take zp_X6_take_0 = true := by decide +kernel
theorem zt_X6_faultOfWedding : zk_code 6 cX6_faultOfWedding 6 (some .int) false zp_X6_faultOfWedding zp_X6_faultOfWedding_0 = true := by decide +kernel
theorem zt_X7_init : zk_code 7 cX7_init 1 none true zp_X7_init zp_X7_init_0 = true := by decide +kernel
theorem zt_X7_lawsHeld : zk_code 7 cX7_lawsHeld 4 (some .int) false zp_X7_lawsHeld zp_X7_lawsHeld_0 = true := by decide +kernel
theorem zt_X7_hittingSet : zk_code 7 cX7_hittingSet 5 (some .int) false zp_X7_hittingSet zp_X7_hittingSet_0 = true := by decide +kernel
theorem zt_X7_hitsAll : zk_code 7 cX7_hitsAll 3 (some .boolean) false zp_X7_hitsAll zp_X7_hitsAll_0 = true := by decide +kernel
theorem zt_X7_weighAwards : zk_code 7 cX7_weighAwards 6 (some .int) false zp_X7_weighAwards zp_X7_weighAwards_0 = true := by decide +kernel
theorem zt_X7_tellAwards : zk_code 7 cX7_tellAwards 6 none false zp_X7_tellAwards zp_X7_tellAwards_0 = true := by decide +kernel
theorem zt_X7_weigh : zk_code 7 cX7_weigh 3 none false zp_X7_weigh zp_X7_weigh_0 = true := by decide +kernel
theorem zt_X7_isLeast : zk_code 7 cX7_isLeast 3 (some .boolean) false zp_X7_isLeast zp_X7_isLeast_0 = true := by decide +kernel
theorem zt_X7_prevails : zk_code 7 cX7_prevails 4 (some .boolean) false zp_X7_prevails zp_X7_prevails_0 = true := by decide +kernel
theorem zt_X8_init : zk_code 8 cX8_init 1 none true zp_X8_init zp_X8_init_0 = true := by decide +kernel
theorem zt_X8_windsLeft : zk_code 8 cX8_windsLeft 6 (some .int) false zp_X8_windsLeft zp_X8_windsLeft_0 = true := by decide +kernel
theorem zt_X8_suits : zk_code 8 cX8_suits 7 (some .boolean) false zp_X8_suits zp_X8_suits_0 = true := by decide +kernel
theorem zt_X9_init : zk_code 9 cX9_init 2 none true zp_X9_init zp_X9_init_0 = true := by decide +kernel
theorem zt_X9_become : zk_code 9 cX9_become 2 none false zp_X9_become zp_X9_become_0 = true := by decide +kernel
theorem zt_X9_hasLaw : zk_code 9 cX9_hasLaw 2 (some .boolean) false zp_X9_hasLaw zp_X9_hasLaw_0 = true := by decide +kernel
theorem zt_X9_hasOne : zk_code 9 cX9_hasOne 2 (some .boolean) false zp_X9_hasOne zp_X9_hasOne_0 = true := by decide +kernel
theorem zt_X9_hasBit : zk_code 9 cX9_hasBit 3 (some .boolean) false zp_X9_hasBit zp_X9_hasBit_0 = true := by decide +kernel
theorem zt_X9_placeOf : zk_code 9 cX9_placeOf 2 (some .int) false zp_X9_placeOf zp_X9_placeOf_0 = true := by decide +kernel
theorem zt_X9_lay : zk_code 9 cX9_lay 3 none false zp_X9_lay zp_X9_lay_0 = true := by decide +kernel
theorem zt_X9_lies : zk_code 9 cX9_lies 2 (some .boolean) false zp_X9_lies zp_X9_lies_0 = true := by decide +kernel
theorem zt_X9_isHeld : zk_code 9 cX9_isHeld 3 (some .boolean) false zp_X9_isHeld zp_X9_isHeld_0 = true := by decide +kernel
theorem zt_X9_lyingCount : zk_code 9 cX9_lyingCount 3 (some .int) false zp_X9_lyingCount zp_X9_lyingCount_0 = true := by decide +kernel
theorem zt_X9_heldCount : zk_code 9 cX9_heldCount 3 (some .int) false zp_X9_heldCount zp_X9_heldCount_0 = true := by decide +kernel
theorem zt_X9_bitsAt : zk_code 9 cX9_bitsAt 4 (some .int) false zp_X9_bitsAt zp_X9_bitsAt_0 = true := by decide +kernel
theorem zt_X9_heldBy : zk_code 9 cX9_heldBy 2 (some .int) false zp_X9_heldBy zp_X9_heldBy_0 = true := by decide +kernel
theorem zt_X9_holdersOf : zk_code 9 cX9_holdersOf 4 (some .int) false zp_X9_holdersOf zp_X9_holdersOf_0 = true := by decide +kernel
theorem zt_X9_rightCount : zk_code 9 cX9_rightCount 3 (some .int) false zp_X9_rightCount zp_X9_rightCount_0 = true := by decide +kernel
theorem zt_X9_carry : zk_code 9 cX9_carry 2 (some .int) false zp_X9_carry zp_X9_carry_0 = true := by decide +kernel
theorem zt_X9_fling : zk_code 9 cX9_fling 3 (some .int) false zp_X9_fling zp_X9_fling_0 = true := by decide +kernel
theorem zt_X9_sweep : zk_code 9 cX9_sweep 3 (some .int) false zp_X9_sweep zp_X9_sweep_0 = true := by decide +kernel
theorem zt_X9_walk : zk_code 9 cX9_walk 4 (some .int) false zp_X9_walk zp_X9_walk_0 = true := by decide +kernel
theorem zt_X9_give : zk_code 9 cX9_give 7 (some .int) false zp_X9_give zp_X9_give_0 = true := by decide +kernel
theorem zt_X9_letFall : zk_code 9 cX9_letFall 4 (some .int) false zp_X9_letFall zp_X9_letFall_0 = true := by decide +kernel
theorem zt_X9_turnWind : zk_code 9 cX9_turnWind 3 (some .int) false zp_X9_turnWind zp_X9_turnWind_0 = true := by decide +kernel
theorem zt_X10_init : zk_code 10 cX10_init 1 none true zp_X10_init zp_X10_init_0 = true := by decide +kernel
theorem zt_X10_passDays : zk_code 10 cX10_passDays 7 (some .int) false zp_X10_passDays zp_X10_passDays_0 = true := by decide +kernel
theorem zt_X10_passYears : zk_code 10 cX10_passYears 9 (some .int) false zp_X10_passYears zp_X10_passYears_0 = true := by decide +kernel
theorem zt_X10_countCrowd : zk_code 10 cX10_countCrowd 4 none false zp_X10_countCrowd zp_X10_countCrowd_0 = true := by decide +kernel
theorem zt_X10_blow : zk_code 10 cX10_blow 4 none false zp_X10_blow zp_X10_blow_0 = true := by decide +kernel
theorem zt_X10_draw : zk_code 10 cX10_draw 2 (some .int) false zp_X10_draw zp_X10_draw_0 = true := by decide +kernel
theorem zt_X11_init : zk_code 11 cX11_init 1 none true zp_X11_init zp_X11_init_0 = true := by decide +kernel
theorem zt_X11_sign : zk_code 11 cX11_sign 2 (some .int) false zp_X11_sign zp_X11_sign_0 = true := by decide +kernel
theorem zt_X11_end : zk_code 11 cX11_end 2 (some .boolean) false zp_X11_end zp_X11_end_0 = true := by decide +kernel
theorem zt_X11_laws : zk_code 11 cX11_laws 1 (some .int) false zp_X11_laws zp_X11_laws_0 = true := by decide +kernel
theorem zt_X11_people : zk_code 11 cX11_people 1 (some .int) false zp_X11_people zp_X11_people_0 = true := by decide +kernel
theorem zt_X11_rule : zk_code 11 cX11_rule 3 (some .int) false zp_X11_rule zp_X11_rule_0 = true := by decide +kernel
theorem zt_X11_law : zk_code 11 cX11_law 3 (some .int) false zp_X11_law zp_X11_law_0 = true := by decide +kernel
theorem zt_X11_bit : zk_code 11 cX11_bit 3 (some .int) false zp_X11_bit zp_X11_bit_0 = true := by decide +kernel
theorem zt_X11_one : zk_code 11 cX11_one 3 (some .int) false zp_X11_one zp_X11_one_0 = true := by decide +kernel
theorem zt_X11_sheet : zk_code 11 cX11_sheet 9 (some .int) false zp_X11_sheet zp_X11_sheet_0 = true := by decide +kernel
theorem zt_X11_carries : zk_code 11 cX11_carries 2 (some .int) false zp_X11_carries zp_X11_carries_0 = true := by decide +kernel
theorem zt_X11_flings : zk_code 11 cX11_flings 3 (some .int) false zp_X11_flings zp_X11_flings_0 = true := by decide +kernel
theorem zt_X11_sweeps : zk_code 11 cX11_sweeps 2 (some .int) false zp_X11_sweeps zp_X11_sweeps_0 = true := by decide +kernel
theorem zt_X11_days : zk_code 11 cX11_days 3 (some .int) false zp_X11_days zp_X11_days_0 = true := by decide +kernel
theorem zt_X11_walks : zk_code 11 cX11_walks 3 (some .int) false zp_X11_walks zp_X11_walks_0 = true := by decide +kernel
theorem zt_X11_gives : zk_code 11 cX11_gives 4 (some .int) false zp_X11_gives zp_X11_gives_0 = true := by decide +kernel
theorem zt_X11_falls : zk_code 11 cX11_falls 2 (some .int) false zp_X11_falls zp_X11_falls_0 = true := by decide +kernel
theorem zt_X11_wind : zk_code 11 cX11_wind 2 (some .int) false zp_X11_wind zp_X11_wind_0 = true := by decide +kernel
theorem zt_X11_wedding : zk_code 11 cX11_wedding 7 (some .int) false zp_X11_wedding zp_X11_wedding_0 = true := by decide +kernel
theorem zt_X11_undo : zk_code 11 cX11_undo 1 (some .int) false zp_X11_undo zp_X11_undo_0 = true := by decide +kernel
theorem zt_X11_later : zk_code 11 cX11_later 4 (some .int) false zp_X11_later zp_X11_later_0 = true := by decide +kernel
theorem zt_X11_when : zk_code 11 cX11_when 4 (some .int) false zp_X11_when zp_X11_when_0 = true := by decide +kernel
theorem zt_X11_clean : zk_code 11 cX11_clean 2 (some .int) false zp_X11_clean zp_X11_clean_0 = true := by decide +kernel
theorem zt_X11_drifts : zk_code 11 cX11_drifts 4 (some .int) false zp_X11_drifts zp_X11_drifts_0 = true := by decide +kernel
theorem zt_X11_aims : zk_code 11 cX11_aims 7 (some .int) false zp_X11_aims zp_X11_aims_0 = true := by decide +kernel
theorem zt_X11_prays : zk_code 11 cX11_prays 8 (some .int) false zp_X11_prays zp_X11_prays_0 = true := by decide +kernel
theorem zt_X11_seeks : zk_code 11 cX11_seeks 9 (some .int) false zp_X11_seeks zp_X11_seeks_0 = true := by decide +kernel
theorem zt_X11_whole : zk_code 11 cX11_whole 3 (some .int) false zp_X11_whole zp_X11_whole_0 = true := by decide +kernel
theorem zt_X11_quorum : zk_code 11 cX11_quorum 2 (some .int) false zp_X11_quorum zp_X11_quorum_0 = true := by decide +kernel
theorem zt_X11_awards : zk_code 11 cX11_awards 2 (some .int) false zp_X11_awards zp_X11_awards_0 = true := by decide +kernel
theorem zt_X11_needs : zk_code 11 cX11_needs 5 (some .int) false zp_X11_needs zp_X11_needs_0 = true := by decide +kernel
theorem zt_X11_line : zk_code 11 cX11_line 4 (some .int) false zp_X11_line zp_X11_line_0 = true := by decide +kernel
theorem zt_X11_power : zk_code 11 cX11_power 3 (some .int) false zp_X11_power zp_X11_power_0 = true := by decide +kernel
theorem zt_X11_least : zk_code 11 cX11_least 3 (some .int) false zp_X11_least zp_X11_least_0 = true := by decide +kernel
theorem zt_X11_seen : zk_code 11 cX11_seen 4 (some .int) false zp_X11_seen zp_X11_seen_0 = true := by decide +kernel
theorem zt_X11_forget : zk_code 11 cX11_forget 1 (some .int) false zp_X11_forget zp_X11_forget_0 = true := by decide +kernel
theorem zt_X11_guess : zk_code 11 cX11_guess 2 (some .int) false zp_X11_guess zp_X11_guess_0 = true := by decide +kernel
theorem zt_X11_looks : zk_code 11 cX11_looks 6 (some .int) false zp_X11_looks zp_X11_looks_0 = true := by decide +kernel
theorem zt_X11_heard : zk_code 11 cX11_heard 3 (some .int) false zp_X11_heard zp_X11_heard_0 = true := by decide +kernel
theorem zt_X11_denies : zk_code 11 cX11_denies 1 (some .int) false zp_X11_denies zp_X11_denies_0 = true := by decide +kernel
theorem zt_X11_fits : zk_code 11 cX11_fits 2 (some .int) false zp_X11_fits zp_X11_fits_0 = true := by decide +kernel
theorem zt_X11_asks : zk_code 11 cX11_asks 8 (some .int) false zp_X11_asks zp_X11_asks_0 = true := by decide +kernel
theorem zt_X11_odds : zk_code 11 cX11_odds 8 (some .int) false zp_X11_odds zp_X11_odds_0 = true := by decide +kernel
theorem zt_X11_went : zk_code 11 cX11_went 5 (some .int) false zp_X11_went zp_X11_went_0 = true := by decide +kernel
theorem zt_X11_clears : zk_code 11 cX11_clears 1 (some .int) false zp_X11_clears zp_X11_clears_0 = true := by decide +kernel
theorem zt_X11_scatters : zk_code 11 cX11_scatters 3 (some .int) false zp_X11_scatters zp_X11_scatters_0 = true := by decide +kernel
theorem zt_X11_tries : zk_code 11 cX11_tries 7 (some .int) false zp_X11_tries zp_X11_tries_0 = true := by decide +kernel
theorem zt_X11_handfuls : zk_code 11 cX11_handfuls 2 (some .int) false zp_X11_handfuls zp_X11_handfuls_0 = true := by decide +kernel
theorem zt_X11_other : zk_code 11 cX11_other 5 (some .int) false zp_X11_other zp_X11_other_0 = true := by decide +kernel
theorem zt_X11_grasps : zk_code 11 cX11_grasps 5 (some .int) false zp_X11_grasps zp_X11_grasps_0 = true := by decide +kernel
theorem zt_X11_years : zk_code 11 cX11_years 4 (some .int) false zp_X11_years zp_X11_years_0 = true := by decide +kernel
theorem zt_X11_keep : zk_code 11 cX11_keep 2 (some .boolean) false zp_X11_keep zp_X11_keep_0 = true := by decide +kernel
theorem zt_X11_again : zk_code 11 cX11_again 2 (some .boolean) false zp_X11_again zp_X11_again_0 = true := by decide +kernel
theorem zt_X11_count : zk_code 11 cX11_count 2 (some .int) false zp_X11_count zp_X11_count_0 = true := by decide +kernel
theorem zt_X11_row : zk_code 11 cX11_row 2 (some .long) false zp_X11_row zp_X11_row_0 = true := by decide +kernel
theorem zt_X11_countKept : zk_code 11 cX11_countKept 2 (some .int) false zp_X11_countKept zp_X11_countKept_0 = true := by decide +kernel
theorem zt_X11_readLines : zk_code 11 cX11_readLines 7 (some .int) false zp_X11_readLines zp_X11_readLines_0 = true := by decide +kernel
theorem zt_X11_noted : zk_code 11 cX11_noted 2 (some .int) false zp_X11_noted zp_X11_noted_0 = true := by decide +kernel
theorem zt_X11_dreamOf : zk_code 11 cX11_dreamOf 3 none false zp_X11_dreamOf zp_X11_dreamOf_0 = true := by decide +kernel
theorem zt_X11_winningHandful : zk_code 11 cX11_winningHandful 5 (some .int) false zp_X11_winningHandful zp_X11_winningHandful_0 = true := by decide +kernel
theorem zt_X11_handfulOutOf : zk_code 11 cX11_handfulOutOf 4 (some .int) false zp_X11_handfulOutOf zp_X11_handfulOutOf_0 = true := by decide +kernel
theorem zt_X11_isContent : zk_code 11 cX11_isContent 4 (some .boolean) false zp_X11_isContent zp_X11_isContent_0 = true := by decide +kernel
theorem zt_X11_grasped : zk_code 11 cX11_grasped 3 (some .int) false zp_X11_grasped zp_X11_grasped_0 = true := by decide +kernel
theorem zt_X11_isWithin : zk_code 11 cX11_isWithin 3 (some .boolean) false zp_X11_isWithin zp_X11_isWithin_0 = true := by decide +kernel
theorem zt_X12_in : zk_code 12 cX12_in 6 (some .boolean) false zp_X12_in zp_X12_in_0 = true := by decide +kernel
theorem zt_X12_has : zk_code 12 cX12_has 2 (some .boolean) false zp_X12_has zp_X12_has_0 = true := by decide +kernel
theorem zt_X12_flag : zk_code 12 cX12_flag 1 (some .int) false zp_X12_flag zp_X12_flag_0 = true := by decide +kernel
theorem zt_X12_enters : zk_code 12 cX12_enters 3 none false zp_X12_enters zp_X12_enters_0 = true := by decide +kernel
theorem zt_X12_init : zk_code 12 cX12_init 2 none true zp_X12_init zp_X12_init_0 = true := by decide +kernel
theorem zt_X12_isLaw : zk_code 12 cX12_isLaw 2 (some .boolean) false zp_X12_isLaw zp_X12_isLaw_0 = true := by decide +kernel
theorem zt_X12_isBit : zk_code 12 cX12_isBit 3 (some .boolean) false zp_X12_isBit zp_X12_isBit_0 = true := by decide +kernel
theorem zt_X12_isOne : zk_code 12 cX12_isOne 2 (some .boolean) false zp_X12_isOne zp_X12_isOne_0 = true := by decide +kernel
theorem zt_X12_all : zk_code 12 cX12_all 1 (some .int) false zp_X12_all zp_X12_all_0 = true := by decide +kernel
theorem zt_X12_lies : zk_code 12 cX12_lies 2 (some .boolean) false zp_X12_lies zp_X12_lies_0 = true := by decide +kernel
theorem zt_X12_heldMany : zk_code 12 cX12_heldMany 4 (some .int) false zp_X12_heldMany zp_X12_heldMany_0 = true := by decide +kernel
theorem zt_X12_lieMany : zk_code 12 cX12_lieMany 3 (some .int) false zp_X12_lieMany zp_X12_lieMany_0 = true := by decide +kernel
theorem zt_X12_rights : zk_code 12 cX12_rights 5 (some .int) false zp_X12_rights zp_X12_rights_0 = true := by decide +kernel
theorem zt_X12_copies : zk_code 12 cX12_copies 3 none false zp_X12_copies zp_X12_copies_0 = true := by decide +kernel
theorem zt_X12_sign : zk_code 12 cX12_sign 3 (some .int) false zp_X12_sign zp_X12_sign_0 = true := by decide +kernel
theorem zt_X12_end : zk_code 12 cX12_end 2 (some .boolean) false zp_X12_end zp_X12_end_0 = true := by decide +kernel
theorem zt_X12_begins : zk_code 12 cX12_begins 3 (some .int) false zp_X12_begins zp_X12_begins_0 = true := by decide +kernel
theorem zt_X12_faultOf : zk_code 12 cX12_faultOf 5 (some .int) false zp_X12_faultOf zp_X12_faultOf_0 = true := by decide +kernel
theorem zt_X12_readsLines : zk_code 12 cX12_readsLines 8 (some .int) false zp_X12_readsLines zp_X12_readsLines_0 = true := by decide +kernel
theorem zt_X12_came : zk_code 12 cX12_came 1 (some .int) false zp_X12_came zp_X12_came_0 = true := by decide +kernel
theorem zt_X12_laws : zk_code 12 cX12_laws 3 (some .int) false zp_X12_laws zp_X12_laws_0 = true := by decide +kernel
theorem zt_X12_people : zk_code 12 cX12_people 3 (some .int) false zp_X12_people zp_X12_people_0 = true := by decide +kernel
theorem zt_X12_readsRule : zk_code 12 cX12_readsRule 3 (some .int) false zp_X12_readsRule zp_X12_readsRule_0 = true := by decide +kernel
theorem zt_X12_laysCode : zk_code 12 cX12_laysCode 4 none false zp_X12_laysCode zp_X12_laysCode_0 = true := by decide +kernel
theorem zt_X12_rule : zk_code 12 cX12_rule 2 (some .int) false zp_X12_rule zp_X12_rule_0 = true := by decide +kernel
theorem zt_X12_lyingIn : zk_code 12 cX12_lyingIn 4 (some .int) false zp_X12_lyingIn zp_X12_lyingIn_0 = true := by decide +kernel
theorem zt_X12_sheet : zk_code 12 cX12_sheet 9 (some .int) false zp_X12_sheet zp_X12_sheet_0 = true := by decide +kernel
theorem zt_X12_putsBy : zk_code 12 cX12_putsBy 2 none false zp_X12_putsBy zp_X12_putsBy_0 = true := by decide +kernel
theorem zt_X12_adds : zk_code 12 cX12_adds 3 (some .int) false zp_X12_adds zp_X12_adds_0 = true := by decide +kernel
theorem zt_X12_counted : zk_code 12 cX12_counted 2 (some .int) false zp_X12_counted zp_X12_counted_0 = true := by decide +kernel
theorem zt_X12_undo : zk_code 12 cX12_undo 2 (some .int) false zp_X12_undo zp_X12_undo_0 = true := by decide +kernel
theorem zt_X12_dayGoes : zk_code 12 cX12_dayGoes 5 (some .int) false zp_X12_dayGoes zp_X12_dayGoes_0 = true := by decide +kernel
theorem zt_X12_goesOn : zk_code 12 cX12_goesOn 5 (some .int) false zp_X12_goesOn zp_X12_goesOn_0 = true := by decide +kernel
theorem zt_X12_carriesOne : zk_code 12 cX12_carriesOne 2 (some .int) false zp_X12_carriesOne zp_X12_carriesOne_0 = true := by decide +kernel
theorem zt_X12_flingsOne : zk_code 12 cX12_flingsOne 3 (some .int) false zp_X12_flingsOne zp_X12_flingsOne_0 = true := by decide +kernel
theorem zt_X12_sweepsOne : zk_code 12 cX12_sweepsOne 4 (some .int) false zp_X12_sweepsOne zp_X12_sweepsOne_0 = true := by decide +kernel
theorem zt_X12_walksOne : zk_code 12 cX12_walksOne 4 (some .int) false zp_X12_walksOne zp_X12_walksOne_0 = true := by decide +kernel
theorem zt_X12_givesAll : zk_code 12 cX12_givesAll 5 (some .int) false zp_X12_givesAll zp_X12_givesAll_0 = true := by decide +kernel
theorem zt_X12_fallsFrom : zk_code 12 cX12_fallsFrom 2 (some .int) false zp_X12_fallsFrom zp_X12_fallsFrom_0 = true := by decide +kernel
theorem zt_X12_windTo : zk_code 12 cX12_windTo 3 (some .int) false zp_X12_windTo zp_X12_windTo_0 = true := by decide +kernel
theorem zt_X12_carries : zk_code 12 cX12_carries 2 (some .int) false zp_X12_carries zp_X12_carries_0 = true := by decide +kernel
theorem zt_X12_flings : zk_code 12 cX12_flings 3 (some .int) false zp_X12_flings zp_X12_flings_0 = true := by decide +kernel
theorem zt_X12_sweeps : zk_code 12 cX12_sweeps 2 (some .int) false zp_X12_sweeps zp_X12_sweeps_0 = true := by decide +kernel
theorem zt_X12_days : zk_code 12 cX12_days 3 (some .int) false zp_X12_days zp_X12_days_0 = true := by decide +kernel
theorem zt_X12_walks : zk_code 12 cX12_walks 3 (some .int) false zp_X12_walks zp_X12_walks_0 = true := by decide +kernel
theorem zt_X12_gives : zk_code 12 cX12_gives 4 (some .int) false zp_X12_gives zp_X12_gives_0 = true := by decide +kernel
theorem zt_X12_falls : zk_code 12 cX12_falls 2 (some .int) false zp_X12_falls zp_X12_falls_0 = true := by decide +kernel
theorem zt_X12_wind : zk_code 12 cX12_wind 2 (some .int) false zp_X12_wind zp_X12_wind_0 = true := by decide +kernel
theorem zt_X12_wedding : zk_code 12 cX12_wedding 5 (some .int) false zp_X12_wedding zp_X12_wedding_0 = true := by decide +kernel
theorem zt_X12_later : zk_code 12 cX12_later 4 (some .int) false zp_X12_later zp_X12_later_0 = true := by decide +kernel
theorem zt_X12_when : zk_code 12 cX12_when 4 (some .int) false zp_X12_when zp_X12_when_0 = true := by decide +kernel
theorem zt_X12_clean : zk_code 12 cX12_clean 2 (some .int) false zp_X12_clean zp_X12_clean_0 = true := by decide +kernel
theorem zt_X12_drifts : zk_code 12 cX12_drifts 4 (some .int) false zp_X12_drifts zp_X12_drifts_0 = true := by decide +kernel
theorem zt_X12_aims : zk_code 12 cX12_aims 8 (some .int) false zp_X12_aims zp_X12_aims_0 = true := by decide +kernel
theorem zt_X12_prays : zk_code 12 cX12_prays 5 (some .int) false zp_X12_prays zp_X12_prays_0 = true := by decide +kernel
theorem zt_X12_seeks : zk_code 12 cX12_seeks 8 (some .int) false zp_X12_seeks zp_X12_seeks_0 = true := by decide +kernel
theorem zt_X12_whole : zk_code 12 cX12_whole 4 (some .int) false zp_X12_whole zp_X12_whole_0 = true := by decide +kernel
theorem zt_X12_holdsOfAll : zk_code 12 cX12_holdsOfAll 4 (some .boolean) false zp_X12_holdsOfAll zp_X12_holdsOfAll_0 = true := by decide +kernel
theorem zt_X12_quorum : zk_code 12 cX12_quorum 4 (some .int) false zp_X12_quorum zp_X12_quorum_0 = true := by decide +kernel
theorem zt_X12_awardsFrom : zk_code 12 cX12_awardsFrom 5 none false zp_X12_awardsFrom zp_X12_awardsFrom_0 = true := by decide +kernel
theorem zt_X12_awards : zk_code 12 cX12_awards 2 (some .int) false zp_X12_awards zp_X12_awards_0 = true := by decide +kernel
theorem zt_X12_needs : zk_code 12 cX12_needs 6 (some .int) false zp_X12_needs zp_X12_needs_0 = true := by decide +kernel
theorem zt_X12_line : zk_code 12 cX12_line 3 (some .int) false zp_X12_line zp_X12_line_0 = true := by decide +kernel
theorem zt_X12_carriesIt : zk_code 12 cX12_carriesIt 4 (some .boolean) false zp_X12_carriesIt zp_X12_carriesIt_0 = true := by decide +kernel
theorem zt_X12_power : zk_code 12 cX12_power 4 (some .int) false zp_X12_power zp_X12_power_0 = true := by decide +kernel
theorem zt_X12_least : zk_code 12 cX12_least 5 (some .int) false zp_X12_least zp_X12_least_0 = true := by decide +kernel
theorem zt_X12_seen : zk_code 12 cX12_seen 4 (some .int) false zp_X12_seen zp_X12_seen_0 = true := by decide +kernel
theorem zt_X12_forget : zk_code 12 cX12_forget 2 (some .int) false zp_X12_forget zp_X12_forget_0 = true := by decide +kernel
theorem zt_X12_winds : zk_code 12 cX12_winds 5 (some .int) false zp_X12_winds zp_X12_winds_0 = true := by decide +kernel
theorem zt_X12_guess : zk_code 12 cX12_guess 2 (some .int) false zp_X12_guess zp_X12_guess_0 = true := by decide +kernel
theorem zt_X12_looks : zk_code 12 cX12_looks 9 (some .int) false zp_X12_looks zp_X12_looks_0 = true := by decide +kernel
theorem zt_X12_highest : zk_code 12 cX12_highest 1 (some .int) false zp_X12_highest zp_X12_highest_0 = true := by decide +kernel
theorem zt_X12_heard : zk_code 12 cX12_heard 3 (some .int) false zp_X12_heard zp_X12_heard_0 = true := by decide +kernel
theorem zt_X12_denies : zk_code 12 cX12_denies 2 (some .int) false zp_X12_denies zp_X12_denies_0 = true := by decide +kernel
theorem zt_X12_fitting : zk_code 12 cX12_fitting 5 (some .int) false zp_X12_fitting zp_X12_fitting_0 = true := by decide +kernel
theorem zt_X12_fits : zk_code 12 cX12_fits 2 (some .int) false zp_X12_fits zp_X12_fits_0 = true := by decide +kernel
theorem zt_X12_asks : zk_code 12 cX12_asks 8 (some .int) false zp_X12_asks zp_X12_asks_0 = true := by decide +kernel
theorem zt_X12_odds : zk_code 12 cX12_odds 13 (some .int) false zp_X12_odds zp_X12_odds_0 = true := by decide +kernel
theorem zt_X12_went : zk_code 12 cX12_went 4 (some .int) false zp_X12_went zp_X12_went_0 = true := by decide +kernel
theorem zt_X12_clears : zk_code 12 cX12_clears 2 (some .int) false zp_X12_clears zp_X12_clears_0 = true := by decide +kernel
theorem zt_X12_goesBy : zk_code 12 cX12_goesBy 3 (some .int) false zp_X12_goesBy zp_X12_goesBy_0 = true := by decide +kernel
theorem zt_X12_isScatter : zk_code 12 cX12_isScatter 4 (some .boolean) false zp_X12_isScatter zp_X12_isScatter_0 = true := by decide +kernel
theorem zt_X12_scatters : zk_code 12 cX12_scatters 4 (some .int) false zp_X12_scatters zp_X12_scatters_0 = true := by decide +kernel
theorem zt_X12_tries : zk_code 12 cX12_tries 8 (some .int) false zp_X12_tries zp_X12_tries_0 = true := by decide +kernel
theorem zt_X12_handfuls : zk_code 12 cX12_handfuls 5 (some .int) false zp_X12_handfuls zp_X12_handfuls_0 = true := by decide +kernel
theorem zt_X12_other : zk_code 12 cX12_other 6 (some .int) false zp_X12_other zp_X12_other_0 = true := by decide +kernel
theorem zt_X12_gets : zk_code 12 cX12_gets 3 (some .int) false zp_X12_gets zp_X12_gets_0 = true := by decide +kernel
theorem zt_X12_isRest : zk_code 12 cX12_isRest 5 (some .boolean) false zp_X12_isRest zp_X12_isRest_0 = true := by decide +kernel
theorem zt_X12_grasps : zk_code 12 cX12_grasps 5 (some .int) false zp_X12_grasps zp_X12_grasps_0 = true := by decide +kernel
theorem zt_X12_draws : zk_code 12 cX12_draws 2 (some .int) false zp_X12_draws zp_X12_draws_0 = true := by decide +kernel
theorem zt_X12_years : zk_code 12 cX12_years 7 (some .int) false zp_X12_years zp_X12_years_0 = true := by decide +kernel
theorem zt_X12_keep : zk_code 12 cX12_keep 3 (some .boolean) false zp_X12_keep zp_X12_keep_0 = true := by decide +kernel
theorem zt_X12_again : zk_code 12 cX12_again 3 (some .boolean) false zp_X12_again zp_X12_again_0 = true := by decide +kernel
theorem zt_X12_count : zk_code 12 cX12_count 2 (some .int) false zp_X12_count zp_X12_count_0 = true := by decide +kernel
theorem zt_J6_bitCount_0f7a4 : zk_code 13 cJ6_bitCount_0f7a4 1 (some .int) false zp_J6_bitCount_0f7a4 zp_J6_bitCount_0f7a4_0 = true := by decide +kernel
theorem zt_J9_max_7cf53 : zk_code 14 cJ9_max_7cf53 2 (some .int) false zp_J9_max_7cf53 zp_J9_max_7cf53_0 = true := by decide +kernel
theorem zt_J9_min_7cf53 : zk_code 14 cJ9_min_7cf53 2 (some .int) false zp_J9_min_7cf53 zp_J9_min_7cf53_0 = true := by decide +kernel
end
section
/-! the tables agree -/
theorem zpn_0 : plainName "ConfettiMinutes$Flights" = true := by decide +kernel
theorem zpn_1 : plainName "ConfettiMinutes$Hearsay" = true := by decide +kernel
theorem zpn_2 : plainName "ConfettiMinutes$Ledger" = true := by decide +kernel
theorem zpn_3 : plainName "ConfettiMinutes$Past" = true := by decide +kernel
theorem zpn_4 : plainName "ConfettiMinutes$Row" = true := by decide +kernel
theorem zpn_5 : plainName "ConfettiMinutes$Rule" = true := by decide +kernel
theorem zpn_6 : plainName "ConfettiMinutes$Script" = true := by decide +kernel
theorem zpn_7 : plainName "ConfettiMinutes$Shares" = true := by decide +kernel
theorem zpn_8 : plainName "ConfettiMinutes$Sights" = true := by decide +kernel
theorem zpn_9 : plainName "ConfettiMinutes$Town" = true := by decide +kernel
theorem zpn_10 : plainName "ConfettiMinutes$Weather" = true := by decide +kernel
theorem zpn_11 : plainName "ConfettiMinutes" = true := by decide +kernel
theorem zpn_12 : plainName "ConfettiMinutesModel" = true := by decide +kernel
theorem zpn_13 : plainName "java/lang/Integer" = true := by decide +kernel
theorem zpn_14 : plainName "java/lang/Math" = true := by decide +kernel
theorem zpn_15 : plainName "ConfettiMinutesLaw" = true := by decide +kernel
theorem zq_X0_init : ZP (zp_X0_init, 1, 2, 39) (yX0_init, cX0_init, 1, none, 0, 2, 39) := by
  have h0 := zt_X0_init
  exact ⟨rfl, rfl, rfl, zpn_0, rfl, true, fun _ => rfl, zk_mem1 h0 (zk_mem0), _, _, rfl, rfl⟩
theorem zq_X0_timesWind : ZP (zp_X0_timesWind, 1, 0, 0) (yX0_timesWind, cX0_timesWind, 1, (some .int), 0, 0, 0) := by
  have h0 := zt_X0_timesWind
  exact ⟨rfl, rfl, rfl, zpn_0, rfl, false, fun h => by cases h, zk_mem1 h0 (zk_mem0), _, _, rfl, rfl⟩
theorem zq_X0_timesNumber : ZP (zp_X0_timesNumber, 1, 0, 0) (yX0_timesNumber, cX0_timesNumber, 1, (some .int), 0, 0, 0) := by
  have h0 := zt_X0_timesNumber
  exact ⟨rfl, rfl, rfl, zpn_0, rfl, false, fun h => by cases h, zk_mem1 h0 (zk_mem0), _, _, rfl, rfl⟩
theorem zq_X0_firstOf : ZP (zp_X0_firstOf, 2, 0, 0) (yX0_firstOf, cX0_firstOf, 2, (some .int), 0, 0, 0) := by
  have h0 := zt_X0_firstOf
  exact ⟨rfl, rfl, rfl, zpn_0, rfl, false, fun h => by cases h, zk_mem1 h0 (zk_mem0), _, _, rfl, rfl⟩
theorem zq_X0_wayBy : ZP (zp_X0_wayBy, 3, 0, 0) (yX0_wayBy, cX0_wayBy, 3, (some .int), 0, 0, 0) := by
  have h0 := zt_X0_wayBy
  exact ⟨rfl, rfl, rfl, zpn_0, rfl, false, fun h => by cases h, zk_mem1 h0 (zk_mem0), _, _, rfl, rfl⟩
theorem zq_X0_lawsLeft : ZP (zp_X0_lawsLeft, 3, 0, 0) (yX0_lawsLeft, cX0_lawsLeft, 3, (some .int), 0, 0, 0) := by
  have h0 := zt_X0_lawsLeft
  have h1 := zk_drop 16 zp_X0_lawsLeft_0 zp_X0_lawsLeft_1 h0 rfl
  exact ⟨rfl, rfl, rfl, zpn_0, rfl, false, fun h => by cases h, zk_mem1 h0 (zk_mem1 h1 (zk_mem0)), _, _, rfl, rfl⟩
theorem zq_X0_suits : ZP (zp_X0_suits, 3, 0, 0) (yX0_suits, cX0_suits, 3, (some .boolean), 0, 0, 0) := by
  have h0 := zt_X0_suits
  have h1 := zk_drop 16 zp_X0_suits_0 zp_X0_suits_1 h0 rfl
  exact ⟨rfl, rfl, rfl, zpn_0, rfl, false, fun h => by cases h, zk_mem1 h0 (zk_mem1 h1 (zk_mem0)), _, _, rfl, rfl⟩
theorem zq_X0_mostLeft : ZP (zp_X0_mostLeft, 8, 0, 0) (yX0_mostLeft, cX0_mostLeft, 8, (some .int), 0, 0, 0) := by
  have h0 := zt_X0_mostLeft
  have h1 := zk_drop 16 zp_X0_mostLeft_0 zp_X0_mostLeft_1 h0 rfl
  have h2 := zk_drop 16 zp_X0_mostLeft_1 zp_X0_mostLeft_2 h1 rfl
  have h3 := zk_drop 16 zp_X0_mostLeft_2 zp_X0_mostLeft_3 h2 rfl
  exact ⟨rfl, rfl, rfl, zpn_0, rfl, false, fun h => by cases h, zk_mem1 h0 (zk_mem1 h1 (zk_mem1 h2 (zk_mem1 h3 (zk_mem0)))), _, _, rfl, rfl⟩
theorem zq_X1_init : ZP (zp_X1_init, 1, 2, 39) (yX1_init, cX1_init, 1, none, 1, 2, 39) := by
  have h0 := zt_X1_init
  exact ⟨rfl, rfl, rfl, zpn_1, rfl, true, fun _ => rfl, zk_mem1 h0 (zk_mem0), _, _, rfl, rfl⟩
theorem zq_X1_isTalk : ZP (zp_X1_isTalk, 2, 0, 0) (yX1_isTalk, cX1_isTalk, 2, (some .boolean), 1, 0, 0) := by
  have h0 := zt_X1_isTalk
  have h1 := zk_drop 16 zp_X1_isTalk_0 zp_X1_isTalk_1 h0 rfl
  exact ⟨rfl, rfl, rfl, zpn_1, rfl, false, fun h => by cases h, zk_mem1 h0 (zk_mem1 h1 (zk_mem0)), _, _, rfl, rfl⟩
theorem zq_X1_peopleLeft : ZP (zp_X1_peopleLeft, 4, 0, 0) (yX1_peopleLeft, cX1_peopleLeft, 4, (some .int), 1, 0, 0) := by
  have h0 := zt_X1_peopleLeft
  have h1 := zk_drop 16 zp_X1_peopleLeft_0 zp_X1_peopleLeft_1 h0 rfl
  exact ⟨rfl, rfl, rfl, zpn_1, rfl, false, fun h => by cases h, zk_mem1 h0 (zk_mem1 h1 (zk_mem0)), _, _, rfl, rfl⟩
theorem zq_X2_init : ZP (zp_X2_init, 2, 1, 36) (yX2_init, cX2_init, 2, none, 2, 1, 36) := by
  have h0 := zt_X2_init
  exact ⟨rfl, rfl, rfl, zpn_2, rfl, true, fun _ => rfl, zk_mem1 h0 (zk_mem0), _, _, rfl, rfl⟩
theorem zq_X2_size : ZP (zp_X2_size, 1, 0, 0) (yX2_size, cX2_size, 1, (some .int), 2, 0, 0) := by
  have h0 := zt_X2_size
  exact ⟨rfl, rfl, rfl, zpn_2, rfl, false, fun h => by cases h, zk_mem1 h0 (zk_mem0), _, _, rfl, rfl⟩
theorem zq_X2_add : ZP (zp_X2_add, 5, 0, 0) (yX2_add, cX2_add, 5, (some .int), 2, 0, 0) := by
  have h0 := zt_X2_add
  have h1 := zk_drop 16 zp_X2_add_0 zp_X2_add_1 h0 rfl
  have h2 := zk_drop 16 zp_X2_add_1 zp_X2_add_2 h1 rfl
  exact ⟨rfl, rfl, rfl, zpn_2, rfl, false, fun h => by cases h, zk_mem1 h0 (zk_mem1 h1 (zk_mem1 h2 (zk_mem0))), _, _, rfl, rfl⟩
theorem zq_X2_empty : ZP (zp_X2_empty, 2, 0, 0) (yX2_empty, cX2_empty, 2, (some .int), 2, 0, 0) := by
  have h0 := zt_X2_empty
  exact ⟨rfl, rfl, rfl, zpn_2, rfl, false, fun h => by cases h, zk_mem1 h0 (zk_mem0), _, _, rfl, rfl⟩
theorem zq_X3_init : ZP (zp_X3_init, 2, 74, 720) (yX3_init, cX3_init, 2, none, 3, 74, 720) := by
  have h0 := zt_X3_init
  have h1 := zk_drop 16 zp_X3_init_0 zp_X3_init_1 h0 rfl
  have h2 := zk_drop 16 zp_X3_init_1 zp_X3_init_2 h1 rfl
  exact ⟨rfl, rfl, rfl, zpn_3, rfl, true, fun _ => rfl, zk_mem1 h0 (zk_mem1 h1 (zk_mem1 h2 (zk_mem0))), _, _, rfl, rfl⟩
theorem zq_X3_size : ZP (zp_X3_size, 1, 0, 0) (yX3_size, cX3_size, 1, (some .int), 3, 0, 0) := by
  have h0 := zt_X3_size
  exact ⟨rfl, rfl, rfl, zpn_3, rfl, false, fun h => by cases h, zk_mem1 h0 (zk_mem0), _, _, rfl, rfl⟩
theorem zq_X3_push : ZP (zp_X3_push, 3, 0, 0) (yX3_push, cX3_push, 3, none, 3, 0, 0) := by
  have h0 := zt_X3_push
  have h1 := zk_drop 16 zp_X3_push_0 zp_X3_push_1 h0 rfl
  have h2 := zk_drop 16 zp_X3_push_1 zp_X3_push_2 h1 rfl
  exact ⟨rfl, rfl, rfl, zpn_3, rfl, false, fun h => by cases h, zk_mem1 h0 (zk_mem1 h1 (zk_mem1 h2 (zk_mem0))), _, _, rfl, rfl⟩
theorem zq_X3_pop : ZP (zp_X3_pop, 3, 0, 0) (yX3_pop, cX3_pop, 3, (some .int), 3, 0, 0) := by
  have h0 := zt_X3_pop
  have h1 := zk_drop 16 zp_X3_pop_0 zp_X3_pop_1 h0 rfl
  exact ⟨rfl, rfl, rfl, zpn_3, rfl, false, fun h => by cases h, zk_mem1 h0 (zk_mem1 h1 (zk_mem0)), _, _, rfl, rfl⟩
theorem zq_X3_deedAt : ZP (zp_X3_deedAt, 3, 0, 0) (yX3_deedAt, cX3_deedAt, 3, (some (.object "ConfettiMinutes$Town")), 3, 0, 0) := by
  have h0 := zt_X3_deedAt
  exact ⟨rfl, rfl, rfl, zpn_3, rfl, false, fun h => by cases h, zk_mem1 h0 (zk_mem0), _, _, rfl, rfl⟩
theorem zq_X3_store : ZP (zp_X3_store, 3, 0, 0) (yX3_store, cX3_store, 3, (some .boolean), 3, 0, 0) := by
  have h0 := zt_X3_store
  have h1 := zk_drop 16 zp_X3_store_0 zp_X3_store_1 h0 rfl
  exact ⟨rfl, rfl, rfl, zpn_3, rfl, false, fun h => by cases h, zk_mem1 h0 (zk_mem1 h1 (zk_mem0)), _, _, rfl, rfl⟩
theorem zq_X3_bringBack : ZP (zp_X3_bringBack, 3, 0, 0) (yX3_bringBack, cX3_bringBack, 3, (some .boolean), 3, 0, 0) := by
  have h0 := zt_X3_bringBack
  have h1 := zk_drop 16 zp_X3_bringBack_0 zp_X3_bringBack_1 h0 rfl
  exact ⟨rfl, rfl, rfl, zpn_3, rfl, false, fun h => by cases h, zk_mem1 h0 (zk_mem1 h1 (zk_mem0)), _, _, rfl, rfl⟩
theorem zq_X4_init : ZP (zp_X4_init, 1, 1, 12) (yX4_init, cX4_init, 1, none, 4, 1, 12) := by
  have h0 := zt_X4_init
  exact ⟨rfl, rfl, rfl, zpn_4, rfl, true, fun _ => rfl, zk_mem1 h0 (zk_mem0), _, _, rfl, rfl⟩
theorem zq_X4_size : ZP (zp_X4_size, 1, 0, 0) (yX4_size, cX4_size, 1, (some .int), 4, 0, 0) := by
  have h0 := zt_X4_size
  exact ⟨rfl, rfl, rfl, zpn_4, rfl, false, fun h => by cases h, zk_mem1 h0 (zk_mem0), _, _, rfl, rfl⟩
theorem zq_X4_clear : ZP (zp_X4_clear, 1, 0, 0) (yX4_clear, cX4_clear, 1, none, 4, 0, 0) := by
  have h0 := zt_X4_clear
  exact ⟨rfl, rfl, rfl, zpn_4, rfl, false, fun h => by cases h, zk_mem1 h0 (zk_mem0), _, _, rfl, rfl⟩
theorem zq_X4_add : ZP (zp_X4_add, 3, 0, 0) (yX4_add, cX4_add, 3, none, 4, 0, 0) := by
  have h0 := zt_X4_add
  have h1 := zk_drop 16 zp_X4_add_0 zp_X4_add_1 h0 rfl
  exact ⟨rfl, rfl, rfl, zpn_4, rfl, false, fun h => by cases h, zk_mem1 h0 (zk_mem1 h1 (zk_mem0)), _, _, rfl, rfl⟩
theorem zq_X4_tell : ZP (zp_X4_tell, 3, 0, 0) (yX4_tell, cX4_tell, 3, none, 4, 0, 0) := by
  have h0 := zt_X4_tell
  exact ⟨rfl, rfl, rfl, zpn_4, rfl, false, fun h => by cases h, zk_mem1 h0 (zk_mem0), _, _, rfl, rfl⟩
theorem zq_X4_tell_ : ZP (zp_X4_tell_, 5, 0, 0) (yX4_tell_, cX4_tell_, 5, none, 4, 0, 0) := by
  have h0 := zt_X4_tell_
  exact ⟨rfl, rfl, rfl, zpn_4, rfl, false, fun h => by cases h, zk_mem1 h0 (zk_mem0), _, _, rfl, rfl⟩
theorem zq_X5_init : ZP (zp_X5_init, 1, 4, 127) (yX5_init, cX5_init, 1, none, 5, 4, 127) := by
  have h0 := zt_X5_init
  have h1 := zk_drop 16 zp_X5_init_0 zp_X5_init_1 h0 rfl
  exact ⟨rfl, rfl, rfl, zpn_5, rfl, true, fun _ => rfl, zk_mem1 h0 (zk_mem1 h1 (zk_mem0)), _, _, rfl, rfl⟩
theorem zq_X5_read : ZP (zp_X5_read, 6, 0, 0) (yX5_read, cX5_read, 6, (some .int), 5, 0, 0) := by
  have h0 := zt_X5_read
  have h1 := zk_drop 16 zp_X5_read_0 zp_X5_read_1 h0 rfl
  have h2 := zk_drop 16 zp_X5_read_1 zp_X5_read_2 h1 rfl
  have h3 := zk_drop 16 zp_X5_read_2 zp_X5_read_3 h2 rfl
  have h4 := zk_drop 16 zp_X5_read_3 zp_X5_read_4 h3 rfl
  exact ⟨rfl, rfl, rfl, zpn_5, rfl, false, fun h => by cases h, zk_mem1 h0 (zk_mem1 h1 (zk_mem1 h2 (zk_mem1 h3 (zk_mem1 h4 (zk_mem0))))), _, _, rfl, rfl⟩
theorem zq_X6_init : ZP (zp_X6_init, 1, 1, 80) (yX6_init, cX6_init, 1, none, 6, 1, 80) := by
  have h0 := zt_X6_init
  exact ⟨rfl, rfl, rfl, zpn_6, rfl, true, fun _ => rfl, zk_mem1 h0 (zk_mem0), _, _, rfl, rfl⟩
theorem zq_X6_length : ZP (zp_X6_length, 1, 0, 0) (yX6_length, cX6_length, 1, (some .int), 6, 0, 0) := by
  have h0 := zt_X6_length
  exact ⟨rfl, rfl, rfl, zpn_6, rfl, false, fun h => by cases h, zk_mem1 h0 (zk_mem0), _, _, rfl, rfl⟩
theorem zq_X6_append : ZP (zp_X6_append, 3, 0, 0) (yX6_append, cX6_append, 3, (some .int), 6, 0, 0) := by
  have h0 := zt_X6_append
  have h1 := zk_drop 16 zp_X6_append_0 zp_X6_append_1 h0 rfl
  exact ⟨rfl, rfl, rfl, zpn_6, rfl, false, fun h => by cases h, zk_mem1 h0 (zk_mem1 h1 (zk_mem0)), _, _, rfl, rfl⟩
theorem zq_X6_cut : ZP (zp_X6_cut, 2, 0, 0) (yX6_cut, cX6_cut, 2, (some .boolean), 6, 0, 0) := by
  have h0 := zt_X6_cut
  exact ⟨rfl, rfl, rfl, zpn_6, rfl, false, fun h => by cases h, zk_mem1 h0 (zk_mem0), _, _, rfl, rfl⟩
theorem zq_X6_take : ZP (zp_X6_take, 2, 0, 0) (yX6_take, cX6_take, 2, (some .int), 6, 0, 0) := by
  have h0 := zt_X6_take
  exact ⟨rfl, rfl, rfl, zpn_6, rfl, false, fun h => by cases h, zk_mem1 h0 (zk_mem0), _, _, rfl, rfl⟩
theorem zq_X6_faultOfWedding : ZP (zp_X6_faultOfWedding, 6, 0, 0) (yX6_faultOfWedding, cX6_faultOfWedding, 6, (some .int), 6, 0, 0) := by
  have h0 := zt_X6_faultOfWedding
  have h1 := zk_drop 16 zp_X6_faultOfWedding_0 zp_X6_faultOfWedding_1 h0 rfl
  have h2 := zk_drop 16 zp_X6_faultOfWedding_1 zp_X6_faultOfWedding_2 h1 rfl
  have h3 := zk_drop 16 zp_X6_faultOfWedding_2 zp_X6_faultOfWedding_3 h2 rfl
  exact ⟨rfl, rfl, rfl, zpn_6, rfl, false, fun h => by cases h, zk_mem1 h0 (zk_mem1 h1 (zk_mem1 h2 (zk_mem1 h3 (zk_mem0)))), _, _, rfl, rfl⟩
theorem zq_X7_init : ZP (zp_X7_init, 1, 3, 202) (yX7_init, cX7_init, 1, none, 7, 3, 202) := by
  have h0 := zt_X7_init
  exact ⟨rfl, rfl, rfl, zpn_7, rfl, true, fun _ => rfl, zk_mem1 h0 (zk_mem0), _, _, rfl, rfl⟩
theorem zq_X7_lawsHeld : ZP (zp_X7_lawsHeld, 4, 0, 0) (yX7_lawsHeld, cX7_lawsHeld, 4, (some .int), 7, 0, 0) := by
  have h0 := zt_X7_lawsHeld
  have h1 := zk_drop 16 zp_X7_lawsHeld_0 zp_X7_lawsHeld_1 h0 rfl
  exact ⟨rfl, rfl, rfl, zpn_7, rfl, false, fun h => by cases h, zk_mem1 h0 (zk_mem1 h1 (zk_mem0)), _, _, rfl, rfl⟩
theorem zq_X7_hittingSet : ZP (zp_X7_hittingSet, 5, 0, 0) (yX7_hittingSet, cX7_hittingSet, 5, (some .int), 7, 0, 0) := by
  have h0 := zt_X7_hittingSet
  have h1 := zk_drop 16 zp_X7_hittingSet_0 zp_X7_hittingSet_1 h0 rfl
  have h2 := zk_drop 16 zp_X7_hittingSet_1 zp_X7_hittingSet_2 h1 rfl
  exact ⟨rfl, rfl, rfl, zpn_7, rfl, false, fun h => by cases h, zk_mem1 h0 (zk_mem1 h1 (zk_mem1 h2 (zk_mem0))), _, _, rfl, rfl⟩
theorem zq_X7_hitsAll : ZP (zp_X7_hitsAll, 3, 0, 0) (yX7_hitsAll, cX7_hitsAll, 3, (some .boolean), 7, 0, 0) := by
  have h0 := zt_X7_hitsAll
  have h1 := zk_drop 16 zp_X7_hitsAll_0 zp_X7_hitsAll_1 h0 rfl
  exact ⟨rfl, rfl, rfl, zpn_7, rfl, false, fun h => by cases h, zk_mem1 h0 (zk_mem1 h1 (zk_mem0)), _, _, rfl, rfl⟩
theorem zq_X7_weighAwards : ZP (zp_X7_weighAwards, 6, 0, 0) (yX7_weighAwards, cX7_weighAwards, 6, (some .int), 7, 0, 0) := by
  have h0 := zt_X7_weighAwards
  have h1 := zk_drop 16 zp_X7_weighAwards_0 zp_X7_weighAwards_1 h0 rfl
  have h2 := zk_drop 16 zp_X7_weighAwards_1 zp_X7_weighAwards_2 h1 rfl
  have h3 := zk_drop 16 zp_X7_weighAwards_2 zp_X7_weighAwards_3 h2 rfl
  exact ⟨rfl, rfl, rfl, zpn_7, rfl, false, fun h => by cases h, zk_mem1 h0 (zk_mem1 h1 (zk_mem1 h2 (zk_mem1 h3 (zk_mem0)))), _, _, rfl, rfl⟩
theorem zq_X7_tellAwards : ZP (zp_X7_tellAwards, 6, 0, 0) (yX7_tellAwards, cX7_tellAwards, 6, none, 7, 0, 0) := by
  have h0 := zt_X7_tellAwards
  have h1 := zk_drop 16 zp_X7_tellAwards_0 zp_X7_tellAwards_1 h0 rfl
  have h2 := zk_drop 16 zp_X7_tellAwards_1 zp_X7_tellAwards_2 h1 rfl
  have h3 := zk_drop 16 zp_X7_tellAwards_2 zp_X7_tellAwards_3 h2 rfl
  exact ⟨rfl, rfl, rfl, zpn_7, rfl, false, fun h => by cases h, zk_mem1 h0 (zk_mem1 h1 (zk_mem1 h2 (zk_mem1 h3 (zk_mem0)))), _, _, rfl, rfl⟩
theorem zq_X7_weigh : ZP (zp_X7_weigh, 3, 0, 0) (yX7_weigh, cX7_weigh, 3, none, 7, 0, 0) := by
  have h0 := zt_X7_weigh
  have h1 := zk_drop 16 zp_X7_weigh_0 zp_X7_weigh_1 h0 rfl
  exact ⟨rfl, rfl, rfl, zpn_7, rfl, false, fun h => by cases h, zk_mem1 h0 (zk_mem1 h1 (zk_mem0)), _, _, rfl, rfl⟩
theorem zq_X7_isLeast : ZP (zp_X7_isLeast, 3, 0, 0) (yX7_isLeast, cX7_isLeast, 3, (some .boolean), 7, 0, 0) := by
  have h0 := zt_X7_isLeast
  have h1 := zk_drop 16 zp_X7_isLeast_0 zp_X7_isLeast_1 h0 rfl
  have h2 := zk_drop 16 zp_X7_isLeast_1 zp_X7_isLeast_2 h1 rfl
  exact ⟨rfl, rfl, rfl, zpn_7, rfl, false, fun h => by cases h, zk_mem1 h0 (zk_mem1 h1 (zk_mem1 h2 (zk_mem0))), _, _, rfl, rfl⟩
theorem zq_X7_prevails : ZP (zp_X7_prevails, 4, 0, 0) (yX7_prevails, cX7_prevails, 4, (some .boolean), 7, 0, 0) := by
  have h0 := zt_X7_prevails
  have h1 := zk_drop 16 zp_X7_prevails_0 zp_X7_prevails_1 h0 rfl
  have h2 := zk_drop 16 zp_X7_prevails_1 zp_X7_prevails_2 h1 rfl
  exact ⟨rfl, rfl, rfl, zpn_7, rfl, false, fun h => by cases h, zk_mem1 h0 (zk_mem1 h1 (zk_mem1 h2 (zk_mem0))), _, _, rfl, rfl⟩
theorem zq_X8_init : ZP (zp_X8_init, 1, 3, 47) (yX8_init, cX8_init, 1, none, 8, 3, 47) := by
  have h0 := zt_X8_init
  exact ⟨rfl, rfl, rfl, zpn_8, rfl, true, fun _ => rfl, zk_mem1 h0 (zk_mem0), _, _, rfl, rfl⟩
theorem zq_X8_windsLeft : ZP (zp_X8_windsLeft, 6, 0, 0) (yX8_windsLeft, cX8_windsLeft, 6, (some .int), 8, 0, 0) := by
  have h0 := zt_X8_windsLeft
  have h1 := zk_drop 16 zp_X8_windsLeft_0 zp_X8_windsLeft_1 h0 rfl
  exact ⟨rfl, rfl, rfl, zpn_8, rfl, false, fun h => by cases h, zk_mem1 h0 (zk_mem1 h1 (zk_mem0)), _, _, rfl, rfl⟩
theorem zq_X8_suits : ZP (zp_X8_suits, 7, 0, 0) (yX8_suits, cX8_suits, 7, (some .boolean), 8, 0, 0) := by
  have h0 := zt_X8_suits
  have h1 := zk_drop 16 zp_X8_suits_0 zp_X8_suits_1 h0 rfl
  have h2 := zk_drop 16 zp_X8_suits_1 zp_X8_suits_2 h1 rfl
  exact ⟨rfl, rfl, rfl, zpn_8, rfl, false, fun h => by cases h, zk_mem1 h0 (zk_mem1 h1 (zk_mem1 h2 (zk_mem0))), _, _, rfl, rfl⟩
theorem zq_X9_init : ZP (zp_X9_init, 2, 3, 30) (yX9_init, cX9_init, 2, none, 9, 3, 30) := by
  have h0 := zt_X9_init
  have h1 := zk_drop 16 zp_X9_init_0 zp_X9_init_1 h0 rfl
  exact ⟨rfl, rfl, rfl, zpn_9, rfl, true, fun _ => rfl, zk_mem1 h0 (zk_mem1 h1 (zk_mem0)), _, _, rfl, rfl⟩
theorem zq_X9_become : ZP (zp_X9_become, 2, 0, 0) (yX9_become, cX9_become, 2, none, 9, 0, 0) := by
  have h0 := zt_X9_become
  have h1 := zk_drop 16 zp_X9_become_0 zp_X9_become_1 h0 rfl
  have h2 := zk_drop 16 zp_X9_become_1 zp_X9_become_2 h1 rfl
  have h3 := zk_drop 16 zp_X9_become_2 zp_X9_become_3 h2 rfl
  exact ⟨rfl, rfl, rfl, zpn_9, rfl, false, fun h => by cases h, zk_mem1 h0 (zk_mem1 h1 (zk_mem1 h2 (zk_mem1 h3 (zk_mem0)))), _, _, rfl, rfl⟩
theorem zq_X9_hasLaw : ZP (zp_X9_hasLaw, 2, 0, 0) (yX9_hasLaw, cX9_hasLaw, 2, (some .boolean), 9, 0, 0) := by
  have h0 := zt_X9_hasLaw
  exact ⟨rfl, rfl, rfl, zpn_9, rfl, false, fun h => by cases h, zk_mem1 h0 (zk_mem0), _, _, rfl, rfl⟩
theorem zq_X9_hasOne : ZP (zp_X9_hasOne, 2, 0, 0) (yX9_hasOne, cX9_hasOne, 2, (some .boolean), 9, 0, 0) := by
  have h0 := zt_X9_hasOne
  exact ⟨rfl, rfl, rfl, zpn_9, rfl, false, fun h => by cases h, zk_mem1 h0 (zk_mem0), _, _, rfl, rfl⟩
theorem zq_X9_hasBit : ZP (zp_X9_hasBit, 3, 0, 0) (yX9_hasBit, cX9_hasBit, 3, (some .boolean), 9, 0, 0) := by
  have h0 := zt_X9_hasBit
  exact ⟨rfl, rfl, rfl, zpn_9, rfl, false, fun h => by cases h, zk_mem1 h0 (zk_mem0), _, _, rfl, rfl⟩
theorem zq_X9_placeOf : ZP (zp_X9_placeOf, 2, 0, 0) (yX9_placeOf, cX9_placeOf, 2, (some .int), 9, 0, 0) := by
  have h0 := zt_X9_placeOf
  exact ⟨rfl, rfl, rfl, zpn_9, rfl, false, fun h => by cases h, zk_mem1 h0 (zk_mem0), _, _, rfl, rfl⟩
theorem zq_X9_lay : ZP (zp_X9_lay, 3, 0, 0) (yX9_lay, cX9_lay, 3, none, 9, 0, 0) := by
  have h0 := zt_X9_lay
  exact ⟨rfl, rfl, rfl, zpn_9, rfl, false, fun h => by cases h, zk_mem1 h0 (zk_mem0), _, _, rfl, rfl⟩
theorem zq_X9_lies : ZP (zp_X9_lies, 2, 0, 0) (yX9_lies, cX9_lies, 2, (some .boolean), 9, 0, 0) := by
  have h0 := zt_X9_lies
  exact ⟨rfl, rfl, rfl, zpn_9, rfl, false, fun h => by cases h, zk_mem1 h0 (zk_mem0), _, _, rfl, rfl⟩
theorem zq_X9_isHeld : ZP (zp_X9_isHeld, 3, 0, 0) (yX9_isHeld, cX9_isHeld, 3, (some .boolean), 9, 0, 0) := by
  have h0 := zt_X9_isHeld
  exact ⟨rfl, rfl, rfl, zpn_9, rfl, false, fun h => by cases h, zk_mem1 h0 (zk_mem0), _, _, rfl, rfl⟩
theorem zq_X9_lyingCount : ZP (zp_X9_lyingCount, 3, 0, 0) (yX9_lyingCount, cX9_lyingCount, 3, (some .int), 9, 0, 0) := by
  have h0 := zt_X9_lyingCount
  have h1 := zk_drop 16 zp_X9_lyingCount_0 zp_X9_lyingCount_1 h0 rfl
  exact ⟨rfl, rfl, rfl, zpn_9, rfl, false, fun h => by cases h, zk_mem1 h0 (zk_mem1 h1 (zk_mem0)), _, _, rfl, rfl⟩
theorem zq_X9_heldCount : ZP (zp_X9_heldCount, 3, 0, 0) (yX9_heldCount, cX9_heldCount, 3, (some .int), 9, 0, 0) := by
  have h0 := zt_X9_heldCount
  have h1 := zk_drop 16 zp_X9_heldCount_0 zp_X9_heldCount_1 h0 rfl
  exact ⟨rfl, rfl, rfl, zpn_9, rfl, false, fun h => by cases h, zk_mem1 h0 (zk_mem1 h1 (zk_mem0)), _, _, rfl, rfl⟩
theorem zq_X9_bitsAt : ZP (zp_X9_bitsAt, 4, 0, 0) (yX9_bitsAt, cX9_bitsAt, 4, (some .int), 9, 0, 0) := by
  have h0 := zt_X9_bitsAt
  have h1 := zk_drop 16 zp_X9_bitsAt_0 zp_X9_bitsAt_1 h0 rfl
  exact ⟨rfl, rfl, rfl, zpn_9, rfl, false, fun h => by cases h, zk_mem1 h0 (zk_mem1 h1 (zk_mem0)), _, _, rfl, rfl⟩
theorem zq_X9_heldBy : ZP (zp_X9_heldBy, 2, 0, 0) (yX9_heldBy, cX9_heldBy, 2, (some .int), 9, 0, 0) := by
  have h0 := zt_X9_heldBy
  exact ⟨rfl, rfl, rfl, zpn_9, rfl, false, fun h => by cases h, zk_mem1 h0 (zk_mem0), _, _, rfl, rfl⟩
theorem zq_X9_holdersOf : ZP (zp_X9_holdersOf, 4, 0, 0) (yX9_holdersOf, cX9_holdersOf, 4, (some .int), 9, 0, 0) := by
  have h0 := zt_X9_holdersOf
  have h1 := zk_drop 16 zp_X9_holdersOf_0 zp_X9_holdersOf_1 h0 rfl
  exact ⟨rfl, rfl, rfl, zpn_9, rfl, false, fun h => by cases h, zk_mem1 h0 (zk_mem1 h1 (zk_mem0)), _, _, rfl, rfl⟩
theorem zq_X9_rightCount : ZP (zp_X9_rightCount, 3, 0, 0) (yX9_rightCount, cX9_rightCount, 3, (some .int), 9, 0, 0) := by
  have h0 := zt_X9_rightCount
  have h1 := zk_drop 16 zp_X9_rightCount_0 zp_X9_rightCount_1 h0 rfl
  exact ⟨rfl, rfl, rfl, zpn_9, rfl, false, fun h => by cases h, zk_mem1 h0 (zk_mem1 h1 (zk_mem0)), _, _, rfl, rfl⟩
theorem zq_X9_carry : ZP (zp_X9_carry, 2, 0, 0) (yX9_carry, cX9_carry, 2, (some .int), 9, 0, 0) := by
  have h0 := zt_X9_carry
  have h1 := zk_drop 16 zp_X9_carry_0 zp_X9_carry_1 h0 rfl
  exact ⟨rfl, rfl, rfl, zpn_9, rfl, false, fun h => by cases h, zk_mem1 h0 (zk_mem1 h1 (zk_mem0)), _, _, rfl, rfl⟩
theorem zq_X9_fling : ZP (zp_X9_fling, 3, 0, 0) (yX9_fling, cX9_fling, 3, (some .int), 9, 0, 0) := by
  have h0 := zt_X9_fling
  have h1 := zk_drop 16 zp_X9_fling_0 zp_X9_fling_1 h0 rfl
  exact ⟨rfl, rfl, rfl, zpn_9, rfl, false, fun h => by cases h, zk_mem1 h0 (zk_mem1 h1 (zk_mem0)), _, _, rfl, rfl⟩
theorem zq_X9_sweep : ZP (zp_X9_sweep, 3, 0, 0) (yX9_sweep, cX9_sweep, 3, (some .int), 9, 0, 0) := by
  have h0 := zt_X9_sweep
  have h1 := zk_drop 16 zp_X9_sweep_0 zp_X9_sweep_1 h0 rfl
  have h2 := zk_drop 16 zp_X9_sweep_1 zp_X9_sweep_2 h1 rfl
  exact ⟨rfl, rfl, rfl, zpn_9, rfl, false, fun h => by cases h, zk_mem1 h0 (zk_mem1 h1 (zk_mem1 h2 (zk_mem0))), _, _, rfl, rfl⟩
theorem zq_X9_walk : ZP (zp_X9_walk, 4, 0, 0) (yX9_walk, cX9_walk, 4, (some .int), 9, 0, 0) := by
  have h0 := zt_X9_walk
  have h1 := zk_drop 16 zp_X9_walk_0 zp_X9_walk_1 h0 rfl
  exact ⟨rfl, rfl, rfl, zpn_9, rfl, false, fun h => by cases h, zk_mem1 h0 (zk_mem1 h1 (zk_mem0)), _, _, rfl, rfl⟩
theorem zq_X9_give : ZP (zp_X9_give, 7, 0, 0) (yX9_give, cX9_give, 7, (some .int), 9, 0, 0) := by
  have h0 := zt_X9_give
  have h1 := zk_drop 16 zp_X9_give_0 zp_X9_give_1 h0 rfl
  have h2 := zk_drop 16 zp_X9_give_1 zp_X9_give_2 h1 rfl
  have h3 := zk_drop 16 zp_X9_give_2 zp_X9_give_3 h2 rfl
  exact ⟨rfl, rfl, rfl, zpn_9, rfl, false, fun h => by cases h, zk_mem1 h0 (zk_mem1 h1 (zk_mem1 h2 (zk_mem1 h3 (zk_mem0)))), _, _, rfl, rfl⟩
theorem zq_X9_letFall : ZP (zp_X9_letFall, 4, 0, 0) (yX9_letFall, cX9_letFall, 4, (some .int), 9, 0, 0) := by
  have h0 := zt_X9_letFall
  have h1 := zk_drop 16 zp_X9_letFall_0 zp_X9_letFall_1 h0 rfl
  have h2 := zk_drop 16 zp_X9_letFall_1 zp_X9_letFall_2 h1 rfl
  exact ⟨rfl, rfl, rfl, zpn_9, rfl, false, fun h => by cases h, zk_mem1 h0 (zk_mem1 h1 (zk_mem1 h2 (zk_mem0))), _, _, rfl, rfl⟩
theorem zq_X9_turnWind : ZP (zp_X9_turnWind, 3, 0, 0) (yX9_turnWind, cX9_turnWind, 3, (some .int), 9, 0, 0) := by
  have h0 := zt_X9_turnWind
  have h1 := zk_drop 16 zp_X9_turnWind_0 zp_X9_turnWind_1 h0 rfl
  exact ⟨rfl, rfl, rfl, zpn_9, rfl, false, fun h => by cases h, zk_mem1 h0 (zk_mem1 h1 (zk_mem0)), _, _, rfl, rfl⟩
theorem zq_X10_init : ZP (zp_X10_init, 1, 2, 28) (yX10_init, cX10_init, 1, none, 10, 2, 28) := by
  have h0 := zt_X10_init
  exact ⟨rfl, rfl, rfl, zpn_10, rfl, true, fun _ => rfl, zk_mem1 h0 (zk_mem0), _, _, rfl, rfl⟩
theorem zq_X10_passDays : ZP (zp_X10_passDays, 7, 0, 0) (yX10_passDays, cX10_passDays, 7, (some .int), 10, 0, 0) := by
  have h0 := zt_X10_passDays
  have h1 := zk_drop 16 zp_X10_passDays_0 zp_X10_passDays_1 h0 rfl
  have h2 := zk_drop 16 zp_X10_passDays_1 zp_X10_passDays_2 h1 rfl
  exact ⟨rfl, rfl, rfl, zpn_10, rfl, false, fun h => by cases h, zk_mem1 h0 (zk_mem1 h1 (zk_mem1 h2 (zk_mem0))), _, _, rfl, rfl⟩
theorem zq_X10_passYears : ZP (zp_X10_passYears, 9, 0, 0) (yX10_passYears, cX10_passYears, 9, (some .int), 10, 0, 0) := by
  have h0 := zt_X10_passYears
  have h1 := zk_drop 16 zp_X10_passYears_0 zp_X10_passYears_1 h0 rfl
  have h2 := zk_drop 16 zp_X10_passYears_1 zp_X10_passYears_2 h1 rfl
  have h3 := zk_drop 16 zp_X10_passYears_2 zp_X10_passYears_3 h2 rfl
  exact ⟨rfl, rfl, rfl, zpn_10, rfl, false, fun h => by cases h, zk_mem1 h0 (zk_mem1 h1 (zk_mem1 h2 (zk_mem1 h3 (zk_mem0)))), _, _, rfl, rfl⟩
theorem zq_X10_countCrowd : ZP (zp_X10_countCrowd, 4, 0, 0) (yX10_countCrowd, cX10_countCrowd, 4, none, 10, 0, 0) := by
  have h0 := zt_X10_countCrowd
  have h1 := zk_drop 16 zp_X10_countCrowd_0 zp_X10_countCrowd_1 h0 rfl
  have h2 := zk_drop 16 zp_X10_countCrowd_1 zp_X10_countCrowd_2 h1 rfl
  exact ⟨rfl, rfl, rfl, zpn_10, rfl, false, fun h => by cases h, zk_mem1 h0 (zk_mem1 h1 (zk_mem1 h2 (zk_mem0))), _, _, rfl, rfl⟩
theorem zq_X10_blow : ZP (zp_X10_blow, 4, 0, 0) (yX10_blow, cX10_blow, 4, none, 10, 0, 0) := by
  have h0 := zt_X10_blow
  have h1 := zk_drop 16 zp_X10_blow_0 zp_X10_blow_1 h0 rfl
  have h2 := zk_drop 16 zp_X10_blow_1 zp_X10_blow_2 h1 rfl
  exact ⟨rfl, rfl, rfl, zpn_10, rfl, false, fun h => by cases h, zk_mem1 h0 (zk_mem1 h1 (zk_mem1 h2 (zk_mem0))), _, _, rfl, rfl⟩
theorem zq_X10_draw : ZP (zp_X10_draw, 2, 0, 0) (yX10_draw, cX10_draw, 2, (some .int), 10, 0, 0) := by
  have h0 := zt_X10_draw
  have h1 := zk_drop 16 zp_X10_draw_0 zp_X10_draw_1 h0 rfl
  exact ⟨rfl, rfl, rfl, zpn_10, rfl, false, fun h => by cases h, zk_mem1 h0 (zk_mem1 h1 (zk_mem0)), _, _, rfl, rfl⟩
theorem zq_X11_init : ZP (zp_X11_init, 1, 118, 1578) (yX11_init, cX11_init, 1, none, 11, 118, 1578) := by
  have h0 := zt_X11_init
  have h1 := zk_drop 16 zp_X11_init_0 zp_X11_init_1 h0 rfl
  have h2 := zk_drop 16 zp_X11_init_1 zp_X11_init_2 h1 rfl
  have h3 := zk_drop 16 zp_X11_init_2 zp_X11_init_3 h2 rfl
  have h4 := zk_drop 16 zp_X11_init_3 zp_X11_init_4 h3 rfl
  exact ⟨rfl, rfl, rfl, zpn_11, rfl, true, fun _ => rfl, zk_mem1 h0 (zk_mem1 h1 (zk_mem1 h2 (zk_mem1 h3 (zk_mem1 h4 (zk_mem0))))), _, _, rfl, rfl⟩
theorem zq_X11_sign : ZP (zp_X11_sign, 2, 0, 0) (yX11_sign, cX11_sign, 2, (some .int), 11, 0, 0) := by
  have h0 := zt_X11_sign
  exact ⟨rfl, rfl, rfl, zpn_11, rfl, false, fun h => by cases h, zk_mem1 h0 (zk_mem0), _, _, rfl, rfl⟩
theorem zq_X11_end : ZP (zp_X11_end, 2, 0, 0) (yX11_end, cX11_end, 2, (some .boolean), 11, 0, 0) := by
  have h0 := zt_X11_end
  exact ⟨rfl, rfl, rfl, zpn_11, rfl, false, fun h => by cases h, zk_mem1 h0 (zk_mem0), _, _, rfl, rfl⟩
theorem zq_X11_laws : ZP (zp_X11_laws, 1, 0, 0) (yX11_laws, cX11_laws, 1, (some .int), 11, 0, 0) := by
  have h0 := zt_X11_laws
  exact ⟨rfl, rfl, rfl, zpn_11, rfl, false, fun h => by cases h, zk_mem1 h0 (zk_mem0), _, _, rfl, rfl⟩
theorem zq_X11_people : ZP (zp_X11_people, 1, 0, 0) (yX11_people, cX11_people, 1, (some .int), 11, 0, 0) := by
  have h0 := zt_X11_people
  exact ⟨rfl, rfl, rfl, zpn_11, rfl, false, fun h => by cases h, zk_mem1 h0 (zk_mem0), _, _, rfl, rfl⟩
theorem zq_X11_rule : ZP (zp_X11_rule, 3, 0, 0) (yX11_rule, cX11_rule, 3, (some .int), 11, 0, 0) := by
  have h0 := zt_X11_rule
  have h1 := zk_drop 16 zp_X11_rule_0 zp_X11_rule_1 h0 rfl
  exact ⟨rfl, rfl, rfl, zpn_11, rfl, false, fun h => by cases h, zk_mem1 h0 (zk_mem1 h1 (zk_mem0)), _, _, rfl, rfl⟩
theorem zq_X11_law : ZP (zp_X11_law, 3, 0, 0) (yX11_law, cX11_law, 3, (some .int), 11, 0, 0) := by
  have h0 := zt_X11_law
  have h1 := zk_drop 16 zp_X11_law_0 zp_X11_law_1 h0 rfl
  have h2 := zk_drop 16 zp_X11_law_1 zp_X11_law_2 h1 rfl
  have h3 := zk_drop 16 zp_X11_law_2 zp_X11_law_3 h2 rfl
  exact ⟨rfl, rfl, rfl, zpn_11, rfl, false, fun h => by cases h, zk_mem1 h0 (zk_mem1 h1 (zk_mem1 h2 (zk_mem1 h3 (zk_mem0)))), _, _, rfl, rfl⟩
theorem zq_X11_bit : ZP (zp_X11_bit, 3, 0, 0) (yX11_bit, cX11_bit, 3, (some .int), 11, 0, 0) := by
  have h0 := zt_X11_bit
  have h1 := zk_drop 16 zp_X11_bit_0 zp_X11_bit_1 h0 rfl
  exact ⟨rfl, rfl, rfl, zpn_11, rfl, false, fun h => by cases h, zk_mem1 h0 (zk_mem1 h1 (zk_mem0)), _, _, rfl, rfl⟩
theorem zq_X11_one : ZP (zp_X11_one, 3, 0, 0) (yX11_one, cX11_one, 3, (some .int), 11, 0, 0) := by
  have h0 := zt_X11_one
  have h1 := zk_drop 16 zp_X11_one_0 zp_X11_one_1 h0 rfl
  exact ⟨rfl, rfl, rfl, zpn_11, rfl, false, fun h => by cases h, zk_mem1 h0 (zk_mem1 h1 (zk_mem0)), _, _, rfl, rfl⟩
theorem zq_X11_sheet : ZP (zp_X11_sheet, 9, 0, 0) (yX11_sheet, cX11_sheet, 9, (some .int), 11, 0, 0) := by
  have h0 := zt_X11_sheet
  have h1 := zk_drop 16 zp_X11_sheet_0 zp_X11_sheet_1 h0 rfl
  have h2 := zk_drop 16 zp_X11_sheet_1 zp_X11_sheet_2 h1 rfl
  have h3 := zk_drop 16 zp_X11_sheet_2 zp_X11_sheet_3 h2 rfl
  exact ⟨rfl, rfl, rfl, zpn_11, rfl, false, fun h => by cases h, zk_mem1 h0 (zk_mem1 h1 (zk_mem1 h2 (zk_mem1 h3 (zk_mem0)))), _, _, rfl, rfl⟩
theorem zq_X11_carries : ZP (zp_X11_carries, 2, 0, 0) (yX11_carries, cX11_carries, 2, (some .int), 11, 0, 0) := by
  have h0 := zt_X11_carries
  exact ⟨rfl, rfl, rfl, zpn_11, rfl, false, fun h => by cases h, zk_mem1 h0 (zk_mem0), _, _, rfl, rfl⟩
theorem zq_X11_flings : ZP (zp_X11_flings, 3, 0, 0) (yX11_flings, cX11_flings, 3, (some .int), 11, 0, 0) := by
  have h0 := zt_X11_flings
  exact ⟨rfl, rfl, rfl, zpn_11, rfl, false, fun h => by cases h, zk_mem1 h0 (zk_mem0), _, _, rfl, rfl⟩
theorem zq_X11_sweeps : ZP (zp_X11_sweeps, 2, 0, 0) (yX11_sweeps, cX11_sweeps, 2, (some .int), 11, 0, 0) := by
  have h0 := zt_X11_sweeps
  exact ⟨rfl, rfl, rfl, zpn_11, rfl, false, fun h => by cases h, zk_mem1 h0 (zk_mem0), _, _, rfl, rfl⟩
theorem zq_X11_days : ZP (zp_X11_days, 3, 0, 0) (yX11_days, cX11_days, 3, (some .int), 11, 0, 0) := by
  have h0 := zt_X11_days
  have h1 := zk_drop 16 zp_X11_days_0 zp_X11_days_1 h0 rfl
  have h2 := zk_drop 16 zp_X11_days_1 zp_X11_days_2 h1 rfl
  exact ⟨rfl, rfl, rfl, zpn_11, rfl, false, fun h => by cases h, zk_mem1 h0 (zk_mem1 h1 (zk_mem1 h2 (zk_mem0))), _, _, rfl, rfl⟩
theorem zq_X11_walks : ZP (zp_X11_walks, 3, 0, 0) (yX11_walks, cX11_walks, 3, (some .int), 11, 0, 0) := by
  have h0 := zt_X11_walks
  exact ⟨rfl, rfl, rfl, zpn_11, rfl, false, fun h => by cases h, zk_mem1 h0 (zk_mem0), _, _, rfl, rfl⟩
theorem zq_X11_gives : ZP (zp_X11_gives, 4, 0, 0) (yX11_gives, cX11_gives, 4, (some .int), 11, 0, 0) := by
  have h0 := zt_X11_gives
  exact ⟨rfl, rfl, rfl, zpn_11, rfl, false, fun h => by cases h, zk_mem1 h0 (zk_mem0), _, _, rfl, rfl⟩
theorem zq_X11_falls : ZP (zp_X11_falls, 2, 0, 0) (yX11_falls, cX11_falls, 2, (some .int), 11, 0, 0) := by
  have h0 := zt_X11_falls
  exact ⟨rfl, rfl, rfl, zpn_11, rfl, false, fun h => by cases h, zk_mem1 h0 (zk_mem0), _, _, rfl, rfl⟩
theorem zq_X11_wind : ZP (zp_X11_wind, 2, 0, 0) (yX11_wind, cX11_wind, 2, (some .int), 11, 0, 0) := by
  have h0 := zt_X11_wind
  exact ⟨rfl, rfl, rfl, zpn_11, rfl, false, fun h => by cases h, zk_mem1 h0 (zk_mem0), _, _, rfl, rfl⟩
theorem zq_X11_wedding : ZP (zp_X11_wedding, 7, 0, 0) (yX11_wedding, cX11_wedding, 7, (some .int), 11, 0, 0) := by
  have h0 := zt_X11_wedding
  have h1 := zk_drop 16 zp_X11_wedding_0 zp_X11_wedding_1 h0 rfl
  have h2 := zk_drop 16 zp_X11_wedding_1 zp_X11_wedding_2 h1 rfl
  have h3 := zk_drop 16 zp_X11_wedding_2 zp_X11_wedding_3 h2 rfl
  have h4 := zk_drop 16 zp_X11_wedding_3 zp_X11_wedding_4 h3 rfl
  exact ⟨rfl, rfl, rfl, zpn_11, rfl, false, fun h => by cases h, zk_mem1 h0 (zk_mem1 h1 (zk_mem1 h2 (zk_mem1 h3 (zk_mem1 h4 (zk_mem0))))), _, _, rfl, rfl⟩
theorem zq_X11_undo : ZP (zp_X11_undo, 1, 0, 0) (yX11_undo, cX11_undo, 1, (some .int), 11, 0, 0) := by
  have h0 := zt_X11_undo
  exact ⟨rfl, rfl, rfl, zpn_11, rfl, false, fun h => by cases h, zk_mem1 h0 (zk_mem0), _, _, rfl, rfl⟩
theorem zq_X11_later : ZP (zp_X11_later, 4, 0, 0) (yX11_later, cX11_later, 4, (some .int), 11, 0, 0) := by
  have h0 := zt_X11_later
  have h1 := zk_drop 16 zp_X11_later_0 zp_X11_later_1 h0 rfl
  have h2 := zk_drop 16 zp_X11_later_1 zp_X11_later_2 h1 rfl
  exact ⟨rfl, rfl, rfl, zpn_11, rfl, false, fun h => by cases h, zk_mem1 h0 (zk_mem1 h1 (zk_mem1 h2 (zk_mem0))), _, _, rfl, rfl⟩
theorem zq_X11_when : ZP (zp_X11_when, 4, 0, 0) (yX11_when, cX11_when, 4, (some .int), 11, 0, 0) := by
  have h0 := zt_X11_when
  have h1 := zk_drop 16 zp_X11_when_0 zp_X11_when_1 h0 rfl
  have h2 := zk_drop 16 zp_X11_when_1 zp_X11_when_2 h1 rfl
  have h3 := zk_drop 16 zp_X11_when_2 zp_X11_when_3 h2 rfl
  exact ⟨rfl, rfl, rfl, zpn_11, rfl, false, fun h => by cases h, zk_mem1 h0 (zk_mem1 h1 (zk_mem1 h2 (zk_mem1 h3 (zk_mem0)))), _, _, rfl, rfl⟩
theorem zq_X11_clean : ZP (zp_X11_clean, 2, 0, 0) (yX11_clean, cX11_clean, 2, (some .int), 11, 0, 0) := by
  have h0 := zt_X11_clean
  have h1 := zk_drop 16 zp_X11_clean_0 zp_X11_clean_1 h0 rfl
  have h2 := zk_drop 16 zp_X11_clean_1 zp_X11_clean_2 h1 rfl
  exact ⟨rfl, rfl, rfl, zpn_11, rfl, false, fun h => by cases h, zk_mem1 h0 (zk_mem1 h1 (zk_mem1 h2 (zk_mem0))), _, _, rfl, rfl⟩
theorem zq_X11_drifts : ZP (zp_X11_drifts, 4, 0, 0) (yX11_drifts, cX11_drifts, 4, (some .int), 11, 0, 0) := by
  have h0 := zt_X11_drifts
  have h1 := zk_drop 16 zp_X11_drifts_0 zp_X11_drifts_1 h0 rfl
  have h2 := zk_drop 16 zp_X11_drifts_1 zp_X11_drifts_2 h1 rfl
  have h3 := zk_drop 16 zp_X11_drifts_2 zp_X11_drifts_3 h2 rfl
  exact ⟨rfl, rfl, rfl, zpn_11, rfl, false, fun h => by cases h, zk_mem1 h0 (zk_mem1 h1 (zk_mem1 h2 (zk_mem1 h3 (zk_mem0)))), _, _, rfl, rfl⟩
theorem zq_X11_aims : ZP (zp_X11_aims, 7, 0, 0) (yX11_aims, cX11_aims, 7, (some .int), 11, 0, 0) := by
  have h0 := zt_X11_aims
  have h1 := zk_drop 16 zp_X11_aims_0 zp_X11_aims_1 h0 rfl
  have h2 := zk_drop 16 zp_X11_aims_1 zp_X11_aims_2 h1 rfl
  have h3 := zk_drop 16 zp_X11_aims_2 zp_X11_aims_3 h2 rfl
  have h4 := zk_drop 16 zp_X11_aims_3 zp_X11_aims_4 h3 rfl
  exact ⟨rfl, rfl, rfl, zpn_11, rfl, false, fun h => by cases h, zk_mem1 h0 (zk_mem1 h1 (zk_mem1 h2 (zk_mem1 h3 (zk_mem1 h4 (zk_mem0))))), _, _, rfl, rfl⟩
theorem zq_X11_prays : ZP (zp_X11_prays, 8, 0, 0) (yX11_prays, cX11_prays, 8, (some .int), 11, 0, 0) := by
  have h0 := zt_X11_prays
  have h1 := zk_drop 16 zp_X11_prays_0 zp_X11_prays_1 h0 rfl
  have h2 := zk_drop 16 zp_X11_prays_1 zp_X11_prays_2 h1 rfl
  have h3 := zk_drop 16 zp_X11_prays_2 zp_X11_prays_3 h2 rfl
  have h4 := zk_drop 16 zp_X11_prays_3 zp_X11_prays_4 h3 rfl
  exact ⟨rfl, rfl, rfl, zpn_11, rfl, false, fun h => by cases h, zk_mem1 h0 (zk_mem1 h1 (zk_mem1 h2 (zk_mem1 h3 (zk_mem1 h4 (zk_mem0))))), _, _, rfl, rfl⟩
theorem zq_X11_seeks : ZP (zp_X11_seeks, 9, 0, 0) (yX11_seeks, cX11_seeks, 9, (some .int), 11, 0, 0) := by
  have h0 := zt_X11_seeks
  have h1 := zk_drop 16 zp_X11_seeks_0 zp_X11_seeks_1 h0 rfl
  have h2 := zk_drop 16 zp_X11_seeks_1 zp_X11_seeks_2 h1 rfl
  have h3 := zk_drop 16 zp_X11_seeks_2 zp_X11_seeks_3 h2 rfl
  have h4 := zk_drop 16 zp_X11_seeks_3 zp_X11_seeks_4 h3 rfl
  have h5 := zk_drop 16 zp_X11_seeks_4 zp_X11_seeks_5 h4 rfl
  exact ⟨rfl, rfl, rfl, zpn_11, rfl, false, fun h => by cases h, zk_mem1 h0 (zk_mem1 h1 (zk_mem1 h2 (zk_mem1 h3 (zk_mem1 h4 (zk_mem1 h5 (zk_mem0)))))), _, _, rfl, rfl⟩
theorem zq_X11_whole : ZP (zp_X11_whole, 3, 0, 0) (yX11_whole, cX11_whole, 3, (some .int), 11, 0, 0) := by
  have h0 := zt_X11_whole
  have h1 := zk_drop 16 zp_X11_whole_0 zp_X11_whole_1 h0 rfl
  exact ⟨rfl, rfl, rfl, zpn_11, rfl, false, fun h => by cases h, zk_mem1 h0 (zk_mem1 h1 (zk_mem0)), _, _, rfl, rfl⟩
theorem zq_X11_quorum : ZP (zp_X11_quorum, 2, 0, 0) (yX11_quorum, cX11_quorum, 2, (some .int), 11, 0, 0) := by
  have h0 := zt_X11_quorum
  have h1 := zk_drop 16 zp_X11_quorum_0 zp_X11_quorum_1 h0 rfl
  exact ⟨rfl, rfl, rfl, zpn_11, rfl, false, fun h => by cases h, zk_mem1 h0 (zk_mem1 h1 (zk_mem0)), _, _, rfl, rfl⟩
theorem zq_X11_awards : ZP (zp_X11_awards, 2, 0, 0) (yX11_awards, cX11_awards, 2, (some .int), 11, 0, 0) := by
  have h0 := zt_X11_awards
  exact ⟨rfl, rfl, rfl, zpn_11, rfl, false, fun h => by cases h, zk_mem1 h0 (zk_mem0), _, _, rfl, rfl⟩
theorem zq_X11_needs : ZP (zp_X11_needs, 5, 0, 0) (yX11_needs, cX11_needs, 5, (some .int), 11, 0, 0) := by
  have h0 := zt_X11_needs
  have h1 := zk_drop 16 zp_X11_needs_0 zp_X11_needs_1 h0 rfl
  have h2 := zk_drop 16 zp_X11_needs_1 zp_X11_needs_2 h1 rfl
  have h3 := zk_drop 16 zp_X11_needs_2 zp_X11_needs_3 h2 rfl
  exact ⟨rfl, rfl, rfl, zpn_11, rfl, false, fun h => by cases h, zk_mem1 h0 (zk_mem1 h1 (zk_mem1 h2 (zk_mem1 h3 (zk_mem0)))), _, _, rfl, rfl⟩
theorem zq_X11_line : ZP (zp_X11_line, 4, 0, 0) (yX11_line, cX11_line, 4, (some .int), 11, 0, 0) := by
  have h0 := zt_X11_line
  have h1 := zk_drop 16 zp_X11_line_0 zp_X11_line_1 h0 rfl
  have h2 := zk_drop 16 zp_X11_line_1 zp_X11_line_2 h1 rfl
  exact ⟨rfl, rfl, rfl, zpn_11, rfl, false, fun h => by cases h, zk_mem1 h0 (zk_mem1 h1 (zk_mem1 h2 (zk_mem0))), _, _, rfl, rfl⟩
theorem zq_X11_power : ZP (zp_X11_power, 3, 0, 0) (yX11_power, cX11_power, 3, (some .int), 11, 0, 0) := by
  have h0 := zt_X11_power
  have h1 := zk_drop 16 zp_X11_power_0 zp_X11_power_1 h0 rfl
  exact ⟨rfl, rfl, rfl, zpn_11, rfl, false, fun h => by cases h, zk_mem1 h0 (zk_mem1 h1 (zk_mem0)), _, _, rfl, rfl⟩
theorem zq_X11_least : ZP (zp_X11_least, 3, 0, 0) (yX11_least, cX11_least, 3, (some .int), 11, 0, 0) := by
  have h0 := zt_X11_least
  have h1 := zk_drop 16 zp_X11_least_0 zp_X11_least_1 h0 rfl
  have h2 := zk_drop 16 zp_X11_least_1 zp_X11_least_2 h1 rfl
  exact ⟨rfl, rfl, rfl, zpn_11, rfl, false, fun h => by cases h, zk_mem1 h0 (zk_mem1 h1 (zk_mem1 h2 (zk_mem0))), _, _, rfl, rfl⟩
theorem zq_X11_seen : ZP (zp_X11_seen, 4, 0, 0) (yX11_seen, cX11_seen, 4, (some .int), 11, 0, 0) := by
  have h0 := zt_X11_seen
  have h1 := zk_drop 16 zp_X11_seen_0 zp_X11_seen_1 h0 rfl
  have h2 := zk_drop 16 zp_X11_seen_1 zp_X11_seen_2 h1 rfl
  exact ⟨rfl, rfl, rfl, zpn_11, rfl, false, fun h => by cases h, zk_mem1 h0 (zk_mem1 h1 (zk_mem1 h2 (zk_mem0))), _, _, rfl, rfl⟩
theorem zq_X11_forget : ZP (zp_X11_forget, 1, 0, 0) (yX11_forget, cX11_forget, 1, (some .int), 11, 0, 0) := by
  have h0 := zt_X11_forget
  exact ⟨rfl, rfl, rfl, zpn_11, rfl, false, fun h => by cases h, zk_mem1 h0 (zk_mem0), _, _, rfl, rfl⟩
theorem zq_X11_guess : ZP (zp_X11_guess, 2, 0, 0) (yX11_guess, cX11_guess, 2, (some .int), 11, 0, 0) := by
  have h0 := zt_X11_guess
  have h1 := zk_drop 16 zp_X11_guess_0 zp_X11_guess_1 h0 rfl
  exact ⟨rfl, rfl, rfl, zpn_11, rfl, false, fun h => by cases h, zk_mem1 h0 (zk_mem1 h1 (zk_mem0)), _, _, rfl, rfl⟩
theorem zq_X11_looks : ZP (zp_X11_looks, 6, 0, 0) (yX11_looks, cX11_looks, 6, (some .int), 11, 0, 0) := by
  have h0 := zt_X11_looks
  have h1 := zk_drop 16 zp_X11_looks_0 zp_X11_looks_1 h0 rfl
  have h2 := zk_drop 16 zp_X11_looks_1 zp_X11_looks_2 h1 rfl
  have h3 := zk_drop 16 zp_X11_looks_2 zp_X11_looks_3 h2 rfl
  have h4 := zk_drop 16 zp_X11_looks_3 zp_X11_looks_4 h3 rfl
  exact ⟨rfl, rfl, rfl, zpn_11, rfl, false, fun h => by cases h, zk_mem1 h0 (zk_mem1 h1 (zk_mem1 h2 (zk_mem1 h3 (zk_mem1 h4 (zk_mem0))))), _, _, rfl, rfl⟩
theorem zq_X11_heard : ZP (zp_X11_heard, 3, 0, 0) (yX11_heard, cX11_heard, 3, (some .int), 11, 0, 0) := by
  have h0 := zt_X11_heard
  exact ⟨rfl, rfl, rfl, zpn_11, rfl, false, fun h => by cases h, zk_mem1 h0 (zk_mem0), _, _, rfl, rfl⟩
theorem zq_X11_denies : ZP (zp_X11_denies, 1, 0, 0) (yX11_denies, cX11_denies, 1, (some .int), 11, 0, 0) := by
  have h0 := zt_X11_denies
  exact ⟨rfl, rfl, rfl, zpn_11, rfl, false, fun h => by cases h, zk_mem1 h0 (zk_mem0), _, _, rfl, rfl⟩
theorem zq_X11_fits : ZP (zp_X11_fits, 2, 0, 0) (yX11_fits, cX11_fits, 2, (some .int), 11, 0, 0) := by
  have h0 := zt_X11_fits
  exact ⟨rfl, rfl, rfl, zpn_11, rfl, false, fun h => by cases h, zk_mem1 h0 (zk_mem0), _, _, rfl, rfl⟩
theorem zq_X11_asks : ZP (zp_X11_asks, 8, 0, 0) (yX11_asks, cX11_asks, 8, (some .int), 11, 0, 0) := by
  have h0 := zt_X11_asks
  have h1 := zk_drop 16 zp_X11_asks_0 zp_X11_asks_1 h0 rfl
  have h2 := zk_drop 16 zp_X11_asks_1 zp_X11_asks_2 h1 rfl
  have h3 := zk_drop 16 zp_X11_asks_2 zp_X11_asks_3 h2 rfl
  exact ⟨rfl, rfl, rfl, zpn_11, rfl, false, fun h => by cases h, zk_mem1 h0 (zk_mem1 h1 (zk_mem1 h2 (zk_mem1 h3 (zk_mem0)))), _, _, rfl, rfl⟩
theorem zq_X11_odds : ZP (zp_X11_odds, 8, 0, 0) (yX11_odds, cX11_odds, 8, (some .int), 11, 0, 0) := by
  have h0 := zt_X11_odds
  have h1 := zk_drop 16 zp_X11_odds_0 zp_X11_odds_1 h0 rfl
  have h2 := zk_drop 16 zp_X11_odds_1 zp_X11_odds_2 h1 rfl
  have h3 := zk_drop 16 zp_X11_odds_2 zp_X11_odds_3 h2 rfl
  have h4 := zk_drop 16 zp_X11_odds_3 zp_X11_odds_4 h3 rfl
  exact ⟨rfl, rfl, rfl, zpn_11, rfl, false, fun h => by cases h, zk_mem1 h0 (zk_mem1 h1 (zk_mem1 h2 (zk_mem1 h3 (zk_mem1 h4 (zk_mem0))))), _, _, rfl, rfl⟩
theorem zq_X11_went : ZP (zp_X11_went, 5, 0, 0) (yX11_went, cX11_went, 5, (some .int), 11, 0, 0) := by
  have h0 := zt_X11_went
  have h1 := zk_drop 16 zp_X11_went_0 zp_X11_went_1 h0 rfl
  exact ⟨rfl, rfl, rfl, zpn_11, rfl, false, fun h => by cases h, zk_mem1 h0 (zk_mem1 h1 (zk_mem0)), _, _, rfl, rfl⟩
theorem zq_X11_clears : ZP (zp_X11_clears, 1, 0, 0) (yX11_clears, cX11_clears, 1, (some .int), 11, 0, 0) := by
  have h0 := zt_X11_clears
  exact ⟨rfl, rfl, rfl, zpn_11, rfl, false, fun h => by cases h, zk_mem1 h0 (zk_mem0), _, _, rfl, rfl⟩
theorem zq_X11_scatters : ZP (zp_X11_scatters, 3, 0, 0) (yX11_scatters, cX11_scatters, 3, (some .int), 11, 0, 0) := by
  have h0 := zt_X11_scatters
  have h1 := zk_drop 16 zp_X11_scatters_0 zp_X11_scatters_1 h0 rfl
  exact ⟨rfl, rfl, rfl, zpn_11, rfl, false, fun h => by cases h, zk_mem1 h0 (zk_mem1 h1 (zk_mem0)), _, _, rfl, rfl⟩
theorem zq_X11_tries : ZP (zp_X11_tries, 7, 0, 0) (yX11_tries, cX11_tries, 7, (some .int), 11, 0, 0) := by
  have h0 := zt_X11_tries
  have h1 := zk_drop 16 zp_X11_tries_0 zp_X11_tries_1 h0 rfl
  have h2 := zk_drop 16 zp_X11_tries_1 zp_X11_tries_2 h1 rfl
  have h3 := zk_drop 16 zp_X11_tries_2 zp_X11_tries_3 h2 rfl
  exact ⟨rfl, rfl, rfl, zpn_11, rfl, false, fun h => by cases h, zk_mem1 h0 (zk_mem1 h1 (zk_mem1 h2 (zk_mem1 h3 (zk_mem0)))), _, _, rfl, rfl⟩
theorem zq_X11_handfuls : ZP (zp_X11_handfuls, 2, 0, 0) (yX11_handfuls, cX11_handfuls, 2, (some .int), 11, 0, 0) := by
  have h0 := zt_X11_handfuls
  exact ⟨rfl, rfl, rfl, zpn_11, rfl, false, fun h => by cases h, zk_mem1 h0 (zk_mem0), _, _, rfl, rfl⟩
theorem zq_X11_other : ZP (zp_X11_other, 5, 0, 0) (yX11_other, cX11_other, 5, (some .int), 11, 0, 0) := by
  have h0 := zt_X11_other
  have h1 := zk_drop 16 zp_X11_other_0 zp_X11_other_1 h0 rfl
  have h2 := zk_drop 16 zp_X11_other_1 zp_X11_other_2 h1 rfl
  have h3 := zk_drop 16 zp_X11_other_2 zp_X11_other_3 h2 rfl
  exact ⟨rfl, rfl, rfl, zpn_11, rfl, false, fun h => by cases h, zk_mem1 h0 (zk_mem1 h1 (zk_mem1 h2 (zk_mem1 h3 (zk_mem0)))), _, _, rfl, rfl⟩
theorem zq_X11_grasps : ZP (zp_X11_grasps, 5, 0, 0) (yX11_grasps, cX11_grasps, 5, (some .int), 11, 0, 0) := by
  have h0 := zt_X11_grasps
  have h1 := zk_drop 16 zp_X11_grasps_0 zp_X11_grasps_1 h0 rfl
  have h2 := zk_drop 16 zp_X11_grasps_1 zp_X11_grasps_2 h1 rfl
  exact ⟨rfl, rfl, rfl, zpn_11, rfl, false, fun h => by cases h, zk_mem1 h0 (zk_mem1 h1 (zk_mem1 h2 (zk_mem0))), _, _, rfl, rfl⟩
theorem zq_X11_years : ZP (zp_X11_years, 4, 0, 0) (yX11_years, cX11_years, 4, (some .int), 11, 0, 0) := by
  have h0 := zt_X11_years
  have h1 := zk_drop 16 zp_X11_years_0 zp_X11_years_1 h0 rfl
  have h2 := zk_drop 16 zp_X11_years_1 zp_X11_years_2 h1 rfl
  exact ⟨rfl, rfl, rfl, zpn_11, rfl, false, fun h => by cases h, zk_mem1 h0 (zk_mem1 h1 (zk_mem1 h2 (zk_mem0))), _, _, rfl, rfl⟩
theorem zq_X11_keep : ZP (zp_X11_keep, 2, 0, 0) (yX11_keep, cX11_keep, 2, (some .boolean), 11, 0, 0) := by
  have h0 := zt_X11_keep
  exact ⟨rfl, rfl, rfl, zpn_11, rfl, false, fun h => by cases h, zk_mem1 h0 (zk_mem0), _, _, rfl, rfl⟩
theorem zq_X11_again : ZP (zp_X11_again, 2, 0, 0) (yX11_again, cX11_again, 2, (some .boolean), 11, 0, 0) := by
  have h0 := zt_X11_again
  exact ⟨rfl, rfl, rfl, zpn_11, rfl, false, fun h => by cases h, zk_mem1 h0 (zk_mem0), _, _, rfl, rfl⟩
theorem zq_X11_count : ZP (zp_X11_count, 2, 0, 0) (yX11_count, cX11_count, 2, (some .int), 11, 0, 0) := by
  have h0 := zt_X11_count
  have h1 := zk_drop 16 zp_X11_count_0 zp_X11_count_1 h0 rfl
  have h2 := zk_drop 16 zp_X11_count_1 zp_X11_count_2 h1 rfl
  exact ⟨rfl, rfl, rfl, zpn_11, rfl, false, fun h => by cases h, zk_mem1 h0 (zk_mem1 h1 (zk_mem1 h2 (zk_mem0))), _, _, rfl, rfl⟩
theorem zq_X11_row : ZP (zp_X11_row, 2, 0, 0) (yX11_row, cX11_row, 2, (some .long), 11, 0, 0) := by
  have h0 := zt_X11_row
  have h1 := zk_drop 16 zp_X11_row_0 zp_X11_row_1 h0 rfl
  exact ⟨rfl, rfl, rfl, zpn_11, rfl, false, fun h => by cases h, zk_mem1 h0 (zk_mem1 h1 (zk_mem0)), _, _, rfl, rfl⟩
theorem zq_X11_countKept : ZP (zp_X11_countKept, 2, 0, 0) (yX11_countKept, cX11_countKept, 2, (some .int), 11, 0, 0) := by
  have h0 := zt_X11_countKept
  have h1 := zk_drop 16 zp_X11_countKept_0 zp_X11_countKept_1 h0 rfl
  exact ⟨rfl, rfl, rfl, zpn_11, rfl, false, fun h => by cases h, zk_mem1 h0 (zk_mem1 h1 (zk_mem0)), _, _, rfl, rfl⟩
theorem zq_X11_readLines : ZP (zp_X11_readLines, 7, 0, 0) (yX11_readLines, cX11_readLines, 7, (some .int), 11, 0, 0) := by
  have h0 := zt_X11_readLines
  have h1 := zk_drop 16 zp_X11_readLines_0 zp_X11_readLines_1 h0 rfl
  have h2 := zk_drop 16 zp_X11_readLines_1 zp_X11_readLines_2 h1 rfl
  have h3 := zk_drop 16 zp_X11_readLines_2 zp_X11_readLines_3 h2 rfl
  have h4 := zk_drop 16 zp_X11_readLines_3 zp_X11_readLines_4 h3 rfl
  exact ⟨rfl, rfl, rfl, zpn_11, rfl, false, fun h => by cases h, zk_mem1 h0 (zk_mem1 h1 (zk_mem1 h2 (zk_mem1 h3 (zk_mem1 h4 (zk_mem0))))), _, _, rfl, rfl⟩
theorem zq_X11_noted : ZP (zp_X11_noted, 2, 0, 0) (yX11_noted, cX11_noted, 2, (some .int), 11, 0, 0) := by
  have h0 := zt_X11_noted
  exact ⟨rfl, rfl, rfl, zpn_11, rfl, false, fun h => by cases h, zk_mem1 h0 (zk_mem0), _, _, rfl, rfl⟩
theorem zq_X11_dreamOf : ZP (zp_X11_dreamOf, 3, 0, 0) (yX11_dreamOf, cX11_dreamOf, 3, none, 11, 0, 0) := by
  have h0 := zt_X11_dreamOf
  exact ⟨rfl, rfl, rfl, zpn_11, rfl, false, fun h => by cases h, zk_mem1 h0 (zk_mem0), _, _, rfl, rfl⟩
theorem zq_X11_winningHandful : ZP (zp_X11_winningHandful, 5, 0, 0) (yX11_winningHandful, cX11_winningHandful, 5, (some .int), 11, 0, 0) := by
  have h0 := zt_X11_winningHandful
  have h1 := zk_drop 16 zp_X11_winningHandful_0 zp_X11_winningHandful_1 h0 rfl
  exact ⟨rfl, rfl, rfl, zpn_11, rfl, false, fun h => by cases h, zk_mem1 h0 (zk_mem1 h1 (zk_mem0)), _, _, rfl, rfl⟩
theorem zq_X11_handfulOutOf : ZP (zp_X11_handfulOutOf, 4, 0, 0) (yX11_handfulOutOf, cX11_handfulOutOf, 4, (some .int), 11, 0, 0) := by
  have h0 := zt_X11_handfulOutOf
  have h1 := zk_drop 16 zp_X11_handfulOutOf_0 zp_X11_handfulOutOf_1 h0 rfl
  exact ⟨rfl, rfl, rfl, zpn_11, rfl, false, fun h => by cases h, zk_mem1 h0 (zk_mem1 h1 (zk_mem0)), _, _, rfl, rfl⟩
theorem zq_X11_isContent : ZP (zp_X11_isContent, 4, 0, 0) (yX11_isContent, cX11_isContent, 4, (some .boolean), 11, 0, 0) := by
  have h0 := zt_X11_isContent
  have h1 := zk_drop 16 zp_X11_isContent_0 zp_X11_isContent_1 h0 rfl
  exact ⟨rfl, rfl, rfl, zpn_11, rfl, false, fun h => by cases h, zk_mem1 h0 (zk_mem1 h1 (zk_mem0)), _, _, rfl, rfl⟩
theorem zq_X11_grasped : ZP (zp_X11_grasped, 3, 0, 0) (yX11_grasped, cX11_grasped, 3, (some .int), 11, 0, 0) := by
  have h0 := zt_X11_grasped
  have h1 := zk_drop 16 zp_X11_grasped_0 zp_X11_grasped_1 h0 rfl
  exact ⟨rfl, rfl, rfl, zpn_11, rfl, false, fun h => by cases h, zk_mem1 h0 (zk_mem1 h1 (zk_mem0)), _, _, rfl, rfl⟩
theorem zq_X11_isWithin : ZP (zp_X11_isWithin, 3, 0, 0) (yX11_isWithin, cX11_isWithin, 3, (some .boolean), 11, 0, 0) := by
  have h0 := zt_X11_isWithin
  exact ⟨rfl, rfl, rfl, zpn_11, rfl, false, fun h => by cases h, zk_mem1 h0 (zk_mem0), _, _, rfl, rfl⟩
theorem zq_X12_in : ZP (zp_X12_in, 6, 0, 0) (yX12_in, cX12_in, 6, (some .boolean), 12, 0, 0) := by
  have h0 := zt_X12_in
  exact ⟨rfl, rfl, rfl, zpn_12, rfl, false, fun h => by cases h, zk_mem1 h0 (zk_mem0), _, _, rfl, rfl⟩
theorem zq_X12_has : ZP (zp_X12_has, 2, 0, 0) (yX12_has, cX12_has, 2, (some .boolean), 12, 0, 0) := by
  have h0 := zt_X12_has
  exact ⟨rfl, rfl, rfl, zpn_12, rfl, false, fun h => by cases h, zk_mem1 h0 (zk_mem0), _, _, rfl, rfl⟩
theorem zq_X12_flag : ZP (zp_X12_flag, 1, 0, 0) (yX12_flag, cX12_flag, 1, (some .int), 12, 0, 0) := by
  have h0 := zt_X12_flag
  exact ⟨rfl, rfl, rfl, zpn_12, rfl, false, fun h => by cases h, zk_mem1 h0 (zk_mem0), _, _, rfl, rfl⟩
theorem zq_X12_enters : ZP (zp_X12_enters, 3, 0, 0) (yX12_enters, cX12_enters, 3, none, 12, 0, 0) := by
  have h0 := zt_X12_enters
  exact ⟨rfl, rfl, rfl, zpn_12, rfl, false, fun h => by cases h, zk_mem1 h0 (zk_mem0), _, _, rfl, rfl⟩
theorem zq_X12_init : ZP (zp_X12_init, 2, 31, 1502) (yX12_init, cX12_init, 2, none, 12, 31, 1502) := by
  have h0 := zt_X12_init
  have h1 := zk_drop 16 zp_X12_init_0 zp_X12_init_1 h0 rfl
  have h2 := zk_drop 16 zp_X12_init_1 zp_X12_init_2 h1 rfl
  have h3 := zk_drop 16 zp_X12_init_2 zp_X12_init_3 h2 rfl
  have h4 := zk_drop 16 zp_X12_init_3 zp_X12_init_4 h3 rfl
  have h5 := zk_drop 16 zp_X12_init_4 zp_X12_init_5 h4 rfl
  have h6 := zk_drop 16 zp_X12_init_5 zp_X12_init_6 h5 rfl
  have h7 := zk_drop 16 zp_X12_init_6 zp_X12_init_7 h6 rfl
  have h8 := zk_drop 16 zp_X12_init_7 zp_X12_init_8 h7 rfl
  exact ⟨rfl, rfl, rfl, zpn_12, rfl, true, fun _ => rfl, zk_mem1 h0 (zk_mem1 h1 (zk_mem1 h2 (zk_mem1 h3 (zk_mem1 h4 (zk_mem1 h5 (zk_mem1 h6 (zk_mem1 h7 (zk_mem1 h8 (zk_mem0))))))))), _, _, rfl, rfl⟩
theorem zq_X12_isLaw : ZP (zp_X12_isLaw, 2, 0, 0) (yX12_isLaw, cX12_isLaw, 2, (some .boolean), 12, 0, 0) := by
  have h0 := zt_X12_isLaw
  exact ⟨rfl, rfl, rfl, zpn_12, rfl, false, fun h => by cases h, zk_mem1 h0 (zk_mem0), _, _, rfl, rfl⟩
theorem zq_X12_isBit : ZP (zp_X12_isBit, 3, 0, 0) (yX12_isBit, cX12_isBit, 3, (some .boolean), 12, 0, 0) := by
  have h0 := zt_X12_isBit
  have h1 := zk_drop 16 zp_X12_isBit_0 zp_X12_isBit_1 h0 rfl
  exact ⟨rfl, rfl, rfl, zpn_12, rfl, false, fun h => by cases h, zk_mem1 h0 (zk_mem1 h1 (zk_mem0)), _, _, rfl, rfl⟩
theorem zq_X12_isOne : ZP (zp_X12_isOne, 2, 0, 0) (yX12_isOne, cX12_isOne, 2, (some .boolean), 12, 0, 0) := by
  have h0 := zt_X12_isOne
  exact ⟨rfl, rfl, rfl, zpn_12, rfl, false, fun h => by cases h, zk_mem1 h0 (zk_mem0), _, _, rfl, rfl⟩
theorem zq_X12_all : ZP (zp_X12_all, 1, 0, 0) (yX12_all, cX12_all, 1, (some .int), 12, 0, 0) := by
  have h0 := zt_X12_all
  exact ⟨rfl, rfl, rfl, zpn_12, rfl, false, fun h => by cases h, zk_mem1 h0 (zk_mem0), _, _, rfl, rfl⟩
theorem zq_X12_lies : ZP (zp_X12_lies, 2, 0, 0) (yX12_lies, cX12_lies, 2, (some .boolean), 12, 0, 0) := by
  have h0 := zt_X12_lies
  exact ⟨rfl, rfl, rfl, zpn_12, rfl, false, fun h => by cases h, zk_mem1 h0 (zk_mem0), _, _, rfl, rfl⟩
theorem zq_X12_heldMany : ZP (zp_X12_heldMany, 4, 0, 0) (yX12_heldMany, cX12_heldMany, 4, (some .int), 12, 0, 0) := by
  have h0 := zt_X12_heldMany
  have h1 := zk_drop 16 zp_X12_heldMany_0 zp_X12_heldMany_1 h0 rfl
  exact ⟨rfl, rfl, rfl, zpn_12, rfl, false, fun h => by cases h, zk_mem1 h0 (zk_mem1 h1 (zk_mem0)), _, _, rfl, rfl⟩
theorem zq_X12_lieMany : ZP (zp_X12_lieMany, 3, 0, 0) (yX12_lieMany, cX12_lieMany, 3, (some .int), 12, 0, 0) := by
  have h0 := zt_X12_lieMany
  have h1 := zk_drop 16 zp_X12_lieMany_0 zp_X12_lieMany_1 h0 rfl
  exact ⟨rfl, rfl, rfl, zpn_12, rfl, false, fun h => by cases h, zk_mem1 h0 (zk_mem1 h1 (zk_mem0)), _, _, rfl, rfl⟩
theorem zq_X12_rights : ZP (zp_X12_rights, 5, 0, 0) (yX12_rights, cX12_rights, 5, (some .int), 12, 0, 0) := by
  have h0 := zt_X12_rights
  have h1 := zk_drop 16 zp_X12_rights_0 zp_X12_rights_1 h0 rfl
  exact ⟨rfl, rfl, rfl, zpn_12, rfl, false, fun h => by cases h, zk_mem1 h0 (zk_mem1 h1 (zk_mem0)), _, _, rfl, rfl⟩
theorem zq_X12_copies : ZP (zp_X12_copies, 3, 0, 0) (yX12_copies, cX12_copies, 3, none, 12, 0, 0) := by
  have h0 := zt_X12_copies
  exact ⟨rfl, rfl, rfl, zpn_12, rfl, false, fun h => by cases h, zk_mem1 h0 (zk_mem0), _, _, rfl, rfl⟩
theorem zq_X12_sign : ZP (zp_X12_sign, 3, 0, 0) (yX12_sign, cX12_sign, 3, (some .int), 12, 0, 0) := by
  have h0 := zt_X12_sign
  have h1 := zk_drop 16 zp_X12_sign_0 zp_X12_sign_1 h0 rfl
  have h2 := zk_drop 16 zp_X12_sign_1 zp_X12_sign_2 h1 rfl
  exact ⟨rfl, rfl, rfl, zpn_12, rfl, false, fun h => by cases h, zk_mem1 h0 (zk_mem1 h1 (zk_mem1 h2 (zk_mem0))), _, _, rfl, rfl⟩
theorem zq_X12_end : ZP (zp_X12_end, 2, 0, 0) (yX12_end, cX12_end, 2, (some .boolean), 12, 0, 0) := by
  have h0 := zt_X12_end
  have h1 := zk_drop 16 zp_X12_end_0 zp_X12_end_1 h0 rfl
  exact ⟨rfl, rfl, rfl, zpn_12, rfl, false, fun h => by cases h, zk_mem1 h0 (zk_mem1 h1 (zk_mem0)), _, _, rfl, rfl⟩
theorem zq_X12_begins : ZP (zp_X12_begins, 3, 0, 0) (yX12_begins, cX12_begins, 3, (some .int), 12, 0, 0) := by
  have h0 := zt_X12_begins
  have h1 := zk_drop 16 zp_X12_begins_0 zp_X12_begins_1 h0 rfl
  exact ⟨rfl, rfl, rfl, zpn_12, rfl, false, fun h => by cases h, zk_mem1 h0 (zk_mem1 h1 (zk_mem0)), _, _, rfl, rfl⟩
theorem zq_X12_faultOf : ZP (zp_X12_faultOf, 5, 0, 0) (yX12_faultOf, cX12_faultOf, 5, (some .int), 12, 0, 0) := by
  have h0 := zt_X12_faultOf
  have h1 := zk_drop 16 zp_X12_faultOf_0 zp_X12_faultOf_1 h0 rfl
  have h2 := zk_drop 16 zp_X12_faultOf_1 zp_X12_faultOf_2 h1 rfl
  exact ⟨rfl, rfl, rfl, zpn_12, rfl, false, fun h => by cases h, zk_mem1 h0 (zk_mem1 h1 (zk_mem1 h2 (zk_mem0))), _, _, rfl, rfl⟩
theorem zq_X12_readsLines : ZP (zp_X12_readsLines, 8, 0, 0) (yX12_readsLines, cX12_readsLines, 8, (some .int), 12, 0, 0) := by
  have h0 := zt_X12_readsLines
  have h1 := zk_drop 16 zp_X12_readsLines_0 zp_X12_readsLines_1 h0 rfl
  have h2 := zk_drop 16 zp_X12_readsLines_1 zp_X12_readsLines_2 h1 rfl
  have h3 := zk_drop 16 zp_X12_readsLines_2 zp_X12_readsLines_3 h2 rfl
  have h4 := zk_drop 16 zp_X12_readsLines_3 zp_X12_readsLines_4 h3 rfl
  exact ⟨rfl, rfl, rfl, zpn_12, rfl, false, fun h => by cases h, zk_mem1 h0 (zk_mem1 h1 (zk_mem1 h2 (zk_mem1 h3 (zk_mem1 h4 (zk_mem0))))), _, _, rfl, rfl⟩
theorem zq_X12_came : ZP (zp_X12_came, 1, 0, 0) (yX12_came, cX12_came, 1, (some .int), 12, 0, 0) := by
  have h0 := zt_X12_came
  have h1 := zk_drop 16 zp_X12_came_0 zp_X12_came_1 h0 rfl
  exact ⟨rfl, rfl, rfl, zpn_12, rfl, false, fun h => by cases h, zk_mem1 h0 (zk_mem1 h1 (zk_mem0)), _, _, rfl, rfl⟩
theorem zq_X12_laws : ZP (zp_X12_laws, 3, 0, 0) (yX12_laws, cX12_laws, 3, (some .int), 12, 0, 0) := by
  have h0 := zt_X12_laws
  have h1 := zk_drop 16 zp_X12_laws_0 zp_X12_laws_1 h0 rfl
  have h2 := zk_drop 16 zp_X12_laws_1 zp_X12_laws_2 h1 rfl
  exact ⟨rfl, rfl, rfl, zpn_12, rfl, false, fun h => by cases h, zk_mem1 h0 (zk_mem1 h1 (zk_mem1 h2 (zk_mem0))), _, _, rfl, rfl⟩
theorem zq_X12_people : ZP (zp_X12_people, 3, 0, 0) (yX12_people, cX12_people, 3, (some .int), 12, 0, 0) := by
  have h0 := zt_X12_people
  have h1 := zk_drop 16 zp_X12_people_0 zp_X12_people_1 h0 rfl
  have h2 := zk_drop 16 zp_X12_people_1 zp_X12_people_2 h1 rfl
  exact ⟨rfl, rfl, rfl, zpn_12, rfl, false, fun h => by cases h, zk_mem1 h0 (zk_mem1 h1 (zk_mem1 h2 (zk_mem0))), _, _, rfl, rfl⟩
theorem zq_X12_readsRule : ZP (zp_X12_readsRule, 3, 0, 0) (yX12_readsRule, cX12_readsRule, 3, (some .int), 12, 0, 0) := by
  have h0 := zt_X12_readsRule
  have h1 := zk_drop 16 zp_X12_readsRule_0 zp_X12_readsRule_1 h0 rfl
  exact ⟨rfl, rfl, rfl, zpn_12, rfl, false, fun h => by cases h, zk_mem1 h0 (zk_mem1 h1 (zk_mem0)), _, _, rfl, rfl⟩
theorem zq_X12_laysCode : ZP (zp_X12_laysCode, 4, 0, 0) (yX12_laysCode, cX12_laysCode, 4, none, 12, 0, 0) := by
  have h0 := zt_X12_laysCode
  have h1 := zk_drop 16 zp_X12_laysCode_0 zp_X12_laysCode_1 h0 rfl
  exact ⟨rfl, rfl, rfl, zpn_12, rfl, false, fun h => by cases h, zk_mem1 h0 (zk_mem1 h1 (zk_mem0)), _, _, rfl, rfl⟩
theorem zq_X12_rule : ZP (zp_X12_rule, 2, 0, 0) (yX12_rule, cX12_rule, 2, (some .int), 12, 0, 0) := by
  have h0 := zt_X12_rule
  exact ⟨rfl, rfl, rfl, zpn_12, rfl, false, fun h => by cases h, zk_mem1 h0 (zk_mem0), _, _, rfl, rfl⟩
theorem zq_X12_lyingIn : ZP (zp_X12_lyingIn, 4, 0, 0) (yX12_lyingIn, cX12_lyingIn, 4, (some .int), 12, 0, 0) := by
  have h0 := zt_X12_lyingIn
  have h1 := zk_drop 16 zp_X12_lyingIn_0 zp_X12_lyingIn_1 h0 rfl
  exact ⟨rfl, rfl, rfl, zpn_12, rfl, false, fun h => by cases h, zk_mem1 h0 (zk_mem1 h1 (zk_mem0)), _, _, rfl, rfl⟩
theorem zq_X12_sheet : ZP (zp_X12_sheet, 9, 0, 0) (yX12_sheet, cX12_sheet, 9, (some .int), 12, 0, 0) := by
  have h0 := zt_X12_sheet
  have h1 := zk_drop 16 zp_X12_sheet_0 zp_X12_sheet_1 h0 rfl
  have h2 := zk_drop 16 zp_X12_sheet_1 zp_X12_sheet_2 h1 rfl
  have h3 := zk_drop 16 zp_X12_sheet_2 zp_X12_sheet_3 h2 rfl
  have h4 := zk_drop 16 zp_X12_sheet_3 zp_X12_sheet_4 h3 rfl
  have h5 := zk_drop 16 zp_X12_sheet_4 zp_X12_sheet_5 h4 rfl
  exact ⟨rfl, rfl, rfl, zpn_12, rfl, false, fun h => by cases h, zk_mem1 h0 (zk_mem1 h1 (zk_mem1 h2 (zk_mem1 h3 (zk_mem1 h4 (zk_mem1 h5 (zk_mem0)))))), _, _, rfl, rfl⟩
theorem zq_X12_putsBy : ZP (zp_X12_putsBy, 2, 0, 0) (yX12_putsBy, cX12_putsBy, 2, none, 12, 0, 0) := by
  have h0 := zt_X12_putsBy
  have h1 := zk_drop 16 zp_X12_putsBy_0 zp_X12_putsBy_1 h0 rfl
  exact ⟨rfl, rfl, rfl, zpn_12, rfl, false, fun h => by cases h, zk_mem1 h0 (zk_mem1 h1 (zk_mem0)), _, _, rfl, rfl⟩
theorem zq_X12_adds : ZP (zp_X12_adds, 3, 0, 0) (yX12_adds, cX12_adds, 3, (some .int), 12, 0, 0) := by
  have h0 := zt_X12_adds
  have h1 := zk_drop 16 zp_X12_adds_0 zp_X12_adds_1 h0 rfl
  have h2 := zk_drop 16 zp_X12_adds_1 zp_X12_adds_2 h1 rfl
  exact ⟨rfl, rfl, rfl, zpn_12, rfl, false, fun h => by cases h, zk_mem1 h0 (zk_mem1 h1 (zk_mem1 h2 (zk_mem0))), _, _, rfl, rfl⟩
theorem zq_X12_counted : ZP (zp_X12_counted, 2, 0, 0) (yX12_counted, cX12_counted, 2, (some .int), 12, 0, 0) := by
  have h0 := zt_X12_counted
  exact ⟨rfl, rfl, rfl, zpn_12, rfl, false, fun h => by cases h, zk_mem1 h0 (zk_mem0), _, _, rfl, rfl⟩
theorem zq_X12_undo : ZP (zp_X12_undo, 2, 0, 0) (yX12_undo, cX12_undo, 2, (some .int), 12, 0, 0) := by
  have h0 := zt_X12_undo
  have h1 := zk_drop 16 zp_X12_undo_0 zp_X12_undo_1 h0 rfl
  have h2 := zk_drop 16 zp_X12_undo_1 zp_X12_undo_2 h1 rfl
  exact ⟨rfl, rfl, rfl, zpn_12, rfl, false, fun h => by cases h, zk_mem1 h0 (zk_mem1 h1 (zk_mem1 h2 (zk_mem0))), _, _, rfl, rfl⟩
theorem zq_X12_dayGoes : ZP (zp_X12_dayGoes, 5, 0, 0) (yX12_dayGoes, cX12_dayGoes, 5, (some .int), 12, 0, 0) := by
  have h0 := zt_X12_dayGoes
  have h1 := zk_drop 16 zp_X12_dayGoes_0 zp_X12_dayGoes_1 h0 rfl
  have h2 := zk_drop 16 zp_X12_dayGoes_1 zp_X12_dayGoes_2 h1 rfl
  have h3 := zk_drop 16 zp_X12_dayGoes_2 zp_X12_dayGoes_3 h2 rfl
  have h4 := zk_drop 16 zp_X12_dayGoes_3 zp_X12_dayGoes_4 h3 rfl
  have h5 := zk_drop 16 zp_X12_dayGoes_4 zp_X12_dayGoes_5 h4 rfl
  exact ⟨rfl, rfl, rfl, zpn_12, rfl, false, fun h => by cases h, zk_mem1 h0 (zk_mem1 h1 (zk_mem1 h2 (zk_mem1 h3 (zk_mem1 h4 (zk_mem1 h5 (zk_mem0)))))), _, _, rfl, rfl⟩
theorem zq_X12_goesOn : ZP (zp_X12_goesOn, 5, 0, 0) (yX12_goesOn, cX12_goesOn, 5, (some .int), 12, 0, 0) := by
  have h0 := zt_X12_goesOn
  have h1 := zk_drop 16 zp_X12_goesOn_0 zp_X12_goesOn_1 h0 rfl
  exact ⟨rfl, rfl, rfl, zpn_12, rfl, false, fun h => by cases h, zk_mem1 h0 (zk_mem1 h1 (zk_mem0)), _, _, rfl, rfl⟩
theorem zq_X12_carriesOne : ZP (zp_X12_carriesOne, 2, 0, 0) (yX12_carriesOne, cX12_carriesOne, 2, (some .int), 12, 0, 0) := by
  have h0 := zt_X12_carriesOne
  have h1 := zk_drop 16 zp_X12_carriesOne_0 zp_X12_carriesOne_1 h0 rfl
  exact ⟨rfl, rfl, rfl, zpn_12, rfl, false, fun h => by cases h, zk_mem1 h0 (zk_mem1 h1 (zk_mem0)), _, _, rfl, rfl⟩
theorem zq_X12_flingsOne : ZP (zp_X12_flingsOne, 3, 0, 0) (yX12_flingsOne, cX12_flingsOne, 3, (some .int), 12, 0, 0) := by
  have h0 := zt_X12_flingsOne
  have h1 := zk_drop 16 zp_X12_flingsOne_0 zp_X12_flingsOne_1 h0 rfl
  have h2 := zk_drop 16 zp_X12_flingsOne_1 zp_X12_flingsOne_2 h1 rfl
  exact ⟨rfl, rfl, rfl, zpn_12, rfl, false, fun h => by cases h, zk_mem1 h0 (zk_mem1 h1 (zk_mem1 h2 (zk_mem0))), _, _, rfl, rfl⟩
theorem zq_X12_sweepsOne : ZP (zp_X12_sweepsOne, 4, 0, 0) (yX12_sweepsOne, cX12_sweepsOne, 4, (some .int), 12, 0, 0) := by
  have h0 := zt_X12_sweepsOne
  have h1 := zk_drop 16 zp_X12_sweepsOne_0 zp_X12_sweepsOne_1 h0 rfl
  have h2 := zk_drop 16 zp_X12_sweepsOne_1 zp_X12_sweepsOne_2 h1 rfl
  have h3 := zk_drop 16 zp_X12_sweepsOne_2 zp_X12_sweepsOne_3 h2 rfl
  have h4 := zk_drop 16 zp_X12_sweepsOne_3 zp_X12_sweepsOne_4 h3 rfl
  exact ⟨rfl, rfl, rfl, zpn_12, rfl, false, fun h => by cases h, zk_mem1 h0 (zk_mem1 h1 (zk_mem1 h2 (zk_mem1 h3 (zk_mem1 h4 (zk_mem0))))), _, _, rfl, rfl⟩
theorem zq_X12_walksOne : ZP (zp_X12_walksOne, 4, 0, 0) (yX12_walksOne, cX12_walksOne, 4, (some .int), 12, 0, 0) := by
  have h0 := zt_X12_walksOne
  have h1 := zk_drop 16 zp_X12_walksOne_0 zp_X12_walksOne_1 h0 rfl
  have h2 := zk_drop 16 zp_X12_walksOne_1 zp_X12_walksOne_2 h1 rfl
  exact ⟨rfl, rfl, rfl, zpn_12, rfl, false, fun h => by cases h, zk_mem1 h0 (zk_mem1 h1 (zk_mem1 h2 (zk_mem0))), _, _, rfl, rfl⟩
theorem zq_X12_givesAll : ZP (zp_X12_givesAll, 5, 0, 0) (yX12_givesAll, cX12_givesAll, 5, (some .int), 12, 0, 0) := by
  have h0 := zt_X12_givesAll
  have h1 := zk_drop 16 zp_X12_givesAll_0 zp_X12_givesAll_1 h0 rfl
  have h2 := zk_drop 16 zp_X12_givesAll_1 zp_X12_givesAll_2 h1 rfl
  exact ⟨rfl, rfl, rfl, zpn_12, rfl, false, fun h => by cases h, zk_mem1 h0 (zk_mem1 h1 (zk_mem1 h2 (zk_mem0))), _, _, rfl, rfl⟩
theorem zq_X12_fallsFrom : ZP (zp_X12_fallsFrom, 2, 0, 0) (yX12_fallsFrom, cX12_fallsFrom, 2, (some .int), 12, 0, 0) := by
  have h0 := zt_X12_fallsFrom
  have h1 := zk_drop 16 zp_X12_fallsFrom_0 zp_X12_fallsFrom_1 h0 rfl
  exact ⟨rfl, rfl, rfl, zpn_12, rfl, false, fun h => by cases h, zk_mem1 h0 (zk_mem1 h1 (zk_mem0)), _, _, rfl, rfl⟩
theorem zq_X12_windTo : ZP (zp_X12_windTo, 3, 0, 0) (yX12_windTo, cX12_windTo, 3, (some .int), 12, 0, 0) := by
  have h0 := zt_X12_windTo
  have h1 := zk_drop 16 zp_X12_windTo_0 zp_X12_windTo_1 h0 rfl
  exact ⟨rfl, rfl, rfl, zpn_12, rfl, false, fun h => by cases h, zk_mem1 h0 (zk_mem1 h1 (zk_mem0)), _, _, rfl, rfl⟩
theorem zq_X12_carries : ZP (zp_X12_carries, 2, 0, 0) (yX12_carries, cX12_carries, 2, (some .int), 12, 0, 0) := by
  have h0 := zt_X12_carries
  exact ⟨rfl, rfl, rfl, zpn_12, rfl, false, fun h => by cases h, zk_mem1 h0 (zk_mem0), _, _, rfl, rfl⟩
theorem zq_X12_flings : ZP (zp_X12_flings, 3, 0, 0) (yX12_flings, cX12_flings, 3, (some .int), 12, 0, 0) := by
  have h0 := zt_X12_flings
  exact ⟨rfl, rfl, rfl, zpn_12, rfl, false, fun h => by cases h, zk_mem1 h0 (zk_mem0), _, _, rfl, rfl⟩
theorem zq_X12_sweeps : ZP (zp_X12_sweeps, 2, 0, 0) (yX12_sweeps, cX12_sweeps, 2, (some .int), 12, 0, 0) := by
  have h0 := zt_X12_sweeps
  exact ⟨rfl, rfl, rfl, zpn_12, rfl, false, fun h => by cases h, zk_mem1 h0 (zk_mem0), _, _, rfl, rfl⟩
theorem zq_X12_days : ZP (zp_X12_days, 3, 0, 0) (yX12_days, cX12_days, 3, (some .int), 12, 0, 0) := by
  have h0 := zt_X12_days
  have h1 := zk_drop 16 zp_X12_days_0 zp_X12_days_1 h0 rfl
  have h2 := zk_drop 16 zp_X12_days_1 zp_X12_days_2 h1 rfl
  exact ⟨rfl, rfl, rfl, zpn_12, rfl, false, fun h => by cases h, zk_mem1 h0 (zk_mem1 h1 (zk_mem1 h2 (zk_mem0))), _, _, rfl, rfl⟩
theorem zq_X12_walks : ZP (zp_X12_walks, 3, 0, 0) (yX12_walks, cX12_walks, 3, (some .int), 12, 0, 0) := by
  have h0 := zt_X12_walks
  exact ⟨rfl, rfl, rfl, zpn_12, rfl, false, fun h => by cases h, zk_mem1 h0 (zk_mem0), _, _, rfl, rfl⟩
theorem zq_X12_gives : ZP (zp_X12_gives, 4, 0, 0) (yX12_gives, cX12_gives, 4, (some .int), 12, 0, 0) := by
  have h0 := zt_X12_gives
  exact ⟨rfl, rfl, rfl, zpn_12, rfl, false, fun h => by cases h, zk_mem1 h0 (zk_mem0), _, _, rfl, rfl⟩
theorem zq_X12_falls : ZP (zp_X12_falls, 2, 0, 0) (yX12_falls, cX12_falls, 2, (some .int), 12, 0, 0) := by
  have h0 := zt_X12_falls
  exact ⟨rfl, rfl, rfl, zpn_12, rfl, false, fun h => by cases h, zk_mem1 h0 (zk_mem0), _, _, rfl, rfl⟩
theorem zq_X12_wind : ZP (zp_X12_wind, 2, 0, 0) (yX12_wind, cX12_wind, 2, (some .int), 12, 0, 0) := by
  have h0 := zt_X12_wind
  exact ⟨rfl, rfl, rfl, zpn_12, rfl, false, fun h => by cases h, zk_mem1 h0 (zk_mem0), _, _, rfl, rfl⟩
theorem zq_X12_wedding : ZP (zp_X12_wedding, 5, 0, 0) (yX12_wedding, cX12_wedding, 5, (some .int), 12, 0, 0) := by
  have h0 := zt_X12_wedding
  have h1 := zk_drop 16 zp_X12_wedding_0 zp_X12_wedding_1 h0 rfl
  have h2 := zk_drop 16 zp_X12_wedding_1 zp_X12_wedding_2 h1 rfl
  have h3 := zk_drop 16 zp_X12_wedding_2 zp_X12_wedding_3 h2 rfl
  have h4 := zk_drop 16 zp_X12_wedding_3 zp_X12_wedding_4 h3 rfl
  exact ⟨rfl, rfl, rfl, zpn_12, rfl, false, fun h => by cases h, zk_mem1 h0 (zk_mem1 h1 (zk_mem1 h2 (zk_mem1 h3 (zk_mem1 h4 (zk_mem0))))), _, _, rfl, rfl⟩
theorem zq_X12_later : ZP (zp_X12_later, 4, 0, 0) (yX12_later, cX12_later, 4, (some .int), 12, 0, 0) := by
  have h0 := zt_X12_later
  have h1 := zk_drop 16 zp_X12_later_0 zp_X12_later_1 h0 rfl
  have h2 := zk_drop 16 zp_X12_later_1 zp_X12_later_2 h1 rfl
  have h3 := zk_drop 16 zp_X12_later_2 zp_X12_later_3 h2 rfl
  exact ⟨rfl, rfl, rfl, zpn_12, rfl, false, fun h => by cases h, zk_mem1 h0 (zk_mem1 h1 (zk_mem1 h2 (zk_mem1 h3 (zk_mem0)))), _, _, rfl, rfl⟩
theorem zq_X12_when : ZP (zp_X12_when, 4, 0, 0) (yX12_when, cX12_when, 4, (some .int), 12, 0, 0) := by
  have h0 := zt_X12_when
  have h1 := zk_drop 16 zp_X12_when_0 zp_X12_when_1 h0 rfl
  have h2 := zk_drop 16 zp_X12_when_1 zp_X12_when_2 h1 rfl
  have h3 := zk_drop 16 zp_X12_when_2 zp_X12_when_3 h2 rfl
  exact ⟨rfl, rfl, rfl, zpn_12, rfl, false, fun h => by cases h, zk_mem1 h0 (zk_mem1 h1 (zk_mem1 h2 (zk_mem1 h3 (zk_mem0)))), _, _, rfl, rfl⟩
theorem zq_X12_clean : ZP (zp_X12_clean, 2, 0, 0) (yX12_clean, cX12_clean, 2, (some .int), 12, 0, 0) := by
  have h0 := zt_X12_clean
  have h1 := zk_drop 16 zp_X12_clean_0 zp_X12_clean_1 h0 rfl
  have h2 := zk_drop 16 zp_X12_clean_1 zp_X12_clean_2 h1 rfl
  exact ⟨rfl, rfl, rfl, zpn_12, rfl, false, fun h => by cases h, zk_mem1 h0 (zk_mem1 h1 (zk_mem1 h2 (zk_mem0))), _, _, rfl, rfl⟩
theorem zq_X12_drifts : ZP (zp_X12_drifts, 4, 0, 0) (yX12_drifts, cX12_drifts, 4, (some .int), 12, 0, 0) := by
  have h0 := zt_X12_drifts
  have h1 := zk_drop 16 zp_X12_drifts_0 zp_X12_drifts_1 h0 rfl
  have h2 := zk_drop 16 zp_X12_drifts_1 zp_X12_drifts_2 h1 rfl
  have h3 := zk_drop 16 zp_X12_drifts_2 zp_X12_drifts_3 h2 rfl
  have h4 := zk_drop 16 zp_X12_drifts_3 zp_X12_drifts_4 h3 rfl
  exact ⟨rfl, rfl, rfl, zpn_12, rfl, false, fun h => by cases h, zk_mem1 h0 (zk_mem1 h1 (zk_mem1 h2 (zk_mem1 h3 (zk_mem1 h4 (zk_mem0))))), _, _, rfl, rfl⟩
theorem zq_X12_aims : ZP (zp_X12_aims, 8, 0, 0) (yX12_aims, cX12_aims, 8, (some .int), 12, 0, 0) := by
  have h0 := zt_X12_aims
  have h1 := zk_drop 16 zp_X12_aims_0 zp_X12_aims_1 h0 rfl
  have h2 := zk_drop 16 zp_X12_aims_1 zp_X12_aims_2 h1 rfl
  have h3 := zk_drop 16 zp_X12_aims_2 zp_X12_aims_3 h2 rfl
  have h4 := zk_drop 16 zp_X12_aims_3 zp_X12_aims_4 h3 rfl
  have h5 := zk_drop 16 zp_X12_aims_4 zp_X12_aims_5 h4 rfl
  exact ⟨rfl, rfl, rfl, zpn_12, rfl, false, fun h => by cases h, zk_mem1 h0 (zk_mem1 h1 (zk_mem1 h2 (zk_mem1 h3 (zk_mem1 h4 (zk_mem1 h5 (zk_mem0)))))), _, _, rfl, rfl⟩
theorem zq_X12_prays : ZP (zp_X12_prays, 5, 0, 0) (yX12_prays, cX12_prays, 5, (some .int), 12, 0, 0) := by
  have h0 := zt_X12_prays
  have h1 := zk_drop 16 zp_X12_prays_0 zp_X12_prays_1 h0 rfl
  have h2 := zk_drop 16 zp_X12_prays_1 zp_X12_prays_2 h1 rfl
  have h3 := zk_drop 16 zp_X12_prays_2 zp_X12_prays_3 h2 rfl
  have h4 := zk_drop 16 zp_X12_prays_3 zp_X12_prays_4 h3 rfl
  exact ⟨rfl, rfl, rfl, zpn_12, rfl, false, fun h => by cases h, zk_mem1 h0 (zk_mem1 h1 (zk_mem1 h2 (zk_mem1 h3 (zk_mem1 h4 (zk_mem0))))), _, _, rfl, rfl⟩
theorem zq_X12_seeks : ZP (zp_X12_seeks, 8, 0, 0) (yX12_seeks, cX12_seeks, 8, (some .int), 12, 0, 0) := by
  have h0 := zt_X12_seeks
  have h1 := zk_drop 16 zp_X12_seeks_0 zp_X12_seeks_1 h0 rfl
  have h2 := zk_drop 16 zp_X12_seeks_1 zp_X12_seeks_2 h1 rfl
  have h3 := zk_drop 16 zp_X12_seeks_2 zp_X12_seeks_3 h2 rfl
  have h4 := zk_drop 16 zp_X12_seeks_3 zp_X12_seeks_4 h3 rfl
  have h5 := zk_drop 16 zp_X12_seeks_4 zp_X12_seeks_5 h4 rfl
  exact ⟨rfl, rfl, rfl, zpn_12, rfl, false, fun h => by cases h, zk_mem1 h0 (zk_mem1 h1 (zk_mem1 h2 (zk_mem1 h3 (zk_mem1 h4 (zk_mem1 h5 (zk_mem0)))))), _, _, rfl, rfl⟩
theorem zq_X12_whole : ZP (zp_X12_whole, 4, 0, 0) (yX12_whole, cX12_whole, 4, (some .int), 12, 0, 0) := by
  have h0 := zt_X12_whole
  have h1 := zk_drop 16 zp_X12_whole_0 zp_X12_whole_1 h0 rfl
  have h2 := zk_drop 16 zp_X12_whole_1 zp_X12_whole_2 h1 rfl
  have h3 := zk_drop 16 zp_X12_whole_2 zp_X12_whole_3 h2 rfl
  exact ⟨rfl, rfl, rfl, zpn_12, rfl, false, fun h => by cases h, zk_mem1 h0 (zk_mem1 h1 (zk_mem1 h2 (zk_mem1 h3 (zk_mem0)))), _, _, rfl, rfl⟩
theorem zq_X12_holdsOfAll : ZP (zp_X12_holdsOfAll, 4, 0, 0) (yX12_holdsOfAll, cX12_holdsOfAll, 4, (some .boolean), 12, 0, 0) := by
  have h0 := zt_X12_holdsOfAll
  have h1 := zk_drop 16 zp_X12_holdsOfAll_0 zp_X12_holdsOfAll_1 h0 rfl
  exact ⟨rfl, rfl, rfl, zpn_12, rfl, false, fun h => by cases h, zk_mem1 h0 (zk_mem1 h1 (zk_mem0)), _, _, rfl, rfl⟩
theorem zq_X12_quorum : ZP (zp_X12_quorum, 4, 0, 0) (yX12_quorum, cX12_quorum, 4, (some .int), 12, 0, 0) := by
  have h0 := zt_X12_quorum
  have h1 := zk_drop 16 zp_X12_quorum_0 zp_X12_quorum_1 h0 rfl
  have h2 := zk_drop 16 zp_X12_quorum_1 zp_X12_quorum_2 h1 rfl
  have h3 := zk_drop 16 zp_X12_quorum_2 zp_X12_quorum_3 h2 rfl
  exact ⟨rfl, rfl, rfl, zpn_12, rfl, false, fun h => by cases h, zk_mem1 h0 (zk_mem1 h1 (zk_mem1 h2 (zk_mem1 h3 (zk_mem0)))), _, _, rfl, rfl⟩
theorem zq_X12_awardsFrom : ZP (zp_X12_awardsFrom, 5, 0, 0) (yX12_awardsFrom, cX12_awardsFrom, 5, none, 12, 0, 0) := by
  have h0 := zt_X12_awardsFrom
  have h1 := zk_drop 16 zp_X12_awardsFrom_0 zp_X12_awardsFrom_1 h0 rfl
  have h2 := zk_drop 16 zp_X12_awardsFrom_1 zp_X12_awardsFrom_2 h1 rfl
  have h3 := zk_drop 16 zp_X12_awardsFrom_2 zp_X12_awardsFrom_3 h2 rfl
  have h4 := zk_drop 16 zp_X12_awardsFrom_3 zp_X12_awardsFrom_4 h3 rfl
  exact ⟨rfl, rfl, rfl, zpn_12, rfl, false, fun h => by cases h, zk_mem1 h0 (zk_mem1 h1 (zk_mem1 h2 (zk_mem1 h3 (zk_mem1 h4 (zk_mem0))))), _, _, rfl, rfl⟩
theorem zq_X12_awards : ZP (zp_X12_awards, 2, 0, 0) (yX12_awards, cX12_awards, 2, (some .int), 12, 0, 0) := by
  have h0 := zt_X12_awards
  have h1 := zk_drop 16 zp_X12_awards_0 zp_X12_awards_1 h0 rfl
  exact ⟨rfl, rfl, rfl, zpn_12, rfl, false, fun h => by cases h, zk_mem1 h0 (zk_mem1 h1 (zk_mem0)), _, _, rfl, rfl⟩
theorem zq_X12_needs : ZP (zp_X12_needs, 6, 0, 0) (yX12_needs, cX12_needs, 6, (some .int), 12, 0, 0) := by
  have h0 := zt_X12_needs
  have h1 := zk_drop 16 zp_X12_needs_0 zp_X12_needs_1 h0 rfl
  have h2 := zk_drop 16 zp_X12_needs_1 zp_X12_needs_2 h1 rfl
  have h3 := zk_drop 16 zp_X12_needs_2 zp_X12_needs_3 h2 rfl
  have h4 := zk_drop 16 zp_X12_needs_3 zp_X12_needs_4 h3 rfl
  exact ⟨rfl, rfl, rfl, zpn_12, rfl, false, fun h => by cases h, zk_mem1 h0 (zk_mem1 h1 (zk_mem1 h2 (zk_mem1 h3 (zk_mem1 h4 (zk_mem0))))), _, _, rfl, rfl⟩
theorem zq_X12_line : ZP (zp_X12_line, 3, 0, 0) (yX12_line, cX12_line, 3, (some .int), 12, 0, 0) := by
  have h0 := zt_X12_line
  have h1 := zk_drop 16 zp_X12_line_0 zp_X12_line_1 h0 rfl
  have h2 := zk_drop 16 zp_X12_line_1 zp_X12_line_2 h1 rfl
  exact ⟨rfl, rfl, rfl, zpn_12, rfl, false, fun h => by cases h, zk_mem1 h0 (zk_mem1 h1 (zk_mem1 h2 (zk_mem0))), _, _, rfl, rfl⟩
theorem zq_X12_carriesIt : ZP (zp_X12_carriesIt, 4, 0, 0) (yX12_carriesIt, cX12_carriesIt, 4, (some .boolean), 12, 0, 0) := by
  have h0 := zt_X12_carriesIt
  have h1 := zk_drop 16 zp_X12_carriesIt_0 zp_X12_carriesIt_1 h0 rfl
  have h2 := zk_drop 16 zp_X12_carriesIt_1 zp_X12_carriesIt_2 h1 rfl
  exact ⟨rfl, rfl, rfl, zpn_12, rfl, false, fun h => by cases h, zk_mem1 h0 (zk_mem1 h1 (zk_mem1 h2 (zk_mem0))), _, _, rfl, rfl⟩
theorem zq_X12_power : ZP (zp_X12_power, 4, 0, 0) (yX12_power, cX12_power, 4, (some .int), 12, 0, 0) := by
  have h0 := zt_X12_power
  have h1 := zk_drop 16 zp_X12_power_0 zp_X12_power_1 h0 rfl
  have h2 := zk_drop 16 zp_X12_power_1 zp_X12_power_2 h1 rfl
  have h3 := zk_drop 16 zp_X12_power_2 zp_X12_power_3 h2 rfl
  exact ⟨rfl, rfl, rfl, zpn_12, rfl, false, fun h => by cases h, zk_mem1 h0 (zk_mem1 h1 (zk_mem1 h2 (zk_mem1 h3 (zk_mem0)))), _, _, rfl, rfl⟩
theorem zq_X12_least : ZP (zp_X12_least, 5, 0, 0) (yX12_least, cX12_least, 5, (some .int), 12, 0, 0) := by
  have h0 := zt_X12_least
  have h1 := zk_drop 16 zp_X12_least_0 zp_X12_least_1 h0 rfl
  have h2 := zk_drop 16 zp_X12_least_1 zp_X12_least_2 h1 rfl
  have h3 := zk_drop 16 zp_X12_least_2 zp_X12_least_3 h2 rfl
  exact ⟨rfl, rfl, rfl, zpn_12, rfl, false, fun h => by cases h, zk_mem1 h0 (zk_mem1 h1 (zk_mem1 h2 (zk_mem1 h3 (zk_mem0)))), _, _, rfl, rfl⟩
theorem zq_X12_seen : ZP (zp_X12_seen, 4, 0, 0) (yX12_seen, cX12_seen, 4, (some .int), 12, 0, 0) := by
  have h0 := zt_X12_seen
  have h1 := zk_drop 16 zp_X12_seen_0 zp_X12_seen_1 h0 rfl
  have h2 := zk_drop 16 zp_X12_seen_1 zp_X12_seen_2 h1 rfl
  have h3 := zk_drop 16 zp_X12_seen_2 zp_X12_seen_3 h2 rfl
  exact ⟨rfl, rfl, rfl, zpn_12, rfl, false, fun h => by cases h, zk_mem1 h0 (zk_mem1 h1 (zk_mem1 h2 (zk_mem1 h3 (zk_mem0)))), _, _, rfl, rfl⟩
theorem zq_X12_forget : ZP (zp_X12_forget, 2, 0, 0) (yX12_forget, cX12_forget, 2, (some .int), 12, 0, 0) := by
  have h0 := zt_X12_forget
  exact ⟨rfl, rfl, rfl, zpn_12, rfl, false, fun h => by cases h, zk_mem1 h0 (zk_mem0), _, _, rfl, rfl⟩
theorem zq_X12_winds : ZP (zp_X12_winds, 5, 0, 0) (yX12_winds, cX12_winds, 5, (some .int), 12, 0, 0) := by
  have h0 := zt_X12_winds
  have h1 := zk_drop 16 zp_X12_winds_0 zp_X12_winds_1 h0 rfl
  have h2 := zk_drop 16 zp_X12_winds_1 zp_X12_winds_2 h1 rfl
  have h3 := zk_drop 16 zp_X12_winds_2 zp_X12_winds_3 h2 rfl
  exact ⟨rfl, rfl, rfl, zpn_12, rfl, false, fun h => by cases h, zk_mem1 h0 (zk_mem1 h1 (zk_mem1 h2 (zk_mem1 h3 (zk_mem0)))), _, _, rfl, rfl⟩
theorem zq_X12_guess : ZP (zp_X12_guess, 2, 0, 0) (yX12_guess, cX12_guess, 2, (some .int), 12, 0, 0) := by
  have h0 := zt_X12_guess
  have h1 := zk_drop 16 zp_X12_guess_0 zp_X12_guess_1 h0 rfl
  exact ⟨rfl, rfl, rfl, zpn_12, rfl, false, fun h => by cases h, zk_mem1 h0 (zk_mem1 h1 (zk_mem0)), _, _, rfl, rfl⟩
theorem zq_X12_looks : ZP (zp_X12_looks, 9, 0, 0) (yX12_looks, cX12_looks, 9, (some .int), 12, 0, 0) := by
  have h0 := zt_X12_looks
  have h1 := zk_drop 16 zp_X12_looks_0 zp_X12_looks_1 h0 rfl
  have h2 := zk_drop 16 zp_X12_looks_1 zp_X12_looks_2 h1 rfl
  have h3 := zk_drop 16 zp_X12_looks_2 zp_X12_looks_3 h2 rfl
  have h4 := zk_drop 16 zp_X12_looks_3 zp_X12_looks_4 h3 rfl
  have h5 := zk_drop 16 zp_X12_looks_4 zp_X12_looks_5 h4 rfl
  have h6 := zk_drop 16 zp_X12_looks_5 zp_X12_looks_6 h5 rfl
  exact ⟨rfl, rfl, rfl, zpn_12, rfl, false, fun h => by cases h, zk_mem1 h0 (zk_mem1 h1 (zk_mem1 h2 (zk_mem1 h3 (zk_mem1 h4 (zk_mem1 h5 (zk_mem1 h6 (zk_mem0))))))), _, _, rfl, rfl⟩
theorem zq_X12_highest : ZP (zp_X12_highest, 1, 0, 0) (yX12_highest, cX12_highest, 1, (some .int), 12, 0, 0) := by
  have h0 := zt_X12_highest
  exact ⟨rfl, rfl, rfl, zpn_12, rfl, false, fun h => by cases h, zk_mem1 h0 (zk_mem0), _, _, rfl, rfl⟩
theorem zq_X12_heard : ZP (zp_X12_heard, 3, 0, 0) (yX12_heard, cX12_heard, 3, (some .int), 12, 0, 0) := by
  have h0 := zt_X12_heard
  have h1 := zk_drop 16 zp_X12_heard_0 zp_X12_heard_1 h0 rfl
  have h2 := zk_drop 16 zp_X12_heard_1 zp_X12_heard_2 h1 rfl
  exact ⟨rfl, rfl, rfl, zpn_12, rfl, false, fun h => by cases h, zk_mem1 h0 (zk_mem1 h1 (zk_mem1 h2 (zk_mem0))), _, _, rfl, rfl⟩
theorem zq_X12_denies : ZP (zp_X12_denies, 2, 0, 0) (yX12_denies, cX12_denies, 2, (some .int), 12, 0, 0) := by
  have h0 := zt_X12_denies
  exact ⟨rfl, rfl, rfl, zpn_12, rfl, false, fun h => by cases h, zk_mem1 h0 (zk_mem0), _, _, rfl, rfl⟩
theorem zq_X12_fitting : ZP (zp_X12_fitting, 5, 0, 0) (yX12_fitting, cX12_fitting, 5, (some .int), 12, 0, 0) := by
  have h0 := zt_X12_fitting
  have h1 := zk_drop 16 zp_X12_fitting_0 zp_X12_fitting_1 h0 rfl
  have h2 := zk_drop 16 zp_X12_fitting_1 zp_X12_fitting_2 h1 rfl
  have h3 := zk_drop 16 zp_X12_fitting_2 zp_X12_fitting_3 h2 rfl
  exact ⟨rfl, rfl, rfl, zpn_12, rfl, false, fun h => by cases h, zk_mem1 h0 (zk_mem1 h1 (zk_mem1 h2 (zk_mem1 h3 (zk_mem0)))), _, _, rfl, rfl⟩
theorem zq_X12_fits : ZP (zp_X12_fits, 2, 0, 0) (yX12_fits, cX12_fits, 2, (some .int), 12, 0, 0) := by
  have h0 := zt_X12_fits
  exact ⟨rfl, rfl, rfl, zpn_12, rfl, false, fun h => by cases h, zk_mem1 h0 (zk_mem0), _, _, rfl, rfl⟩
theorem zq_X12_asks : ZP (zp_X12_asks, 8, 0, 0) (yX12_asks, cX12_asks, 8, (some .int), 12, 0, 0) := by
  have h0 := zt_X12_asks
  have h1 := zk_drop 16 zp_X12_asks_0 zp_X12_asks_1 h0 rfl
  have h2 := zk_drop 16 zp_X12_asks_1 zp_X12_asks_2 h1 rfl
  have h3 := zk_drop 16 zp_X12_asks_2 zp_X12_asks_3 h2 rfl
  have h4 := zk_drop 16 zp_X12_asks_3 zp_X12_asks_4 h3 rfl
  have h5 := zk_drop 16 zp_X12_asks_4 zp_X12_asks_5 h4 rfl
  exact ⟨rfl, rfl, rfl, zpn_12, rfl, false, fun h => by cases h, zk_mem1 h0 (zk_mem1 h1 (zk_mem1 h2 (zk_mem1 h3 (zk_mem1 h4 (zk_mem1 h5 (zk_mem0)))))), _, _, rfl, rfl⟩
theorem zq_X12_odds : ZP (zp_X12_odds, 13, 0, 0) (yX12_odds, cX12_odds, 13, (some .int), 12, 0, 0) := by
  have h0 := zt_X12_odds
  have h1 := zk_drop 16 zp_X12_odds_0 zp_X12_odds_1 h0 rfl
  have h2 := zk_drop 16 zp_X12_odds_1 zp_X12_odds_2 h1 rfl
  have h3 := zk_drop 16 zp_X12_odds_2 zp_X12_odds_3 h2 rfl
  have h4 := zk_drop 16 zp_X12_odds_3 zp_X12_odds_4 h3 rfl
  have h5 := zk_drop 16 zp_X12_odds_4 zp_X12_odds_5 h4 rfl
  exact ⟨rfl, rfl, rfl, zpn_12, rfl, false, fun h => by cases h, zk_mem1 h0 (zk_mem1 h1 (zk_mem1 h2 (zk_mem1 h3 (zk_mem1 h4 (zk_mem1 h5 (zk_mem0)))))), _, _, rfl, rfl⟩
theorem zq_X12_went : ZP (zp_X12_went, 4, 0, 0) (yX12_went, cX12_went, 4, (some .int), 12, 0, 0) := by
  have h0 := zt_X12_went
  have h1 := zk_drop 16 zp_X12_went_0 zp_X12_went_1 h0 rfl
  have h2 := zk_drop 16 zp_X12_went_1 zp_X12_went_2 h1 rfl
  have h3 := zk_drop 16 zp_X12_went_2 zp_X12_went_3 h2 rfl
  exact ⟨rfl, rfl, rfl, zpn_12, rfl, false, fun h => by cases h, zk_mem1 h0 (zk_mem1 h1 (zk_mem1 h2 (zk_mem1 h3 (zk_mem0)))), _, _, rfl, rfl⟩
theorem zq_X12_clears : ZP (zp_X12_clears, 2, 0, 0) (yX12_clears, cX12_clears, 2, (some .int), 12, 0, 0) := by
  have h0 := zt_X12_clears
  exact ⟨rfl, rfl, rfl, zpn_12, rfl, false, fun h => by cases h, zk_mem1 h0 (zk_mem0), _, _, rfl, rfl⟩
theorem zq_X12_goesBy : ZP (zp_X12_goesBy, 3, 0, 0) (yX12_goesBy, cX12_goesBy, 3, (some .int), 12, 0, 0) := by
  have h0 := zt_X12_goesBy
  exact ⟨rfl, rfl, rfl, zpn_12, rfl, false, fun h => by cases h, zk_mem1 h0 (zk_mem0), _, _, rfl, rfl⟩
theorem zq_X12_isScatter : ZP (zp_X12_isScatter, 4, 0, 0) (yX12_isScatter, cX12_isScatter, 4, (some .boolean), 12, 0, 0) := by
  have h0 := zt_X12_isScatter
  have h1 := zk_drop 16 zp_X12_isScatter_0 zp_X12_isScatter_1 h0 rfl
  have h2 := zk_drop 16 zp_X12_isScatter_1 zp_X12_isScatter_2 h1 rfl
  exact ⟨rfl, rfl, rfl, zpn_12, rfl, false, fun h => by cases h, zk_mem1 h0 (zk_mem1 h1 (zk_mem1 h2 (zk_mem0))), _, _, rfl, rfl⟩
theorem zq_X12_scatters : ZP (zp_X12_scatters, 4, 0, 0) (yX12_scatters, cX12_scatters, 4, (some .int), 12, 0, 0) := by
  have h0 := zt_X12_scatters
  have h1 := zk_drop 16 zp_X12_scatters_0 zp_X12_scatters_1 h0 rfl
  have h2 := zk_drop 16 zp_X12_scatters_1 zp_X12_scatters_2 h1 rfl
  exact ⟨rfl, rfl, rfl, zpn_12, rfl, false, fun h => by cases h, zk_mem1 h0 (zk_mem1 h1 (zk_mem1 h2 (zk_mem0))), _, _, rfl, rfl⟩
theorem zq_X12_tries : ZP (zp_X12_tries, 8, 0, 0) (yX12_tries, cX12_tries, 8, (some .int), 12, 0, 0) := by
  have h0 := zt_X12_tries
  have h1 := zk_drop 16 zp_X12_tries_0 zp_X12_tries_1 h0 rfl
  have h2 := zk_drop 16 zp_X12_tries_1 zp_X12_tries_2 h1 rfl
  have h3 := zk_drop 16 zp_X12_tries_2 zp_X12_tries_3 h2 rfl
  have h4 := zk_drop 16 zp_X12_tries_3 zp_X12_tries_4 h3 rfl
  have h5 := zk_drop 16 zp_X12_tries_4 zp_X12_tries_5 h4 rfl
  have h6 := zk_drop 16 zp_X12_tries_5 zp_X12_tries_6 h5 rfl
  exact ⟨rfl, rfl, rfl, zpn_12, rfl, false, fun h => by cases h, zk_mem1 h0 (zk_mem1 h1 (zk_mem1 h2 (zk_mem1 h3 (zk_mem1 h4 (zk_mem1 h5 (zk_mem1 h6 (zk_mem0))))))), _, _, rfl, rfl⟩
theorem zq_X12_handfuls : ZP (zp_X12_handfuls, 5, 0, 0) (yX12_handfuls, cX12_handfuls, 5, (some .int), 12, 0, 0) := by
  have h0 := zt_X12_handfuls
  have h1 := zk_drop 16 zp_X12_handfuls_0 zp_X12_handfuls_1 h0 rfl
  have h2 := zk_drop 16 zp_X12_handfuls_1 zp_X12_handfuls_2 h1 rfl
  have h3 := zk_drop 16 zp_X12_handfuls_2 zp_X12_handfuls_3 h2 rfl
  have h4 := zk_drop 16 zp_X12_handfuls_3 zp_X12_handfuls_4 h3 rfl
  exact ⟨rfl, rfl, rfl, zpn_12, rfl, false, fun h => by cases h, zk_mem1 h0 (zk_mem1 h1 (zk_mem1 h2 (zk_mem1 h3 (zk_mem1 h4 (zk_mem0))))), _, _, rfl, rfl⟩
theorem zq_X12_other : ZP (zp_X12_other, 6, 0, 0) (yX12_other, cX12_other, 6, (some .int), 12, 0, 0) := by
  have h0 := zt_X12_other
  have h1 := zk_drop 16 zp_X12_other_0 zp_X12_other_1 h0 rfl
  have h2 := zk_drop 16 zp_X12_other_1 zp_X12_other_2 h1 rfl
  have h3 := zk_drop 16 zp_X12_other_2 zp_X12_other_3 h2 rfl
  have h4 := zk_drop 16 zp_X12_other_3 zp_X12_other_4 h3 rfl
  have h5 := zk_drop 16 zp_X12_other_4 zp_X12_other_5 h4 rfl
  have h6 := zk_drop 16 zp_X12_other_5 zp_X12_other_6 h5 rfl
  exact ⟨rfl, rfl, rfl, zpn_12, rfl, false, fun h => by cases h, zk_mem1 h0 (zk_mem1 h1 (zk_mem1 h2 (zk_mem1 h3 (zk_mem1 h4 (zk_mem1 h5 (zk_mem1 h6 (zk_mem0))))))), _, _, rfl, rfl⟩
theorem zq_X12_gets : ZP (zp_X12_gets, 3, 0, 0) (yX12_gets, cX12_gets, 3, (some .int), 12, 0, 0) := by
  have h0 := zt_X12_gets
  have h1 := zk_drop 16 zp_X12_gets_0 zp_X12_gets_1 h0 rfl
  exact ⟨rfl, rfl, rfl, zpn_12, rfl, false, fun h => by cases h, zk_mem1 h0 (zk_mem1 h1 (zk_mem0)), _, _, rfl, rfl⟩
theorem zq_X12_isRest : ZP (zp_X12_isRest, 5, 0, 0) (yX12_isRest, cX12_isRest, 5, (some .boolean), 12, 0, 0) := by
  have h0 := zt_X12_isRest
  have h1 := zk_drop 16 zp_X12_isRest_0 zp_X12_isRest_1 h0 rfl
  exact ⟨rfl, rfl, rfl, zpn_12, rfl, false, fun h => by cases h, zk_mem1 h0 (zk_mem1 h1 (zk_mem0)), _, _, rfl, rfl⟩
theorem zq_X12_grasps : ZP (zp_X12_grasps, 5, 0, 0) (yX12_grasps, cX12_grasps, 5, (some .int), 12, 0, 0) := by
  have h0 := zt_X12_grasps
  have h1 := zk_drop 16 zp_X12_grasps_0 zp_X12_grasps_1 h0 rfl
  have h2 := zk_drop 16 zp_X12_grasps_1 zp_X12_grasps_2 h1 rfl
  have h3 := zk_drop 16 zp_X12_grasps_2 zp_X12_grasps_3 h2 rfl
  exact ⟨rfl, rfl, rfl, zpn_12, rfl, false, fun h => by cases h, zk_mem1 h0 (zk_mem1 h1 (zk_mem1 h2 (zk_mem1 h3 (zk_mem0)))), _, _, rfl, rfl⟩
theorem zq_X12_draws : ZP (zp_X12_draws, 2, 0, 0) (yX12_draws, cX12_draws, 2, (some .int), 12, 0, 0) := by
  have h0 := zt_X12_draws
  exact ⟨rfl, rfl, rfl, zpn_12, rfl, false, fun h => by cases h, zk_mem1 h0 (zk_mem0), _, _, rfl, rfl⟩
theorem zq_X12_years : ZP (zp_X12_years, 7, 0, 0) (yX12_years, cX12_years, 7, (some .int), 12, 0, 0) := by
  have h0 := zt_X12_years
  have h1 := zk_drop 16 zp_X12_years_0 zp_X12_years_1 h0 rfl
  have h2 := zk_drop 16 zp_X12_years_1 zp_X12_years_2 h1 rfl
  have h3 := zk_drop 16 zp_X12_years_2 zp_X12_years_3 h2 rfl
  have h4 := zk_drop 16 zp_X12_years_3 zp_X12_years_4 h3 rfl
  have h5 := zk_drop 16 zp_X12_years_4 zp_X12_years_5 h4 rfl
  exact ⟨rfl, rfl, rfl, zpn_12, rfl, false, fun h => by cases h, zk_mem1 h0 (zk_mem1 h1 (zk_mem1 h2 (zk_mem1 h3 (zk_mem1 h4 (zk_mem1 h5 (zk_mem0)))))), _, _, rfl, rfl⟩
theorem zq_X12_keep : ZP (zp_X12_keep, 3, 0, 0) (yX12_keep, cX12_keep, 3, (some .boolean), 12, 0, 0) := by
  have h0 := zt_X12_keep
  have h1 := zk_drop 16 zp_X12_keep_0 zp_X12_keep_1 h0 rfl
  have h2 := zk_drop 16 zp_X12_keep_1 zp_X12_keep_2 h1 rfl
  exact ⟨rfl, rfl, rfl, zpn_12, rfl, false, fun h => by cases h, zk_mem1 h0 (zk_mem1 h1 (zk_mem1 h2 (zk_mem0))), _, _, rfl, rfl⟩
theorem zq_X12_again : ZP (zp_X12_again, 3, 0, 0) (yX12_again, cX12_again, 3, (some .boolean), 12, 0, 0) := by
  have h0 := zt_X12_again
  have h1 := zk_drop 16 zp_X12_again_0 zp_X12_again_1 h0 rfl
  have h2 := zk_drop 16 zp_X12_again_1 zp_X12_again_2 h1 rfl
  exact ⟨rfl, rfl, rfl, zpn_12, rfl, false, fun h => by cases h, zk_mem1 h0 (zk_mem1 h1 (zk_mem1 h2 (zk_mem0))), _, _, rfl, rfl⟩
theorem zq_X12_count : ZP (zp_X12_count, 2, 0, 0) (yX12_count, cX12_count, 2, (some .int), 12, 0, 0) := by
  have h0 := zt_X12_count
  have h1 := zk_drop 16 zp_X12_count_0 zp_X12_count_1 h0 rfl
  have h2 := zk_drop 16 zp_X12_count_1 zp_X12_count_2 h1 rfl
  have h3 := zk_drop 16 zp_X12_count_2 zp_X12_count_3 h2 rfl
  exact ⟨rfl, rfl, rfl, zpn_12, rfl, false, fun h => by cases h, zk_mem1 h0 (zk_mem1 h1 (zk_mem1 h2 (zk_mem1 h3 (zk_mem0)))), _, _, rfl, rfl⟩
theorem zq_J6_bitCount_0f7a4 : ZP (zp_J6_bitCount_0f7a4, 1, 0, 0) (yJ6_bitCount_0f7a4, cJ6_bitCount_0f7a4, 1, (some .int), 13, 0, 0) := by
  have h0 := zt_J6_bitCount_0f7a4
  have h1 := zk_drop 16 zp_J6_bitCount_0f7a4_0 zp_J6_bitCount_0f7a4_1 h0 rfl
  have h2 := zk_drop 16 zp_J6_bitCount_0f7a4_1 zp_J6_bitCount_0f7a4_2 h1 rfl
  exact ⟨rfl, rfl, rfl, zpn_13, rfl, false, fun h => by cases h, zk_mem1 h0 (zk_mem1 h1 (zk_mem1 h2 (zk_mem0))), _, _, rfl, rfl⟩
theorem zq_J9_max_7cf53 : ZP (zp_J9_max_7cf53, 2, 0, 0) (yJ9_max_7cf53, cJ9_max_7cf53, 2, (some .int), 14, 0, 0) := by
  have h0 := zt_J9_max_7cf53
  exact ⟨rfl, rfl, rfl, zpn_14, rfl, false, fun h => by cases h, zk_mem1 h0 (zk_mem0), _, _, rfl, rfl⟩
theorem zq_J9_min_7cf53 : ZP (zp_J9_min_7cf53, 2, 0, 0) (yJ9_min_7cf53, cJ9_min_7cf53, 2, (some .int), 14, 0, 0) := by
  have h0 := zt_J9_min_7cf53
  exact ⟨rfl, rfl, rfl, zpn_14, rfl, false, fun h => by cases h, zk_mem1 h0 (zk_mem0), _, _, rfl, rfl⟩
theorem zp_ok : ZT zp_all := ZLL.tab (ZLL.cons (ZL.sm zq_X0_init (ZL.sm zq_X0_timesWind (ZL.sm zq_X0_timesNumber (ZL.sm zq_X0_firstOf (ZL.sm zq_X0_wayBy (ZL.sm zq_X0_lawsLeft (ZL.sm zq_X0_suits (ZL.sm zq_X0_mostLeft (ZL.sm zq_X1_init (ZL.sm zq_X1_isTalk (ZL.sm zq_X1_peopleLeft (ZL.nn (ZL.nn (ZL.nn (ZL.sm zq_X2_init (ZL.sm zq_X2_size (ZL.nil))))))))))))))))) (ZLL.cons (ZL.sm zq_X2_add (ZL.nn (ZL.nn (ZL.sm zq_X2_empty (ZL.sm zq_X3_init (ZL.sm zq_X3_size (ZL.sm zq_X3_push (ZL.sm zq_X3_pop (ZL.sm zq_X3_deedAt (ZL.sm zq_X3_store (ZL.sm zq_X3_bringBack (ZL.nn (ZL.sm zq_X4_init (ZL.sm zq_X4_size (ZL.nn (ZL.sm zq_X4_clear (ZL.nil))))))))))))))))) (ZLL.cons (ZL.sm zq_X4_add (ZL.sm zq_X4_tell (ZL.sm zq_X4_tell_ (ZL.nn (ZL.sm zq_X5_init (ZL.sm zq_X5_read (ZL.nn (ZL.nn (ZL.nn (ZL.nn (ZL.nn (ZL.nn (ZL.nn (ZL.nn (ZL.nn (ZL.nn (ZL.nil))))))))))))))))) (ZLL.cons (ZL.nn (ZL.nn (ZL.nn (ZL.sm zq_X6_init (ZL.sm zq_X6_length (ZL.sm zq_X6_append (ZL.sm zq_X6_cut (ZL.sm zq_X6_take (ZL.nn (ZL.nn (ZL.nn (ZL.sm zq_X6_faultOfWedding (ZL.nn (ZL.nn (ZL.nn (ZL.sm zq_X7_init (ZL.nil))))))))))))))))) (ZLL.cons (ZL.sm zq_X7_lawsHeld (ZL.sm zq_X7_hittingSet (ZL.sm zq_X7_hitsAll (ZL.sm zq_X7_weighAwards (ZL.sm zq_X7_tellAwards (ZL.nn (ZL.nn (ZL.nn (ZL.sm zq_X7_weigh (ZL.nn (ZL.sm zq_X7_isLeast (ZL.sm zq_X7_prevails (ZL.sm zq_X8_init (ZL.sm zq_X8_windsLeft (ZL.sm zq_X8_suits (ZL.nn (ZL.nil))))))))))))))))) (ZLL.cons (ZL.sm zq_X9_init (ZL.sm zq_X9_become (ZL.nn (ZL.nn (ZL.sm zq_X9_hasLaw (ZL.sm zq_X9_hasOne (ZL.sm zq_X9_hasBit (ZL.nn (ZL.nn (ZL.nn (ZL.nn (ZL.sm zq_X9_placeOf (ZL.nn (ZL.sm zq_X9_lay (ZL.sm zq_X9_lies (ZL.sm zq_X9_isHeld (ZL.nil))))))))))))))))) (ZLL.cons (ZL.sm zq_X9_lyingCount (ZL.sm zq_X9_heldCount (ZL.sm zq_X9_bitsAt (ZL.nn (ZL.nn (ZL.sm zq_X9_heldBy (ZL.nn (ZL.sm zq_X9_holdersOf (ZL.nn (ZL.nn (ZL.nn (ZL.sm zq_X9_rightCount (ZL.sm zq_X9_carry (ZL.sm zq_X9_fling (ZL.nn (ZL.nn (ZL.nil))))))))))))))))) (ZLL.cons (ZL.sm zq_X9_sweep (ZL.sm zq_X9_walk (ZL.sm zq_X9_give (ZL.sm zq_X9_letFall (ZL.sm zq_X9_turnWind (ZL.nn (ZL.sm zq_X10_init (ZL.sm zq_X10_passDays (ZL.sm zq_X10_passYears (ZL.sm zq_X10_countCrowd (ZL.nn (ZL.sm zq_X10_blow (ZL.sm zq_X10_draw (ZL.sm zq_X11_init (ZL.sm zq_X11_sign (ZL.sm zq_X11_end (ZL.nil))))))))))))))))) (ZLL.cons (ZL.sm zq_X11_laws (ZL.sm zq_X11_people (ZL.sm zq_X11_rule (ZL.sm zq_X11_law (ZL.sm zq_X11_bit (ZL.sm zq_X11_one (ZL.sm zq_X11_sheet (ZL.sm zq_X11_carries (ZL.sm zq_X11_flings (ZL.sm zq_X11_sweeps (ZL.sm zq_X11_days (ZL.sm zq_X11_walks (ZL.sm zq_X11_gives (ZL.sm zq_X11_falls (ZL.sm zq_X11_wind (ZL.sm zq_X11_wedding (ZL.nil))))))))))))))))) (ZLL.cons (ZL.sm zq_X11_undo (ZL.sm zq_X11_later (ZL.sm zq_X11_when (ZL.sm zq_X11_clean (ZL.sm zq_X11_drifts (ZL.sm zq_X11_aims (ZL.sm zq_X11_prays (ZL.sm zq_X11_seeks (ZL.sm zq_X11_whole (ZL.sm zq_X11_quorum (ZL.sm zq_X11_awards (ZL.sm zq_X11_needs (ZL.sm zq_X11_line (ZL.sm zq_X11_power (ZL.sm zq_X11_least (ZL.sm zq_X11_seen (ZL.nil))))))))))))))))) (ZLL.cons (ZL.sm zq_X11_forget (ZL.sm zq_X11_guess (ZL.sm zq_X11_looks (ZL.sm zq_X11_heard (ZL.sm zq_X11_denies (ZL.sm zq_X11_fits (ZL.sm zq_X11_asks (ZL.sm zq_X11_odds (ZL.sm zq_X11_went (ZL.sm zq_X11_clears (ZL.sm zq_X11_scatters (ZL.sm zq_X11_tries (ZL.sm zq_X11_handfuls (ZL.sm zq_X11_other (ZL.sm zq_X11_grasps (ZL.sm zq_X11_years (ZL.nil))))))))))))))))) (ZLL.cons (ZL.sm zq_X11_keep (ZL.sm zq_X11_again (ZL.sm zq_X11_count (ZL.sm zq_X11_row (ZL.sm zq_X11_countKept (ZL.sm zq_X11_readLines (ZL.sm zq_X11_noted (ZL.nn (ZL.sm zq_X11_dreamOf (ZL.nn (ZL.nn (ZL.sm zq_X11_winningHandful (ZL.sm zq_X11_handfulOutOf (ZL.sm zq_X11_isContent (ZL.sm zq_X11_grasped (ZL.sm zq_X11_isWithin (ZL.nil))))))))))))))))) (ZLL.cons (ZL.nn (ZL.nn (ZL.nn (ZL.nn (ZL.sm zq_X12_in (ZL.sm zq_X12_has (ZL.sm zq_X12_flag (ZL.nn (ZL.sm zq_X12_enters (ZL.nn (ZL.sm zq_X12_init (ZL.sm zq_X12_isLaw (ZL.sm zq_X12_isBit (ZL.sm zq_X12_isOne (ZL.sm zq_X12_all (ZL.sm zq_X12_lies (ZL.nil))))))))))))))))) (ZLL.cons (ZL.nn (ZL.nn (ZL.nn (ZL.sm zq_X12_heldMany (ZL.sm zq_X12_lieMany (ZL.nn (ZL.sm zq_X12_rights (ZL.sm zq_X12_copies (ZL.sm zq_X12_sign (ZL.sm zq_X12_end (ZL.sm zq_X12_begins (ZL.nn (ZL.nn (ZL.nn (ZL.nn (ZL.nn (ZL.nil))))))))))))))))) (ZLL.cons (ZL.sm zq_X12_faultOf (ZL.sm zq_X12_readsLines (ZL.sm zq_X12_came (ZL.sm zq_X12_laws (ZL.sm zq_X12_people (ZL.nn (ZL.nn (ZL.nn (ZL.sm zq_X12_readsRule (ZL.sm zq_X12_laysCode (ZL.sm zq_X12_rule (ZL.nn (ZL.nn (ZL.sm zq_X12_lyingIn (ZL.nn (ZL.nn (ZL.nil))))))))))))))))) (ZLL.cons (ZL.nn (ZL.nn (ZL.nn (ZL.nn (ZL.sm zq_X12_sheet (ZL.sm zq_X12_putsBy (ZL.sm zq_X12_adds (ZL.sm zq_X12_counted (ZL.sm zq_X12_undo (ZL.sm zq_X12_dayGoes (ZL.sm zq_X12_goesOn (ZL.sm zq_X12_carriesOne (ZL.nn (ZL.sm zq_X12_flingsOne (ZL.sm zq_X12_sweepsOne (ZL.sm zq_X12_walksOne (ZL.nil))))))))))))))))) (ZLL.cons (ZL.nn (ZL.sm zq_X12_givesAll (ZL.sm zq_X12_fallsFrom (ZL.sm zq_X12_windTo (ZL.sm zq_X12_carries (ZL.sm zq_X12_flings (ZL.sm zq_X12_sweeps (ZL.sm zq_X12_days (ZL.sm zq_X12_walks (ZL.sm zq_X12_gives (ZL.sm zq_X12_falls (ZL.sm zq_X12_wind (ZL.nn (ZL.nn (ZL.sm zq_X12_wedding (ZL.sm zq_X12_later (ZL.nil))))))))))))))))) (ZLL.cons (ZL.sm zq_X12_when (ZL.sm zq_X12_clean (ZL.sm zq_X12_drifts (ZL.sm zq_X12_aims (ZL.nn (ZL.sm zq_X12_prays (ZL.sm zq_X12_seeks (ZL.sm zq_X12_whole (ZL.nn (ZL.sm zq_X12_holdsOfAll (ZL.sm zq_X12_quorum (ZL.sm zq_X12_awardsFrom (ZL.sm zq_X12_awards (ZL.sm zq_X12_needs (ZL.sm zq_X12_line (ZL.sm zq_X12_carriesIt (ZL.nil))))))))))))))))) (ZLL.cons (ZL.sm zq_X12_power (ZL.sm zq_X12_least (ZL.sm zq_X12_seen (ZL.sm zq_X12_forget (ZL.sm zq_X12_winds (ZL.sm zq_X12_guess (ZL.sm zq_X12_looks (ZL.sm zq_X12_highest (ZL.sm zq_X12_heard (ZL.sm zq_X12_denies (ZL.nn (ZL.sm zq_X12_fitting (ZL.sm zq_X12_fits (ZL.sm zq_X12_asks (ZL.sm zq_X12_odds (ZL.sm zq_X12_went (ZL.nil))))))))))))))))) (ZLL.cons (ZL.sm zq_X12_clears (ZL.sm zq_X12_goesBy (ZL.sm zq_X12_isScatter (ZL.sm zq_X12_scatters (ZL.sm zq_X12_tries (ZL.sm zq_X12_handfuls (ZL.sm zq_X12_other (ZL.sm zq_X12_gets (ZL.sm zq_X12_isRest (ZL.sm zq_X12_grasps (ZL.sm zq_X12_draws (ZL.sm zq_X12_years (ZL.sm zq_X12_keep (ZL.sm zq_X12_again (ZL.sm zq_X12_count (ZL.nn (ZL.nil))))))))))))))))) (ZLL.cons (ZL.nn (ZL.nn (ZL.nn (ZL.sm zq_J6_bitCount_0f7a4 (ZL.nn (ZL.sm zq_J9_max_7cf53 (ZL.sm zq_J9_min_7cf53 (ZL.nn (ZL.nn (ZL.nn (ZL.nn (ZL.nn (ZL.nn (ZL.nn (ZL.nn (ZL.nn (ZL.nil))))))))))))))))) (ZLL.cons (ZL.nn (ZL.nn (ZL.nn (ZL.nn (ZL.nn (ZL.nn (ZL.nn (ZL.nn (ZL.nn (ZL.nn (ZL.nn (ZL.nn (ZL.nn (ZL.nn (ZL.nn (ZL.nn (ZL.nil))))))))))))))))) (ZLL.cons (ZL.nn (ZL.nn (ZL.nn (ZL.nn (ZL.nil))))) (ZLL.nil))))))))))))))))))))))))
end
