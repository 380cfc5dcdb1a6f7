section
-- ===== PART A: goes FIRST, ahead of the names: the tables' words, and 'selects' of the private methods out of them =====
/-- a private method of a class that the tables say can be made, by its rows of tables_1 -/
def lw_okq (q : MethodName × Nat) : Prop := (q.1.cls ≠ "java/lang/invoke/MethodHandle" ∧ q.1.cls ≠ "java/lang/invoke/VarHandle") ∧ Cond.instantiable q.1.cls q.2 ∈ tables_1 ∧ Cond.privateMethod q.1 ∈ tables_1 ∧ Cond.instanceMethod q.1 ∈ tables_1
theorem lw_p0 : lw_okq (⟨"ConfettiMinutes", "readLines", "(CCZ)I"⟩, 13) := ⟨⟨by decide +kernel, by decide +kernel⟩, List.mem_of_getElem? (i := 27) (by decide +kernel), List.mem_of_getElem? (i := 327) (by decide +kernel), List.mem_of_getElem? (i := 328) (by decide +kernel)⟩
theorem lw_p1 : lw_okq (⟨"ConfettiMinutes$Rule", "takesThing", "(C)Z"⟩, 10) := ⟨⟨by decide +kernel, by decide +kernel⟩, List.mem_of_getElem? (i := 230) (by decide +kernel), List.mem_of_getElem? (i := 374) (by decide +kernel), List.mem_of_getElem? (i := 375) (by decide +kernel)⟩
theorem lw_p2 : lw_okq (⟨"ConfettiMinutes$Rule", "hold", "(I)V"⟩, 10) := ⟨⟨by decide +kernel, by decide +kernel⟩, List.mem_of_getElem? (i := 230) (by decide +kernel), List.mem_of_getElem? (i := 378) (by decide +kernel), List.mem_of_getElem? (i := 379) (by decide +kernel)⟩
theorem lw_p3 : lw_okq (⟨"ConfettiMinutes$Rule", "emit", "(I)V"⟩, 10) := ⟨⟨by decide +kernel, by decide +kernel⟩, List.mem_of_getElem? (i := 230) (by decide +kernel), List.mem_of_getElem? (i := 470) (by decide +kernel), List.mem_of_getElem? (i := 471) (by decide +kernel)⟩
theorem lw_p4 : lw_okq (⟨"ConfettiMinutes$Rule", "takesBehind", "(C)Z"⟩, 10) := ⟨⟨by decide +kernel, by decide +kernel⟩, List.mem_of_getElem? (i := 230) (by decide +kernel), List.mem_of_getElem? (i := 474) (by decide +kernel), List.mem_of_getElem? (i := 475) (by decide +kernel)⟩
theorem lw_p5 : lw_okq (⟨"ConfettiMinutes$Rule", "takesDigit", "(C)Z"⟩, 10) := ⟨⟨by decide +kernel, by decide +kernel⟩, List.mem_of_getElem? (i := 230) (by decide +kernel), List.mem_of_getElem? (i := 478) (by decide +kernel), List.mem_of_getElem? (i := 479) (by decide +kernel)⟩
theorem lw_p6 : lw_okq (⟨"ConfettiMinutes$Rule", "closes", "()Z"⟩, 10) := ⟨⟨by decide +kernel, by decide +kernel⟩, List.mem_of_getElem? (i := 230) (by decide +kernel), List.mem_of_getElem? (i := 482) (by decide +kernel), List.mem_of_getElem? (i := 483) (by decide +kernel)⟩
theorem lw_p7 : lw_okq (⟨"ConfettiMinutes$Rule", "release", "(I)V"⟩, 10) := ⟨⟨by decide +kernel, by decide +kernel⟩, List.mem_of_getElem? (i := 230) (by decide +kernel), List.mem_of_getElem? (i := 486) (by decide +kernel), List.mem_of_getElem? (i := 487) (by decide +kernel)⟩
theorem lw_p8 : lw_okq (⟨"ConfettiMinutes", "noted", "(I)I"⟩, 13) := ⟨⟨by decide +kernel, by decide +kernel⟩, List.mem_of_getElem? (i := 27) (by decide +kernel), List.mem_of_getElem? (i := 541) (by decide +kernel), List.mem_of_getElem? (i := 542) (by decide +kernel)⟩
theorem lw_p9 : lw_okq (⟨"ConfettiMinutes$Past", "deedAt", "(I)LConfettiMinutes$Town;"⟩, 5) := ⟨⟨by decide +kernel, by decide +kernel⟩, List.mem_of_getElem? (i := 111) (by decide +kernel), List.mem_of_getElem? (i := 549) (by decide +kernel), List.mem_of_getElem? (i := 550) (by decide +kernel)⟩
theorem lw_p10 : lw_okq (⟨"ConfettiMinutes$Town", "layAll", "(II)V"⟩, 9) := ⟨⟨by decide +kernel, by decide +kernel⟩, List.mem_of_getElem? (i := 63) (by decide +kernel), List.mem_of_getElem? (i := 571) (by decide +kernel), List.mem_of_getElem? (i := 572) (by decide +kernel)⟩
theorem lw_p11 : lw_okq (⟨"ConfettiMinutes$Town", "isHeld", "(I)Z"⟩, 9) := ⟨⟨by decide +kernel, by decide +kernel⟩, List.mem_of_getElem? (i := 63) (by decide +kernel), List.mem_of_getElem? (i := 598) (by decide +kernel), List.mem_of_getElem? (i := 599) (by decide +kernel)⟩
theorem lw_p12 : lw_okq (⟨"ConfettiMinutes$Weather", "blow", "(LConfettiMinutes$Town;LConfettiMinutes$Rule;)V"⟩, 3) := ⟨⟨by decide +kernel, by decide +kernel⟩, List.mem_of_getElem? (i := 136) (by decide +kernel), List.mem_of_getElem? (i := 614) (by decide +kernel), List.mem_of_getElem? (i := 615) (by decide +kernel)⟩
theorem lw_p13 : lw_okq (⟨"ConfettiMinutes$Rule", "worth", "(I)I"⟩, 10) := ⟨⟨by decide +kernel, by decide +kernel⟩, List.mem_of_getElem? (i := 230) (by decide +kernel), List.mem_of_getElem? (i := 641) (by decide +kernel), List.mem_of_getElem? (i := 642) (by decide +kernel)⟩
theorem lw_p14 : lw_okq (⟨"ConfettiMinutes", "doAct", "(I)I"⟩, 13) := ⟨⟨by decide +kernel, by decide +kernel⟩, List.mem_of_getElem? (i := 27) (by decide +kernel), List.mem_of_getElem? (i := 780) (by decide +kernel), List.mem_of_getElem? (i := 781) (by decide +kernel)⟩
theorem lw_p15 : lw_okq (⟨"ConfettiMinutes", "dreamOf", "(LConfettiMinutes$Rule;I)V"⟩, 13) := ⟨⟨by decide +kernel, by decide +kernel⟩, List.mem_of_getElem? (i := 27) (by decide +kernel), List.mem_of_getElem? (i := 805) (by decide +kernel), List.mem_of_getElem? (i := 806) (by decide +kernel)⟩
def lw_privs_1 : List (MethodName × Nat) := [(⟨"ConfettiMinutes", "readLines", "(CCZ)I"⟩, 13), (⟨"ConfettiMinutes$Rule", "takesThing", "(C)Z"⟩, 10), (⟨"ConfettiMinutes$Rule", "hold", "(I)V"⟩, 10), (⟨"ConfettiMinutes$Rule", "emit", "(I)V"⟩, 10), (⟨"ConfettiMinutes$Rule", "takesBehind", "(C)Z"⟩, 10), (⟨"ConfettiMinutes$Rule", "takesDigit", "(C)Z"⟩, 10), (⟨"ConfettiMinutes$Rule", "closes", "()Z"⟩, 10), (⟨"ConfettiMinutes$Rule", "release", "(I)V"⟩, 10), (⟨"ConfettiMinutes", "noted", "(I)I"⟩, 13), (⟨"ConfettiMinutes$Past", "deedAt", "(I)LConfettiMinutes$Town;"⟩, 5), (⟨"ConfettiMinutes$Town", "layAll", "(II)V"⟩, 9), (⟨"ConfettiMinutes$Town", "isHeld", "(I)Z"⟩, 9), (⟨"ConfettiMinutes$Weather", "blow", "(LConfettiMinutes$Town;LConfettiMinutes$Rule;)V"⟩, 3), (⟨"ConfettiMinutes$Rule", "worth", "(I)I"⟩, 10), (⟨"ConfettiMinutes", "doAct", "(I)I"⟩, 13), (⟨"ConfettiMinutes", "dreamOf", "(LConfettiMinutes$Rule;I)V"⟩, 13)]
theorem lw_r1 : ∀ q ∈ lw_privs_1, lw_okq q := List.forall_mem_cons.mpr ⟨lw_p0, List.forall_mem_cons.mpr ⟨lw_p1, List.forall_mem_cons.mpr ⟨lw_p2, List.forall_mem_cons.mpr ⟨lw_p3, List.forall_mem_cons.mpr ⟨lw_p4, List.forall_mem_cons.mpr ⟨lw_p5, List.forall_mem_cons.mpr ⟨lw_p6, List.forall_mem_cons.mpr ⟨lw_p7, List.forall_mem_cons.mpr ⟨lw_p8, List.forall_mem_cons.mpr ⟨lw_p9, List.forall_mem_cons.mpr ⟨lw_p10, List.forall_mem_cons.mpr ⟨lw_p11, List.forall_mem_cons.mpr ⟨lw_p12, List.forall_mem_cons.mpr ⟨lw_p13, List.forall_mem_cons.mpr ⟨lw_p14, List.forall_mem_cons.mpr ⟨lw_p15, fun _ h => absurd h List.not_mem_nil⟩⟩⟩⟩⟩⟩⟩⟩⟩⟩⟩⟩⟩⟩⟩⟩
theorem lw_p16 : lw_okq (⟨"ConfettiMinutes$Shares", "hitsAll", "(I)Z"⟩, 4) := ⟨⟨by decide +kernel, by decide +kernel⟩, List.mem_of_getElem? (i := 152) (by decide +kernel), List.mem_of_getElem? (i := 877) (by decide +kernel), List.mem_of_getElem? (i := 878) (by decide +kernel)⟩
theorem lw_p17 : lw_okq (⟨"ConfettiMinutes$Shares", "worth", "(LConfettiMinutes$Town;III)I"⟩, 4) := ⟨⟨by decide +kernel, by decide +kernel⟩, List.mem_of_getElem? (i := 152) (by decide +kernel), List.mem_of_getElem? (i := 895) (by decide +kernel), List.mem_of_getElem? (i := 896) (by decide +kernel)⟩
theorem lw_p18 : lw_okq (⟨"ConfettiMinutes$Shares", "bestOf", "(II)I"⟩, 4) := ⟨⟨by decide +kernel, by decide +kernel⟩, List.mem_of_getElem? (i := 152) (by decide +kernel), List.mem_of_getElem? (i := 899) (by decide +kernel), List.mem_of_getElem? (i := 900) (by decide +kernel)⟩
theorem lw_p19 : lw_okq (⟨"ConfettiMinutes$Shares", "prevails", "(I)Z"⟩, 4) := ⟨⟨by decide +kernel, by decide +kernel⟩, List.mem_of_getElem? (i := 152) (by decide +kernel), List.mem_of_getElem? (i := 940) (by decide +kernel), List.mem_of_getElem? (i := 941) (by decide +kernel)⟩
theorem lw_p20 : lw_okq (⟨"ConfettiMinutes$Sights", "suits", "(LConfettiMinutes$Town;LConfettiMinutes$Rule;LConfettiMinutes$Weather;I)Z"⟩, 2) := ⟨⟨by decide +kernel, by decide +kernel⟩, List.mem_of_getElem? (i := 171) (by decide +kernel), List.mem_of_getElem? (i := 988) (by decide +kernel), List.mem_of_getElem? (i := 989) (by decide +kernel)⟩
theorem lw_p21 : lw_okq (⟨"ConfettiMinutes$Hearsay", "suits", "(LConfettiMinutes$Town;I)Z"⟩, 1) := ⟨⟨by decide +kernel, by decide +kernel⟩, List.mem_of_getElem? (i := 204) (by decide +kernel), List.mem_of_getElem? (i := 1032) (by decide +kernel), List.mem_of_getElem? (i := 1033) (by decide +kernel)⟩
theorem lw_p22 : lw_okq (⟨"ConfettiMinutes$Flights", "suits", "(I)Z"⟩, 1) := ⟨⟨by decide +kernel, by decide +kernel⟩, List.mem_of_getElem? (i := 217) (by decide +kernel), List.mem_of_getElem? (i := 1076) (by decide +kernel), List.mem_of_getElem? (i := 1077) (by decide +kernel)⟩
theorem lw_p23 : lw_okq (⟨"ConfettiMinutes$Weather", "draw", "(I)I"⟩, 3) := ⟨⟨by decide +kernel, by decide +kernel⟩, List.mem_of_getElem? (i := 136) (by decide +kernel), List.mem_of_getElem? (i := 1136) (by decide +kernel), List.mem_of_getElem? (i := 1137) (by decide +kernel)⟩
theorem lw_p24 : lw_okq (⟨"ConfettiMinutes", "countKept", "(I)I"⟩, 13) := ⟨⟨by decide +kernel, by decide +kernel⟩, List.mem_of_getElem? (i := 27) (by decide +kernel), List.mem_of_getElem? (i := 1164) (by decide +kernel), List.mem_of_getElem? (i := 1165) (by decide +kernel)⟩
theorem lw_p25 : lw_okq (⟨"java/lang/Throwable", "fillInStackTrace", "(I)Ljava/lang/Throwable;"⟩, 6) := ⟨⟨by decide +kernel, by decide +kernel⟩, List.mem_of_getElem? (i := 1225) (by decide +kernel), List.mem_of_getElem? (i := 1223) (by decide +kernel), List.mem_of_getElem? (i := 1224) (by decide +kernel)⟩
theorem lw_p26 : lw_okq (⟨"ConfettiMinutesModel", "readsLines", "(III)I"⟩, 50) := ⟨⟨by decide +kernel, by decide +kernel⟩, List.mem_of_getElem? (i := 1288) (by decide +kernel), List.mem_of_getElem? (i := 1461) (by decide +kernel), List.mem_of_getElem? (i := 1462) (by decide +kernel)⟩
theorem lw_p27 : lw_okq (⟨"ConfettiMinutesModel", "begins", "(I)I"⟩, 50) := ⟨⟨by decide +kernel, by decide +kernel⟩, List.mem_of_getElem? (i := 1288) (by decide +kernel), List.mem_of_getElem? (i := 1465) (by decide +kernel), List.mem_of_getElem? (i := 1466) (by decide +kernel)⟩
theorem lw_p28 : lw_okq (⟨"ConfettiMinutesModel", "digitIn", "(II)I"⟩, 50) := ⟨⟨by decide +kernel, by decide +kernel⟩, List.mem_of_getElem? (i := 1288) (by decide +kernel), List.mem_of_getElem? (i := 1470) (by decide +kernel), List.mem_of_getElem? (i := 1471) (by decide +kernel)⟩
theorem lw_p29 : lw_okq (⟨"ConfettiMinutesModel", "takes", "(I)Z"⟩, 50) := ⟨⟨by decide +kernel, by decide +kernel⟩, List.mem_of_getElem? (i := 1288) (by decide +kernel), List.mem_of_getElem? (i := 1474) (by decide +kernel), List.mem_of_getElem? (i := 1475) (by decide +kernel)⟩
theorem lw_p30 : lw_okq (⟨"ConfettiMinutesModel", "faultOf", "(IIZ)I"⟩, 50) := ⟨⟨by decide +kernel, by decide +kernel⟩, List.mem_of_getElem? (i := 1288) (by decide +kernel), List.mem_of_getElem? (i := 1481) (by decide +kernel), List.mem_of_getElem? (i := 1482) (by decide +kernel)⟩
theorem lw_p31 : lw_okq (⟨"ConfettiMinutesModel", "came", "()I"⟩, 50) := ⟨⟨by decide +kernel, by decide +kernel⟩, List.mem_of_getElem? (i := 1288) (by decide +kernel), List.mem_of_getElem? (i := 1485) (by decide +kernel), List.mem_of_getElem? (i := 1486) (by decide +kernel)⟩
def lw_privs_2 : List (MethodName × Nat) := [(⟨"ConfettiMinutes$Shares", "hitsAll", "(I)Z"⟩, 4), (⟨"ConfettiMinutes$Shares", "worth", "(LConfettiMinutes$Town;III)I"⟩, 4), (⟨"ConfettiMinutes$Shares", "bestOf", "(II)I"⟩, 4), (⟨"ConfettiMinutes$Shares", "prevails", "(I)Z"⟩, 4), (⟨"ConfettiMinutes$Sights", "suits", "(LConfettiMinutes$Town;LConfettiMinutes$Rule;LConfettiMinutes$Weather;I)Z"⟩, 2), (⟨"ConfettiMinutes$Hearsay", "suits", "(LConfettiMinutes$Town;I)Z"⟩, 1), (⟨"ConfettiMinutes$Flights", "suits", "(I)Z"⟩, 1), (⟨"ConfettiMinutes$Weather", "draw", "(I)I"⟩, 3), (⟨"ConfettiMinutes", "countKept", "(I)I"⟩, 13), (⟨"java/lang/Throwable", "fillInStackTrace", "(I)Ljava/lang/Throwable;"⟩, 6), (⟨"ConfettiMinutesModel", "readsLines", "(III)I"⟩, 50), (⟨"ConfettiMinutesModel", "begins", "(I)I"⟩, 50), (⟨"ConfettiMinutesModel", "digitIn", "(II)I"⟩, 50), (⟨"ConfettiMinutesModel", "takes", "(I)Z"⟩, 50), (⟨"ConfettiMinutesModel", "faultOf", "(IIZ)I"⟩, 50), (⟨"ConfettiMinutesModel", "came", "()I"⟩, 50)]
theorem lw_r2 : ∀ q ∈ lw_privs_2, lw_okq q := List.forall_mem_cons.mpr ⟨lw_p16, List.forall_mem_cons.mpr ⟨lw_p17, List.forall_mem_cons.mpr ⟨lw_p18, List.forall_mem_cons.mpr ⟨lw_p19, List.forall_mem_cons.mpr ⟨lw_p20, List.forall_mem_cons.mpr ⟨lw_p21, List.forall_mem_cons.mpr ⟨lw_p22, List.forall_mem_cons.mpr ⟨lw_p23, List.forall_mem_cons.mpr ⟨lw_p24, List.forall_mem_cons.mpr ⟨lw_p25, List.forall_mem_cons.mpr ⟨lw_p26, List.forall_mem_cons.mpr ⟨lw_p27, List.forall_mem_cons.mpr ⟨lw_p28, List.forall_mem_cons.mpr ⟨lw_p29, List.forall_mem_cons.mpr ⟨lw_p30, List.forall_mem_cons.mpr ⟨lw_p31, fun _ h => absurd h List.not_mem_nil⟩⟩⟩⟩⟩⟩⟩⟩⟩⟩⟩⟩⟩⟩⟩⟩
theorem lw_p32 : lw_okq (⟨"ConfettiMinutesModel", "readsRule", "()I"⟩, 50) := ⟨⟨by decide +kernel, by decide +kernel⟩, List.mem_of_getElem? (i := 1288) (by decide +kernel), List.mem_of_getElem? (i := 1497) (by decide +kernel), List.mem_of_getElem? (i := 1498) (by decide +kernel)⟩
theorem lw_p33 : lw_okq (⟨"ConfettiMinutesModel", "readsRank", "(I)Z"⟩, 50) := ⟨⟨by decide +kernel, by decide +kernel⟩, List.mem_of_getElem? (i := 1288) (by decide +kernel), List.mem_of_getElem? (i := 1501) (by decide +kernel), List.mem_of_getElem? (i := 1502) (by decide +kernel)⟩
theorem lw_p34 : lw_okq (⟨"ConfettiMinutesModel", "readsThing", "()Z"⟩, 50) := ⟨⟨by decide +kernel, by decide +kernel⟩, List.mem_of_getElem? (i := 1288) (by decide +kernel), List.mem_of_getElem? (i := 1505) (by decide +kernel), List.mem_of_getElem? (i := 1506) (by decide +kernel)⟩
theorem lw_p35 : lw_okq (⟨"ConfettiMinutesModel", "codes", "(I)V"⟩, 50) := ⟨⟨by decide +kernel, by decide +kernel⟩, List.mem_of_getElem? (i := 1288) (by decide +kernel), List.mem_of_getElem? (i := 1509) (by decide +kernel), List.mem_of_getElem? (i := 1510) (by decide +kernel)⟩
theorem lw_p36 : lw_okq (⟨"ConfettiMinutesModel", "isDigit", "()Z"⟩, 50) := ⟨⟨by decide +kernel, by decide +kernel⟩, List.mem_of_getElem? (i := 1288) (by decide +kernel), List.mem_of_getElem? (i := 1513) (by decide +kernel), List.mem_of_getElem? (i := 1514) (by decide +kernel)⟩
theorem lw_p37 : lw_okq (⟨"ConfettiMinutesModel", "number", "(I)I"⟩, 50) := ⟨⟨by decide +kernel, by decide +kernel⟩, List.mem_of_getElem? (i := 1288) (by decide +kernel), List.mem_of_getElem? (i := 1519) (by decide +kernel), List.mem_of_getElem? (i := 1520) (by decide +kernel)⟩
theorem lw_p38 : lw_okq (⟨"ConfettiMinutesModel", "takesOf", "(Ljava/lang/String;)I"⟩, 50) := ⟨⟨by decide +kernel, by decide +kernel⟩, List.mem_of_getElem? (i := 1288) (by decide +kernel), List.mem_of_getElem? (i := 1524) (by decide +kernel), List.mem_of_getElem? (i := 1525) (by decide +kernel)⟩
theorem lw_p39 : lw_okq (⟨"ConfettiMinutesModel", "laysCode", "([II)V"⟩, 50) := ⟨⟨by decide +kernel, by decide +kernel⟩, List.mem_of_getElem? (i := 1288) (by decide +kernel), List.mem_of_getElem? (i := 1533) (by decide +kernel), List.mem_of_getElem? (i := 1534) (by decide +kernel)⟩
theorem lw_p40 : lw_okq (⟨"ConfettiMinutesModel", "isLaw", "(I)Z"⟩, 50) := ⟨⟨by decide +kernel, by decide +kernel⟩, List.mem_of_getElem? (i := 1288) (by decide +kernel), List.mem_of_getElem? (i := 1541) (by decide +kernel), List.mem_of_getElem? (i := 1542) (by decide +kernel)⟩
theorem lw_p41 : lw_okq (⟨"ConfettiMinutesModel", "refuse", "()I"⟩, 50) := ⟨⟨by decide +kernel, by decide +kernel⟩, List.mem_of_getElem? (i := 1288) (by decide +kernel), List.mem_of_getElem? (i := 1546) (by decide +kernel), List.mem_of_getElem? (i := 1547) (by decide +kernel)⟩
theorem lw_p42 : lw_okq (⟨"ConfettiMinutesModel", "ownerOf", "(I)I"⟩, 50) := ⟨⟨by decide +kernel, by decide +kernel⟩, List.mem_of_getElem? (i := 1288) (by decide +kernel), List.mem_of_getElem? (i := 1558) (by decide +kernel), List.mem_of_getElem? (i := 1559) (by decide +kernel)⟩
theorem lw_p43 : lw_okq (⟨"ConfettiMinutesModel", "hasRight", "([III)Z"⟩, 50) := ⟨⟨by decide +kernel, by decide +kernel⟩, List.mem_of_getElem? (i := 1288) (by decide +kernel), List.mem_of_getElem? (i := 1562) (by decide +kernel), List.mem_of_getElem? (i := 1563) (by decide +kernel)⟩
theorem lw_p44 : lw_okq (⟨"ConfettiMinutesModel", "isBit", "(II)Z"⟩, 50) := ⟨⟨by decide +kernel, by decide +kernel⟩, List.mem_of_getElem? (i := 1288) (by decide +kernel), List.mem_of_getElem? (i := 1576) (by decide +kernel), List.mem_of_getElem? (i := 1577) (by decide +kernel)⟩
theorem lw_p45 : lw_okq (⟨"ConfettiMinutesModel", "isOne", "(I)Z"⟩, 50) := ⟨⟨by decide +kernel, by decide +kernel⟩, List.mem_of_getElem? (i := 1288) (by decide +kernel), List.mem_of_getElem? (i := 1584) (by decide +kernel), List.mem_of_getElem? (i := 1585) (by decide +kernel)⟩
theorem lw_p46 : lw_okq (⟨"ConfettiMinutesModel", "rightsOf", "(I)I"⟩, 50) := ⟨⟨by decide +kernel, by decide +kernel⟩, List.mem_of_getElem? (i := 1288) (by decide +kernel), List.mem_of_getElem? (i := 1589) (by decide +kernel), List.mem_of_getElem? (i := 1590) (by decide +kernel)⟩
theorem lw_p47 : lw_okq (⟨"ConfettiMinutesModel", "putsBy", "()V"⟩, 50) := ⟨⟨by decide +kernel, by decide +kernel⟩, List.mem_of_getElem? (i := 1288) (by decide +kernel), List.mem_of_getElem? (i := 1610) (by decide +kernel), List.mem_of_getElem? (i := 1611) (by decide +kernel)⟩
def lw_privs_3 : List (MethodName × Nat) := [(⟨"ConfettiMinutesModel", "readsRule", "()I"⟩, 50), (⟨"ConfettiMinutesModel", "readsRank", "(I)Z"⟩, 50), (⟨"ConfettiMinutesModel", "readsThing", "()Z"⟩, 50), (⟨"ConfettiMinutesModel", "codes", "(I)V"⟩, 50), (⟨"ConfettiMinutesModel", "isDigit", "()Z"⟩, 50), (⟨"ConfettiMinutesModel", "number", "(I)I"⟩, 50), (⟨"ConfettiMinutesModel", "takesOf", "(Ljava/lang/String;)I"⟩, 50), (⟨"ConfettiMinutesModel", "laysCode", "([II)V"⟩, 50), (⟨"ConfettiMinutesModel", "isLaw", "(I)Z"⟩, 50), (⟨"ConfettiMinutesModel", "refuse", "()I"⟩, 50), (⟨"ConfettiMinutesModel", "ownerOf", "(I)I"⟩, 50), (⟨"ConfettiMinutesModel", "hasRight", "([III)Z"⟩, 50), (⟨"ConfettiMinutesModel", "isBit", "(II)Z"⟩, 50), (⟨"ConfettiMinutesModel", "isOne", "(I)Z"⟩, 50), (⟨"ConfettiMinutesModel", "rightsOf", "(I)I"⟩, 50), (⟨"ConfettiMinutesModel", "putsBy", "()V"⟩, 50)]
theorem lw_r3 : ∀ q ∈ lw_privs_3, lw_okq q := List.forall_mem_cons.mpr ⟨lw_p32, List.forall_mem_cons.mpr ⟨lw_p33, List.forall_mem_cons.mpr ⟨lw_p34, List.forall_mem_cons.mpr ⟨lw_p35, List.forall_mem_cons.mpr ⟨lw_p36, List.forall_mem_cons.mpr ⟨lw_p37, List.forall_mem_cons.mpr ⟨lw_p38, List.forall_mem_cons.mpr ⟨lw_p39, List.forall_mem_cons.mpr ⟨lw_p40, List.forall_mem_cons.mpr ⟨lw_p41, List.forall_mem_cons.mpr ⟨lw_p42, List.forall_mem_cons.mpr ⟨lw_p43, List.forall_mem_cons.mpr ⟨lw_p44, List.forall_mem_cons.mpr ⟨lw_p45, List.forall_mem_cons.mpr ⟨lw_p46, List.forall_mem_cons.mpr ⟨lw_p47, fun _ h => absurd h List.not_mem_nil⟩⟩⟩⟩⟩⟩⟩⟩⟩⟩⟩⟩⟩⟩⟩⟩
theorem lw_p48 : lw_okq (⟨"ConfettiMinutesModel", "carriesOne", "(I)I"⟩, 50) := ⟨⟨by decide +kernel, by decide +kernel⟩, List.mem_of_getElem? (i := 1288) (by decide +kernel), List.mem_of_getElem? (i := 1614) (by decide +kernel), List.mem_of_getElem? (i := 1615) (by decide +kernel)⟩
theorem lw_p49 : lw_okq (⟨"ConfettiMinutesModel", "counted", "(I)I"⟩, 50) := ⟨⟨by decide +kernel, by decide +kernel⟩, List.mem_of_getElem? (i := 1288) (by decide +kernel), List.mem_of_getElem? (i := 1619) (by decide +kernel), List.mem_of_getElem? (i := 1620) (by decide +kernel)⟩
theorem lw_p50 : lw_okq (⟨"ConfettiMinutesModel", "adds", "(I)I"⟩, 50) := ⟨⟨by decide +kernel, by decide +kernel⟩, List.mem_of_getElem? (i := 1288) (by decide +kernel), List.mem_of_getElem? (i := 1623) (by decide +kernel), List.mem_of_getElem? (i := 1624) (by decide +kernel)⟩
theorem lw_p51 : lw_okq (⟨"ConfettiMinutesModel", "flingsOne", "(II)I"⟩, 50) := ⟨⟨by decide +kernel, by decide +kernel⟩, List.mem_of_getElem? (i := 1288) (by decide +kernel), List.mem_of_getElem? (i := 1631) (by decide +kernel), List.mem_of_getElem? (i := 1632) (by decide +kernel)⟩
theorem lw_p52 : lw_okq (⟨"ConfettiMinutesModel", "fallsIn", "([III)V"⟩, 50) := ⟨⟨by decide +kernel, by decide +kernel⟩, List.mem_of_getElem? (i := 1288) (by decide +kernel), List.mem_of_getElem? (i := 1636) (by decide +kernel), List.mem_of_getElem? (i := 1637) (by decide +kernel)⟩
theorem lw_p53 : lw_okq (⟨"ConfettiMinutesModel", "sweepsOne", "(I)I"⟩, 50) := ⟨⟨by decide +kernel, by decide +kernel⟩, List.mem_of_getElem? (i := 1288) (by decide +kernel), List.mem_of_getElem? (i := 1644) (by decide +kernel), List.mem_of_getElem? (i := 1645) (by decide +kernel)⟩
theorem lw_p54 : lw_okq (⟨"ConfettiMinutesModel", "goesOn", "([II)I"⟩, 50) := ⟨⟨by decide +kernel, by decide +kernel⟩, List.mem_of_getElem? (i := 1288) (by decide +kernel), List.mem_of_getElem? (i := 1653) (by decide +kernel), List.mem_of_getElem? (i := 1654) (by decide +kernel)⟩
theorem lw_p55 : lw_okq (⟨"ConfettiMinutesModel", "dayGoes", "([I)I"⟩, 50) := ⟨⟨by decide +kernel, by decide +kernel⟩, List.mem_of_getElem? (i := 1288) (by decide +kernel), List.mem_of_getElem? (i := 1657) (by decide +kernel), List.mem_of_getElem? (i := 1658) (by decide +kernel)⟩
theorem lw_p56 : lw_okq (⟨"ConfettiMinutesModel", "blown", "([III)I"⟩, 50) := ⟨⟨by decide +kernel, by decide +kernel⟩, List.mem_of_getElem? (i := 1288) (by decide +kernel), List.mem_of_getElem? (i := 1661) (by decide +kernel), List.mem_of_getElem? (i := 1662) (by decide +kernel)⟩
theorem lw_p57 : lw_okq (⟨"ConfettiMinutesModel", "ruled", "()I"⟩, 50) := ⟨⟨by decide +kernel, by decide +kernel⟩, List.mem_of_getElem? (i := 1288) (by decide +kernel), List.mem_of_getElem? (i := 1668) (by decide +kernel), List.mem_of_getElem? (i := 1669) (by decide +kernel)⟩
theorem lw_p58 : lw_okq (⟨"ConfettiMinutesModel", "enters", "(J)V"⟩, 50) := ⟨⟨by decide +kernel, by decide +kernel⟩, List.mem_of_getElem? (i := 1288) (by decide +kernel), List.mem_of_getElem? (i := 1678) (by decide +kernel), List.mem_of_getElem? (i := 1679) (by decide +kernel)⟩
theorem lw_p59 : lw_okq (⟨"ConfettiMinutesModel", "rights", "([I)I"⟩, 50) := ⟨⟨by decide +kernel, by decide +kernel⟩, List.mem_of_getElem? (i := 1288) (by decide +kernel), List.mem_of_getElem? (i := 1682) (by decide +kernel), List.mem_of_getElem? (i := 1683) (by decide +kernel)⟩
theorem lw_p60 : lw_okq (⟨"ConfettiMinutesModel", "walksOne", "(II)I"⟩, 50) := ⟨⟨by decide +kernel, by decide +kernel⟩, List.mem_of_getElem? (i := 1288) (by decide +kernel), List.mem_of_getElem? (i := 1690) (by decide +kernel), List.mem_of_getElem? (i := 1691) (by decide +kernel)⟩
theorem lw_p61 : lw_okq (⟨"ConfettiMinutesModel", "givesAll", "(III)I"⟩, 50) := ⟨⟨by decide +kernel, by decide +kernel⟩, List.mem_of_getElem? (i := 1288) (by decide +kernel), List.mem_of_getElem? (i := 1699) (by decide +kernel), List.mem_of_getElem? (i := 1700) (by decide +kernel)⟩
theorem lw_p62 : lw_okq (⟨"ConfettiMinutesModel", "goesFrom", "(IIII)I"⟩, 50) := ⟨⟨by decide +kernel, by decide +kernel⟩, List.mem_of_getElem? (i := 1288) (by decide +kernel), List.mem_of_getElem? (i := 1703) (by decide +kernel), List.mem_of_getElem? (i := 1704) (by decide +kernel)⟩
theorem lw_p63 : lw_okq (⟨"ConfettiMinutesModel", "fallsFrom", "(I)I"⟩, 50) := ⟨⟨by decide +kernel, by decide +kernel⟩, List.mem_of_getElem? (i := 1288) (by decide +kernel), List.mem_of_getElem? (i := 1711) (by decide +kernel), List.mem_of_getElem? (i := 1712) (by decide +kernel)⟩
def lw_privs_4 : List (MethodName × Nat) := [(⟨"ConfettiMinutesModel", "carriesOne", "(I)I"⟩, 50), (⟨"ConfettiMinutesModel", "counted", "(I)I"⟩, 50), (⟨"ConfettiMinutesModel", "adds", "(I)I"⟩, 50), (⟨"ConfettiMinutesModel", "flingsOne", "(II)I"⟩, 50), (⟨"ConfettiMinutesModel", "fallsIn", "([III)V"⟩, 50), (⟨"ConfettiMinutesModel", "sweepsOne", "(I)I"⟩, 50), (⟨"ConfettiMinutesModel", "goesOn", "([II)I"⟩, 50), (⟨"ConfettiMinutesModel", "dayGoes", "([I)I"⟩, 50), (⟨"ConfettiMinutesModel", "blown", "([III)I"⟩, 50), (⟨"ConfettiMinutesModel", "ruled", "()I"⟩, 50), (⟨"ConfettiMinutesModel", "enters", "(J)V"⟩, 50), (⟨"ConfettiMinutesModel", "rights", "([I)I"⟩, 50), (⟨"ConfettiMinutesModel", "walksOne", "(II)I"⟩, 50), (⟨"ConfettiMinutesModel", "givesAll", "(III)I"⟩, 50), (⟨"ConfettiMinutesModel", "goesFrom", "(IIII)I"⟩, 50), (⟨"ConfettiMinutesModel", "fallsFrom", "(I)I"⟩, 50)]
theorem lw_r4 : ∀ q ∈ lw_privs_4, lw_okq q := List.forall_mem_cons.mpr ⟨lw_p48, List.forall_mem_cons.mpr ⟨lw_p49, List.forall_mem_cons.mpr ⟨lw_p50, List.forall_mem_cons.mpr ⟨lw_p51, List.forall_mem_cons.mpr ⟨lw_p52, List.forall_mem_cons.mpr ⟨lw_p53, List.forall_mem_cons.mpr ⟨lw_p54, List.forall_mem_cons.mpr ⟨lw_p55, List.forall_mem_cons.mpr ⟨lw_p56, List.forall_mem_cons.mpr ⟨lw_p57, List.forall_mem_cons.mpr ⟨lw_p58, List.forall_mem_cons.mpr ⟨lw_p59, List.forall_mem_cons.mpr ⟨lw_p60, List.forall_mem_cons.mpr ⟨lw_p61, List.forall_mem_cons.mpr ⟨lw_p62, List.forall_mem_cons.mpr ⟨lw_p63, fun _ h => absurd h List.not_mem_nil⟩⟩⟩⟩⟩⟩⟩⟩⟩⟩⟩⟩⟩⟩⟩⟩
theorem lw_p64 : lw_okq (⟨"ConfettiMinutesModel", "windTo", "(I)I"⟩, 50) := ⟨⟨by decide +kernel, by decide +kernel⟩, List.mem_of_getElem? (i := 1288) (by decide +kernel), List.mem_of_getElem? (i := 1719) (by decide +kernel), List.mem_of_getElem? (i := 1720) (by decide +kernel)⟩
theorem lw_p65 : lw_okq (⟨"ConfettiMinutesModel", "readsAct", "()Z"⟩, 50) := ⟨⟨by decide +kernel, by decide +kernel⟩, List.mem_of_getElem? (i := 1288) (by decide +kernel), List.mem_of_getElem? (i := 1728) (by decide +kernel), List.mem_of_getElem? (i := 1729) (by decide +kernel)⟩
theorem lw_p66 : lw_okq (⟨"ConfettiMinutesModel", "does", "(I)Z"⟩, 50) := ⟨⟨by decide +kernel, by decide +kernel⟩, List.mem_of_getElem? (i := 1288) (by decide +kernel), List.mem_of_getElem? (i := 1734) (by decide +kernel), List.mem_of_getElem? (i := 1735) (by decide +kernel)⟩
theorem lw_p67 : lw_okq (⟨"ConfettiMinutesModel", "heldMany", "([I)I"⟩, 50) := ⟨⟨by decide +kernel, by decide +kernel⟩, List.mem_of_getElem? (i := 1288) (by decide +kernel), List.mem_of_getElem? (i := 1738) (by decide +kernel), List.mem_of_getElem? (i := 1739) (by decide +kernel)⟩
theorem lw_p68 : lw_okq (⟨"ConfettiMinutesModel", "heldWith", "(IIII)I"⟩, 50) := ⟨⟨by decide +kernel, by decide +kernel⟩, List.mem_of_getElem? (i := 1288) (by decide +kernel), List.mem_of_getElem? (i := 1770) (by decide +kernel), List.mem_of_getElem? (i := 1771) (by decide +kernel)⟩
theorem lw_p69 : lw_okq (⟨"ConfettiMinutesModel", "all", "()I"⟩, 50) := ⟨⟨by decide +kernel, by decide +kernel⟩, List.mem_of_getElem? (i := 1288) (by decide +kernel), List.mem_of_getElem? (i := 1786) (by decide +kernel), List.mem_of_getElem? (i := 1787) (by decide +kernel)⟩
theorem lw_p70 : lw_okq (⟨"ConfettiMinutesModel", "holdsOfAll", "(I)Z"⟩, 50) := ⟨⟨by decide +kernel, by decide +kernel⟩, List.mem_of_getElem? (i := 1288) (by decide +kernel), List.mem_of_getElem? (i := 1790) (by decide +kernel), List.mem_of_getElem? (i := 1791) (by decide +kernel)⟩
theorem lw_p71 : lw_okq (⟨"ConfettiMinutesModel", "holdersOf", "(I)I"⟩, 50) := ⟨⟨by decide +kernel, by decide +kernel⟩, List.mem_of_getElem? (i := 1288) (by decide +kernel), List.mem_of_getElem? (i := 1794) (by decide +kernel), List.mem_of_getElem? (i := 1795) (by decide +kernel)⟩
theorem lw_p72 : lw_okq (⟨"ConfettiMinutesModel", "awardsFrom", "(III)V"⟩, 50) := ⟨⟨by decide +kernel, by decide +kernel⟩, List.mem_of_getElem? (i := 1288) (by decide +kernel), List.mem_of_getElem? (i := 1802) (by decide +kernel), List.mem_of_getElem? (i := 1803) (by decide +kernel)⟩
theorem lw_p73 : lw_okq (⟨"ConfettiMinutesModel", "carriesIt", "(I)Z"⟩, 50) := ⟨⟨by decide +kernel, by decide +kernel⟩, List.mem_of_getElem? (i := 1288) (by decide +kernel), List.mem_of_getElem? (i := 1818) (by decide +kernel), List.mem_of_getElem? (i := 1819) (by decide +kernel)⟩
theorem lw_p74 : lw_okq (⟨"ConfettiMinutesModel", "entersFraction", "(JJ)I"⟩, 50) := ⟨⟨by decide +kernel, by decide +kernel⟩, List.mem_of_getElem? (i := 1288) (by decide +kernel), List.mem_of_getElem? (i := 1822) (by decide +kernel), List.mem_of_getElem? (i := 1823) (by decide +kernel)⟩
theorem lw_p75 : lw_okq (⟨"ConfettiMinutesModel", "winds", "()I"⟩, 50) := ⟨⟨by decide +kernel, by decide +kernel⟩, List.mem_of_getElem? (i := 1288) (by decide +kernel), List.mem_of_getElem? (i := 1845) (by decide +kernel), List.mem_of_getElem? (i := 1846) (by decide +kernel)⟩
theorem lw_p76 : lw_okq (⟨"ConfettiMinutesModel", "fitting", "()I"⟩, 50) := ⟨⟨by decide +kernel, by decide +kernel⟩, List.mem_of_getElem? (i := 1288) (by decide +kernel), List.mem_of_getElem? (i := 1869) (by decide +kernel), List.mem_of_getElem? (i := 1870) (by decide +kernel)⟩
theorem lw_p77 : lw_okq (⟨"ConfettiMinutesModel", "isSo", "(III)Z"⟩, 50) := ⟨⟨by decide +kernel, by decide +kernel⟩, List.mem_of_getElem? (i := 1288) (by decide +kernel), List.mem_of_getElem? (i := 1873) (by decide +kernel), List.mem_of_getElem? (i := 1874) (by decide +kernel)⟩
theorem lw_p78 : lw_okq (⟨"ConfettiMinutesModel", "isScatter", "(I)Z"⟩, 50) := ⟨⟨by decide +kernel, by decide +kernel⟩, List.mem_of_getElem? (i := 1288) (by decide +kernel), List.mem_of_getElem? (i := 1899) (by decide +kernel), List.mem_of_getElem? (i := 1900) (by decide +kernel)⟩
theorem lw_p79 : lw_okq (⟨"ConfettiMinutesModel", "draws", "(I)I"⟩, 50) := ⟨⟨by decide +kernel, by decide +kernel⟩, List.mem_of_getElem? (i := 1288) (by decide +kernel), List.mem_of_getElem? (i := 1933) (by decide +kernel), List.mem_of_getElem? (i := 1934) (by decide +kernel)⟩
def lw_privs_5 : List (MethodName × Nat) := [(⟨"ConfettiMinutesModel", "windTo", "(I)I"⟩, 50), (⟨"ConfettiMinutesModel", "readsAct", "()Z"⟩, 50), (⟨"ConfettiMinutesModel", "does", "(I)Z"⟩, 50), (⟨"ConfettiMinutesModel", "heldMany", "([I)I"⟩, 50), (⟨"ConfettiMinutesModel", "heldWith", "(IIII)I"⟩, 50), (⟨"ConfettiMinutesModel", "all", "()I"⟩, 50), (⟨"ConfettiMinutesModel", "holdsOfAll", "(I)Z"⟩, 50), (⟨"ConfettiMinutesModel", "holdersOf", "(I)I"⟩, 50), (⟨"ConfettiMinutesModel", "awardsFrom", "(III)V"⟩, 50), (⟨"ConfettiMinutesModel", "carriesIt", "(I)Z"⟩, 50), (⟨"ConfettiMinutesModel", "entersFraction", "(JJ)I"⟩, 50), (⟨"ConfettiMinutesModel", "winds", "()I"⟩, 50), (⟨"ConfettiMinutesModel", "fitting", "()I"⟩, 50), (⟨"ConfettiMinutesModel", "isSo", "(III)Z"⟩, 50), (⟨"ConfettiMinutesModel", "isScatter", "(I)Z"⟩, 50), (⟨"ConfettiMinutesModel", "draws", "(I)I"⟩, 50)]
theorem lw_r5 : ∀ q ∈ lw_privs_5, lw_okq q := List.forall_mem_cons.mpr ⟨lw_p64, List.forall_mem_cons.mpr ⟨lw_p65, List.forall_mem_cons.mpr ⟨lw_p66, List.forall_mem_cons.mpr ⟨lw_p67, List.forall_mem_cons.mpr ⟨lw_p68, List.forall_mem_cons.mpr ⟨lw_p69, List.forall_mem_cons.mpr ⟨lw_p70, List.forall_mem_cons.mpr ⟨lw_p71, List.forall_mem_cons.mpr ⟨lw_p72, List.forall_mem_cons.mpr ⟨lw_p73, List.forall_mem_cons.mpr ⟨lw_p74, List.forall_mem_cons.mpr ⟨lw_p75, List.forall_mem_cons.mpr ⟨lw_p76, List.forall_mem_cons.mpr ⟨lw_p77, List.forall_mem_cons.mpr ⟨lw_p78, List.forall_mem_cons.mpr ⟨lw_p79, fun _ h => absurd h List.not_mem_nil⟩⟩⟩⟩⟩⟩⟩⟩⟩⟩⟩⟩⟩⟩⟩⟩
def lw_privs : List (MethodName × Nat) := lw_privs_1 ++ (lw_privs_2 ++ (lw_privs_3 ++ (lw_privs_4 ++ (lw_privs_5))))
def lw_tbl : List Cond := k2_sels lw_privs ++ tables_1
theorem lw_privs_ok : ∀ q ∈ lw_privs, lw_okq q := by
  show ∀ q ∈ lw_privs_1 ++ (lw_privs_2 ++ (lw_privs_3 ++ (lw_privs_4 ++ (lw_privs_5)))), lw_okq q
  exact List.forall_mem_append.mpr ⟨lw_r1, List.forall_mem_append.mpr ⟨lw_r2, List.forall_mem_append.mpr ⟨lw_r3, List.forall_mem_append.mpr ⟨lw_r4, lw_r5⟩⟩⟩⟩
end
section
def RX0 : String := "ConfettiMinutes$Flights"
def TX0 : u_T := fun k => match k with
  | _ => ("ConfettiMinutes$Flights", "ledger", "LConfettiMinutes$Ledger;", true)
def tyX0 : Nat → FieldType := fun k => match k with
  | _ => .object "ConfettiMinutes$Ledger"
abbrev wsX00 : List Cond := u_ws RX0 TX0 1
theorem nmX0 : ∀ a, a < 1 → ∀ b, b < 1 → a ≠ b → (TX0 a).2.1 ≠ (TX0 b).2.1 := by decide +kernel
theorem tyX0_ok : ∀ k, k < 1 → parseFieldDescriptor (TX0 k).2.2.1 = some (tyX0 k) := by decide +kernel
abbrev cX0_init : ByteArray := prog_2_method_1_code
def yX0_init : MethodName := ⟨RX0, "<init>", "()V"⟩
abbrev cX0_timesWind : ByteArray := prog_2_method_2_code
def yX0_timesWind : MethodName := ⟨RX0, "timesWind", "(I)I"⟩
abbrev cX0_timesNumber : ByteArray := prog_2_method_3_code
def yX0_timesNumber : MethodName := ⟨RX0, "timesNumber", "(I)I"⟩
abbrev cX0_firstOf : ByteArray := prog_2_method_4_code
def yX0_firstOf : MethodName := ⟨RX0, "firstOf", "(I)I"⟩
abbrev cX0_wayBy : ByteArray := prog_2_method_5_code
def yX0_wayBy : MethodName := ⟨RX0, "wayBy", "(III)I"⟩
abbrev cX0_lawsLeft : ByteArray := prog_2_method_6_code
def yX0_lawsLeft : MethodName := ⟨RX0, "lawsLeft", "()I"⟩
abbrev cX0_suits : ByteArray := prog_2_method_7_code
def yX0_suits : MethodName := ⟨RX0, "suits", "(I)Z"⟩
abbrev cX0_mostLeft : ByteArray := prog_2_method_8_code
def yX0_mostLeft : MethodName := ⟨RX0, "mostLeft", "(III)I"⟩
def RX1 : String := "ConfettiMinutes$Hearsay"
def TX1 : u_T := fun k => match k with
  | _ => ("ConfettiMinutes$Hearsay", "ledger", "LConfettiMinutes$Ledger;", true)
def tyX1 : Nat → FieldType := fun k => match k with
  | _ => .object "ConfettiMinutes$Ledger"
abbrev wsX10 : List Cond := u_ws RX1 TX1 1
theorem nmX1 : ∀ a, a < 1 → ∀ b, b < 1 → a ≠ b → (TX1 a).2.1 ≠ (TX1 b).2.1 := by decide +kernel
theorem tyX1_ok : ∀ k, k < 1 → parseFieldDescriptor (TX1 k).2.2.1 = some (tyX1 k) := by decide +kernel
abbrev cX1_init : ByteArray := prog_3_method_1_code
def yX1_init : MethodName := ⟨RX1, "<init>", "()V"⟩
abbrev cX1_isTalk : ByteArray := prog_3_method_2_code
def yX1_isTalk : MethodName := ⟨RX1, "isTalk", "(II)Z"⟩
abbrev cX1_peopleLeft : ByteArray := prog_3_method_3_code
def yX1_peopleLeft : MethodName := ⟨RX1, "peopleLeft", "(LConfettiMinutes$Town;)I"⟩
abbrev cX1_suits : ByteArray := prog_3_method_4_code
def yX1_suits : MethodName := ⟨RX1, "suits", "(LConfettiMinutes$Town;I)Z"⟩
abbrev cX1_isSo : ByteArray := prog_3_method_5_code
def yX1_isSo : MethodName := ⟨RX1, "isSo", "(LConfettiMinutes$Town;III)Z"⟩
abbrev cX1_mostLeft : ByteArray := prog_3_method_6_code
def yX1_mostLeft : MethodName := ⟨RX1, "mostLeft", "(LConfettiMinutes$Town;III)I"⟩
def RX2 : String := "ConfettiMinutes$Ledger"
def TX2 : u_T := fun k => match k with
  | 0 => ("ConfettiMinutes$Ledger", "numbers", "[I", true)
  | 1 => ("ConfettiMinutes$Ledger", "room", "I", true)
  | _ => ("ConfettiMinutes$Ledger", "size", "I", false)
def tyX2 : Nat → FieldType := fun k => match k with
  | 0 => .array .int
  | 1 => .int
  | _ => .int
abbrev wsX20 : List Cond := u_ws RX2 TX2 3
theorem nmX2 : ∀ a, a < 3 → ∀ b, b < 3 → a ≠ b → (TX2 a).2.1 ≠ (TX2 b).2.1 := by decide +kernel
theorem tyX2_ok : ∀ k, k < 3 → parseFieldDescriptor (TX2 k).2.2.1 = some (tyX2 k) := by decide +kernel
abbrev cX2_init : ByteArray := prog_4_method_1_code
def yX2_init : MethodName := ⟨RX2, "<init>", "(I)V"⟩
abbrev cX2_size : ByteArray := prog_4_method_2_code
def yX2_size : MethodName := ⟨RX2, "size", "()I"⟩
abbrev cX2_add : ByteArray := prog_4_method_3_code
def yX2_add : MethodName := ⟨RX2, "add", "(III)I"⟩
abbrev cX2_at : ByteArray := prog_4_method_4_code
def yX2_at : MethodName := ⟨RX2, "at", "(II)I"⟩
abbrev cX2_isFull : ByteArray := prog_4_method_5_code
def yX2_isFull : MethodName := ⟨RX2, "isFull", "()Z"⟩
abbrev cX2_empty : ByteArray := prog_4_method_6_code
def yX2_empty : MethodName := ⟨RX2, "empty", "()I"⟩
def RX3 : String := "ConfettiMinutes$Past"
def TX3 : u_T := fun k => match k with
  | 0 => ("ConfettiMinutes$Past", "deeds", "[LConfettiMinutes$Town;", true)
  | 1 => ("ConfettiMinutes$Past", "stores", "[LConfettiMinutes$Town;", true)
  | 2 => ("ConfettiMinutes$Past", "first", "I", false)
  | 3 => ("ConfettiMinutes$Past", "size", "I", false)
  | _ => ("ConfettiMinutes$Past", "stored", "I", false)
def tyX3 : Nat → FieldType := fun k => match k with
  | 0 => .array (.object "ConfettiMinutes$Town")
  | 1 => .array (.object "ConfettiMinutes$Town")
  | 2 => .int
  | 3 => .int
  | _ => .int
abbrev wsX30 : List Cond := u_ws RX3 TX3 5
theorem nmX3 : ∀ a, a < 5 → ∀ b, b < 5 → a ≠ b → (TX3 a).2.1 ≠ (TX3 b).2.1 := by decide +kernel
theorem tyX3_ok : ∀ k, k < 5 → parseFieldDescriptor (TX3 k).2.2.1 = some (tyX3 k) := by decide +kernel
abbrev cX3_init : ByteArray := prog_5_method_1_code
def yX3_init : MethodName := ⟨RX3, "<init>", "()V"⟩
abbrev cX3_size : ByteArray := prog_5_method_2_code
def yX3_size : MethodName := ⟨RX3, "size", "()I"⟩
abbrev cX3_push : ByteArray := prog_5_method_3_code
def yX3_push : MethodName := ⟨RX3, "push", "(LConfettiMinutes$Town;)V"⟩
abbrev cX3_pop : ByteArray := prog_5_method_4_code
def yX3_pop : MethodName := ⟨RX3, "pop", "(LConfettiMinutes$Town;)I"⟩
abbrev cX3_deedAt : ByteArray := prog_5_method_5_code
def yX3_deedAt : MethodName := ⟨RX3, "deedAt", "(I)LConfettiMinutes$Town;"⟩
abbrev cX3_store : ByteArray := prog_5_method_6_code
def yX3_store : MethodName := ⟨RX3, "store", "(ILConfettiMinutes$Town;)Z"⟩
abbrev cX3_bringBack : ByteArray := prog_5_method_7_code
def yX3_bringBack : MethodName := ⟨RX3, "bringBack", "(ILConfettiMinutes$Town;)Z"⟩
abbrev cX3_forgetAll : ByteArray := prog_5_method_8_code
def yX3_forgetAll : MethodName := ⟨RX3, "forgetAll", "()V"⟩
def RX4 : String := "ConfettiMinutes$Row"
def TX4 : u_T := fun k => match k with
  | 0 => ("ConfettiMinutes$Row", "numbers", "[J", true)
  | _ => ("ConfettiMinutes$Row", "size", "I", false)
def tyX4 : Nat → FieldType := fun k => match k with
  | 0 => .array .long
  | _ => .int
abbrev wsX40 : List Cond := u_ws RX4 TX4 2
theorem nmX4 : ∀ a, a < 2 → ∀ b, b < 2 → a ≠ b → (TX4 a).2.1 ≠ (TX4 b).2.1 := by decide +kernel
theorem tyX4_ok : ∀ k, k < 2 → parseFieldDescriptor (TX4 k).2.2.1 = some (tyX4 k) := by decide +kernel
abbrev cX4_init : ByteArray := prog_6_method_1_code
def yX4_init : MethodName := ⟨RX4, "<init>", "()V"⟩
abbrev cX4_size : ByteArray := prog_6_method_2_code
def yX4_size : MethodName := ⟨RX4, "size", "()I"⟩
abbrev cX4_at : ByteArray := prog_6_method_3_code
def yX4_at : MethodName := ⟨RX4, "at", "(I)J"⟩
abbrev cX4_clear : ByteArray := prog_6_method_4_code
def yX4_clear : MethodName := ⟨RX4, "clear", "()V"⟩
abbrev cX4_add : ByteArray := prog_6_method_5_code
def yX4_add : MethodName := ⟨RX4, "add", "(J)V"⟩
abbrev cX4_tell : ByteArray := prog_6_method_6_code
def yX4_tell : MethodName := ⟨RX4, "tell", "(J)V"⟩
abbrev cX4_tell_ : ByteArray := prog_6_method_7_code
def yX4_tell_ : MethodName := ⟨RX4, "tell", "(JJ)V"⟩
abbrev cX4_tellFraction : ByteArray := prog_6_method_8_code
def yX4_tellFraction : MethodName := ⟨RX4, "tellFraction", "(JJ)V"⟩
def RX5 : String := "ConfettiMinutes$Rule"
def TX5 : u_T := fun k => match k with
  | 0 => ("ConfettiMinutes$Rule", "known", "[I", true)
  | 1 => ("ConfettiMinutes$Rule", "code", "[I", true)
  | 2 => ("ConfettiMinutes$Rule", "waiting", "[I", true)
  | 3 => ("ConfettiMinutes$Rule", "stack", "[I", true)
  | 4 => ("ConfettiMinutes$Rule", "size", "I", false)
  | 5 => ("ConfettiMinutes$Rule", "waits", "I", false)
  | 6 => ("ConfettiMinutes$Rule", "depth", "I", false)
  | 7 => ("ConfettiMinutes$Rule", "digits", "I", false)
  | 8 => ("ConfettiMinutes$Rule", "compared", "I", false)
  | _ => ("ConfettiMinutes$Rule", "wantsThing", "Z", false)
def tyX5 : Nat → FieldType := fun k => match k with
  | 0 => .array .int
  | 1 => .array .int
  | 2 => .array .int
  | 3 => .array .int
  | 4 => .int
  | 5 => .int
  | 6 => .int
  | 7 => .int
  | 8 => .int
  | _ => .boolean
abbrev wsX50 : List Cond := u_ws RX5 TX5 10
theorem nmX5 : ∀ a, a < 10 → ∀ b, b < 10 → a ≠ b → (TX5 a).2.1 ≠ (TX5 b).2.1 := by decide +kernel
theorem tyX5_ok : ∀ k, k < 10 → parseFieldDescriptor (TX5 k).2.2.1 = some (tyX5 k) := by decide +kernel
abbrev cX5_init : ByteArray := prog_7_method_1_code
def yX5_init : MethodName := ⟨RX5, "<init>", "()V"⟩
abbrev cX5_read : ByteArray := prog_7_method_2_code
def yX5_read : MethodName := ⟨RX5, "read", "(LConfettiMinutes$Script;I)I"⟩
abbrev cX5_drift : ByteArray := prog_7_method_3_code
def yX5_drift : MethodName := ⟨RX5, "drift", "()I"⟩
abbrev cX5_learn : ByteArray := prog_7_method_4_code
def yX5_learn : MethodName := ⟨RX5, "learn", "(LConfettiMinutes$Town;III)V"⟩
abbrev cX5_worth : ByteArray := prog_7_method_5_code
def yX5_worth : MethodName := ⟨RX5, "worth", "(I)I"⟩
abbrev cX5_takesThing : ByteArray := prog_7_method_6_code
def yX5_takesThing : MethodName := ⟨RX5, "takesThing", "(C)Z"⟩
abbrev cX5_takesBehind : ByteArray := prog_7_method_7_code
def yX5_takesBehind : MethodName := ⟨RX5, "takesBehind", "(C)Z"⟩
abbrev cX5_takesDigit : ByteArray := prog_7_method_8_code
def yX5_takesDigit : MethodName := ⟨RX5, "takesDigit", "(C)Z"⟩
abbrev cX5_closes : ByteArray := prog_7_method_9_code
def yX5_closes : MethodName := ⟨RX5, "closes", "()Z"⟩
abbrev cX5_release : ByteArray := prog_7_method_10_code
def yX5_release : MethodName := ⟨RX5, "release", "(I)V"⟩
abbrev cX5_hold : ByteArray := prog_7_method_11_code
def yX5_hold : MethodName := ⟨RX5, "hold", "(I)V"⟩
abbrev cX5_emit : ByteArray := prog_7_method_12_code
def yX5_emit : MethodName := ⟨RX5, "emit", "(I)V"⟩
abbrev cX5_isDigit : ByteArray := prog_7_method_13_code
def yX5_isDigit : MethodName := ⟨RX5, "isDigit", "(C)Z"⟩
abbrev cX5_strengthOf : ByteArray := prog_7_method_14_code
def yX5_strengthOf : MethodName := ⟨RX5, "strengthOf", "(I)I"⟩
abbrev cX5_joined : ByteArray := prog_7_method_15_code
def yX5_joined : MethodName := ⟨RX5, "joined", "(III)I"⟩
def RX6 : String := "ConfettiMinutes$Script"
def TX6 : u_T := fun k => match k with
  | 0 => ("ConfettiMinutes$Script", "signs", "[C", true)
  | _ => ("ConfettiMinutes$Script", "length", "I", false)
def tyX6 : Nat → FieldType := fun k => match k with
  | 0 => .array .char
  | _ => .int
abbrev wsX60 : List Cond := u_ws RX6 TX6 2
theorem nmX6 : ∀ a, a < 2 → ∀ b, b < 2 → a ≠ b → (TX6 a).2.1 ≠ (TX6 b).2.1 := by decide +kernel
theorem tyX6_ok : ∀ k, k < 2 → parseFieldDescriptor (TX6 k).2.2.1 = some (tyX6 k) := by decide +kernel
abbrev cX6_init : ByteArray := prog_8_method_1_code
def yX6_init : MethodName := ⟨RX6, "<init>", "()V"⟩
abbrev cX6_length : ByteArray := prog_8_method_2_code
def yX6_length : MethodName := ⟨RX6, "length", "()I"⟩
abbrev cX6_append : ByteArray := prog_8_method_3_code
def yX6_append : MethodName := ⟨RX6, "append", "(I)I"⟩
abbrev cX6_cut : ByteArray := prog_8_method_4_code
def yX6_cut : MethodName := ⟨RX6, "cut", "(I)Z"⟩
abbrev cX6_take : ByteArray := prog_8_method_5_code
def yX6_take : MethodName := ⟨RX6, "take", "()I"⟩
abbrev cX6_at : ByteArray := prog_8_method_6_code
def yX6_at : MethodName := ⟨RX6, "at", "(I)C"⟩
abbrev cX6_digitAt : ByteArray := prog_8_method_7_code
def yX6_digitAt : MethodName := ⟨RX6, "digitAt", "(I)I"⟩
abbrev cX6_faultOfLines : ByteArray := prog_8_method_8_code
def yX6_faultOfLines : MethodName := ⟨RX6, "faultOfLines", "(ICCI)I"⟩
abbrev cX6_faultOfWedding : ByteArray := prog_8_method_9_code
def yX6_faultOfWedding : MethodName := ⟨RX6, "faultOfWedding", "(I)I"⟩
abbrev cX6_actLength : ByteArray := prog_8_method_10_code
def yX6_actLength : MethodName := ⟨RX6, "actLength", "(I)I"⟩
abbrev cX6_shapeOf : ByteArray := prog_8_method_11_code
def yX6_shapeOf : MethodName := ⟨RX6, "shapeOf", "(C)Ljava/lang/String;"⟩
abbrev cX6_suits : ByteArray := prog_8_method_12_code
def yX6_suits : MethodName := ⟨RX6, "suits", "(CC)Z"⟩
def RX7 : String := "ConfettiMinutes$Shares"
def TX7 : u_T := fun k => match k with
  | 0 => ("ConfettiMinutes$Shares", "holders", "[I", true)
  | 1 => ("ConfettiMinutes$Shares", "votes", "[I", true)
  | 2 => ("ConfettiMinutes$Shares", "best", "[I", true)
  | _ => ("ConfettiMinutes$Shares", "allVotes", "I", false)
def tyX7 : Nat → FieldType := fun k => match k with
  | 0 => .array .int
  | 1 => .array .int
  | 2 => .array .int
  | _ => .int
abbrev wsX70 : List Cond := u_ws RX7 TX7 4
theorem nmX7 : ∀ a, a < 4 → ∀ b, b < 4 → a ≠ b → (TX7 a).2.1 ≠ (TX7 b).2.1 := by decide +kernel
theorem tyX7_ok : ∀ k, k < 4 → parseFieldDescriptor (TX7 k).2.2.1 = some (tyX7 k) := by decide +kernel
abbrev cX7_init : ByteArray := prog_9_method_1_code
def yX7_init : MethodName := ⟨RX7, "<init>", "()V"⟩
abbrev cX7_lawsHeld : ByteArray := prog_9_method_2_code
def yX7_lawsHeld : MethodName := ⟨RX7, "lawsHeld", "(LConfettiMinutes$Town;)I"⟩
abbrev cX7_hittingSet : ByteArray := prog_9_method_3_code
def yX7_hittingSet : MethodName := ⟨RX7, "hittingSet", "(LConfettiMinutes$Town;)I"⟩
abbrev cX7_hitsAll : ByteArray := prog_9_method_4_code
def yX7_hitsAll : MethodName := ⟨RX7, "hitsAll", "(I)Z"⟩
abbrev cX7_weighAwards : ByteArray := prog_9_method_5_code
def yX7_weighAwards : MethodName := ⟨RX7, "weighAwards", "(LConfettiMinutes$Town;)I"⟩
abbrev cX7_tellAwards : ByteArray := prog_9_method_6_code
def yX7_tellAwards : MethodName := ⟨RX7, "tellAwards", "(LConfettiMinutes$Town;LConfettiMinutes$Row;)V"⟩
abbrev cX7_worth : ByteArray := prog_9_method_7_code
def yX7_worth : MethodName := ⟨RX7, "worth", "(LConfettiMinutes$Town;III)I"⟩
abbrev cX7_bestOf : ByteArray := prog_9_method_8_code
def yX7_bestOf : MethodName := ⟨RX7, "bestOf", "(II)I"⟩
abbrev cX7_richest : ByteArray := prog_9_method_9_code
def yX7_richest : MethodName := ⟨RX7, "richest", "(LConfettiMinutes$Town;I)I"⟩
abbrev cX7_weigh : ByteArray := prog_9_method_10_code
def yX7_weigh : MethodName := ⟨RX7, "weigh", "(LConfettiMinutes$Town;)V"⟩
abbrev cX7_swings : ByteArray := prog_9_method_11_code
def yX7_swings : MethodName := ⟨RX7, "swings", "(LConfettiMinutes$Town;I)I"⟩
abbrev cX7_isLeast : ByteArray := prog_9_method_12_code
def yX7_isLeast : MethodName := ⟨RX7, "isLeast", "(I)Z"⟩
abbrev cX7_prevails : ByteArray := prog_9_method_13_code
def yX7_prevails : MethodName := ⟨RX7, "prevails", "(I)Z"⟩
def RX8 : String := "ConfettiMinutes$Sights"
def TX8 : u_T := fun k => match k with
  | 0 => ("ConfettiMinutes$Sights", "ledger", "LConfettiMinutes$Ledger;", true)
  | _ => ("ConfettiMinutes$Sights", "tally", "[I", true)
def tyX8 : Nat → FieldType := fun k => match k with
  | 0 => .object "ConfettiMinutes$Ledger"
  | _ => .array .int
abbrev wsX80 : List Cond := u_ws RX8 TX8 2
theorem nmX8 : ∀ a, a < 2 → ∀ b, b < 2 → a ≠ b → (TX8 a).2.1 ≠ (TX8 b).2.1 := by decide +kernel
theorem tyX8_ok : ∀ k, k < 2 → parseFieldDescriptor (TX8 k).2.2.1 = some (tyX8 k) := by decide +kernel
abbrev cX8_init : ByteArray := prog_10_method_1_code
def yX8_init : MethodName := ⟨RX8, "<init>", "()V"⟩
abbrev cX8_windsLeft : ByteArray := prog_10_method_2_code
def yX8_windsLeft : MethodName := ⟨RX8, "windsLeft", "(LConfettiMinutes$Town;LConfettiMinutes$Rule;LConfettiMinutes$Weather;)I"⟩
abbrev cX8_suits : ByteArray := prog_10_method_3_code
def yX8_suits : MethodName := ⟨RX8, "suits", "(LConfettiMinutes$Town;LConfettiMinutes$Rule;LConfettiMinutes$Weather;I)Z"⟩
abbrev cX8_mostLeft : ByteArray := prog_10_method_4_code
def yX8_mostLeft : MethodName := ⟨RX8, "mostLeft", "(LConfettiMinutes$Town;LConfettiMinutes$Rule;LConfettiMinutes$Weather;II)I"⟩
def RX9 : String := "ConfettiMinutes$Town"
def TX9 : u_T := fun k => match k with
  | 0 => ("ConfettiMinutes$Town", "torn", "[I", true)
  | 1 => ("ConfettiMinutes$Town", "street", "[I", true)
  | 2 => ("ConfettiMinutes$Town", "place", "[I", true)
  | 3 => ("ConfettiMinutes$Town", "lawCount", "I", false)
  | 4 => ("ConfettiMinutes$Town", "peopleCount", "I", false)
  | 5 => ("ConfettiMinutes$Town", "carried", "I", false)
  | 6 => ("ConfettiMinutes$Town", "flung", "I", false)
  | 7 => ("ConfettiMinutes$Town", "wind", "I", false)
  | _ => ("ConfettiMinutes$Town", "day", "I", false)
def tyX9 : Nat → FieldType := fun k => match k with
  | 0 => .array .int
  | 1 => .array .int
  | 2 => .array .int
  | 3 => .int
  | 4 => .int
  | 5 => .int
  | 6 => .int
  | 7 => .int
  | _ => .int
abbrev wsX90 : List Cond := u_ws RX9 TX9 9
theorem nmX9 : ∀ a, a < 9 → ∀ b, b < 9 → a ≠ b → (TX9 a).2.1 ≠ (TX9 b).2.1 := by decide +kernel
theorem tyX9_ok : ∀ k, k < 9 → parseFieldDescriptor (TX9 k).2.2.1 = some (tyX9 k) := by decide +kernel
abbrev cX9_init : ByteArray := prog_11_method_1_code
def yX9_init : MethodName := ⟨RX9, "<init>", "()V"⟩
abbrev cX9_become : ByteArray := prog_11_method_2_code
def yX9_become : MethodName := ⟨RX9, "become", "(LConfettiMinutes$Town;)V"⟩
abbrev cX9_addLaw : ByteArray := prog_11_method_3_code
def yX9_addLaw : MethodName := ⟨RX9, "addLaw", "(I)V"⟩
abbrev cX9_addOne : ByteArray := prog_11_method_4_code
def yX9_addOne : MethodName := ⟨RX9, "addOne", "(I)V"⟩
abbrev cX9_hasLaw : ByteArray := prog_11_method_5_code
def yX9_hasLaw : MethodName := ⟨RX9, "hasLaw", "(I)Z"⟩
abbrev cX9_hasOne : ByteArray := prog_11_method_6_code
def yX9_hasOne : MethodName := ⟨RX9, "hasOne", "(I)Z"⟩
abbrev cX9_hasBit : ByteArray := prog_11_method_7_code
def yX9_hasBit : MethodName := ⟨RX9, "hasBit", "(II)Z"⟩
abbrev cX9_isCarried : ByteArray := prog_11_method_8_code
def yX9_isCarried : MethodName := ⟨RX9, "isCarried", "(I)Z"⟩
abbrev cX9_isFlung : ByteArray := prog_11_method_9_code
def yX9_isFlung : MethodName := ⟨RX9, "isFlung", "(I)Z"⟩
abbrev cX9_bitsOf : ByteArray := prog_11_method_10_code
def yX9_bitsOf : MethodName := ⟨RX9, "bitsOf", "(I)I"⟩
abbrev cX9_streetOf : ByteArray := prog_11_method_11_code
def yX9_streetOf : MethodName := ⟨RX9, "streetOf", "(I)I"⟩
abbrev cX9_placeOf : ByteArray := prog_11_method_12_code
def yX9_placeOf : MethodName := ⟨RX9, "placeOf", "(I)I"⟩
abbrev cX9_settle : ByteArray := prog_11_method_13_code
def yX9_settle : MethodName := ⟨RX9, "settle", "(II)V"⟩
abbrev cX9_lay : ByteArray := prog_11_method_14_code
def yX9_lay : MethodName := ⟨RX9, "lay", "(II)V"⟩
abbrev cX9_lies : ByteArray := prog_11_method_15_code
def yX9_lies : MethodName := ⟨RX9, "lies", "(I)Z"⟩
abbrev cX9_isHeld : ByteArray := prog_11_method_16_code
def yX9_isHeld : MethodName := ⟨RX9, "isHeld", "(I)Z"⟩
abbrev cX9_lyingCount : ByteArray := prog_11_method_17_code
def yX9_lyingCount : MethodName := ⟨RX9, "lyingCount", "()I"⟩
abbrev cX9_heldCount : ByteArray := prog_11_method_18_code
def yX9_heldCount : MethodName := ⟨RX9, "heldCount", "()I"⟩
abbrev cX9_bitsAt : ByteArray := prog_11_method_19_code
def yX9_bitsAt : MethodName := ⟨RX9, "bitsAt", "(I)I"⟩
abbrev cX9_lyingOf : ByteArray := prog_11_method_20_code
def yX9_lyingOf : MethodName := ⟨RX9, "lyingOf", "(I)I"⟩
abbrev cX9_heldOf : ByteArray := prog_11_method_21_code
def yX9_heldOf : MethodName := ⟨RX9, "heldOf", "(I)I"⟩
abbrev cX9_heldBy : ByteArray := prog_11_method_22_code
def yX9_heldBy : MethodName := ⟨RX9, "heldBy", "(I)I"⟩
abbrev cX9_heldByOf : ByteArray := prog_11_method_23_code
def yX9_heldByOf : MethodName := ⟨RX9, "heldByOf", "(II)I"⟩
abbrev cX9_holdersOf : ByteArray := prog_11_method_24_code
def yX9_holdersOf : MethodName := ⟨RX9, "holdersOf", "(I)I"⟩
abbrev cX9_hasRight : ByteArray := prog_11_method_25_code
def yX9_hasRight : MethodName := ⟨RX9, "hasRight", "(II)Z"⟩
abbrev cX9_rightHolder : ByteArray := prog_11_method_26_code
def yX9_rightHolder : MethodName := ⟨RX9, "rightHolder", "(I)I"⟩
abbrev cX9_rightsOf : ByteArray := prog_11_method_27_code
def yX9_rightsOf : MethodName := ⟨RX9, "rightsOf", "(I)I"⟩
abbrev cX9_rightCount : ByteArray := prog_11_method_28_code
def yX9_rightCount : MethodName := ⟨RX9, "rightCount", "()I"⟩
abbrev cX9_carry : ByteArray := prog_11_method_29_code
def yX9_carry : MethodName := ⟨RX9, "carry", "(I)I"⟩
abbrev cX9_fling : ByteArray := prog_11_method_30_code
def yX9_fling : MethodName := ⟨RX9, "fling", "(II)I"⟩
abbrev cX9_scatter : ByteArray := prog_11_method_31_code
def yX9_scatter : MethodName := ⟨RX9, "scatter", "(II)V"⟩
abbrev cX9_layAll : ByteArray := prog_11_method_32_code
def yX9_layAll : MethodName := ⟨RX9, "layAll", "(II)V"⟩
abbrev cX9_sweep : ByteArray := prog_11_method_33_code
def yX9_sweep : MethodName := ⟨RX9, "sweep", "(I)I"⟩
abbrev cX9_walk : ByteArray := prog_11_method_34_code
def yX9_walk : MethodName := ⟨RX9, "walk", "(II)I"⟩
abbrev cX9_give : ByteArray := prog_11_method_35_code
def yX9_give : MethodName := ⟨RX9, "give", "(III)I"⟩
abbrev cX9_letFall : ByteArray := prog_11_method_36_code
def yX9_letFall : MethodName := ⟨RX9, "letFall", "(I)I"⟩
abbrev cX9_turnWind : ByteArray := prog_11_method_37_code
def yX9_turnWind : MethodName := ⟨RX9, "turnWind", "(I)I"⟩
abbrev cX9_pickUp : ByteArray := prog_11_method_38_code
def yX9_pickUp : MethodName := ⟨RX9, "pickUp", "(I)I"⟩
def RX10 : String := "ConfettiMinutes$Weather"
def TX10 : u_T := fun k => match k with
  | 0 => ("ConfettiMinutes$Weather", "crowd", "[I", true)
  | 1 => ("ConfettiMinutes$Weather", "landing", "[I", true)
  | _ => ("ConfettiMinutes$Weather", "drawn", "I", false)
def tyX10 : Nat → FieldType := fun k => match k with
  | 0 => .array .int
  | 1 => .array .int
  | _ => .int
abbrev wsX100 : List Cond := u_ws RX10 TX10 3
theorem nmX10 : ∀ a, a < 3 → ∀ b, b < 3 → a ≠ b → (TX10 a).2.1 ≠ (TX10 b).2.1 := by decide +kernel
theorem tyX10_ok : ∀ k, k < 3 → parseFieldDescriptor (TX10 k).2.2.1 = some (tyX10 k) := by decide +kernel
abbrev cX10_init : ByteArray := prog_12_method_1_code
def yX10_init : MethodName := ⟨RX10, "<init>", "()V"⟩
abbrev cX10_passDays : ByteArray := prog_12_method_2_code
def yX10_passDays : MethodName := ⟨RX10, "passDays", "(LConfettiMinutes$Town;LConfettiMinutes$Rule;I)I"⟩
abbrev cX10_passYears : ByteArray := prog_12_method_3_code
def yX10_passYears : MethodName := ⟨RX10, "passYears", "(LConfettiMinutes$Town;LConfettiMinutes$Rule;II)I"⟩
abbrev cX10_countCrowd : ByteArray := prog_12_method_4_code
def yX10_countCrowd : MethodName := ⟨RX10, "countCrowd", "(LConfettiMinutes$Town;)V"⟩
abbrev cX10_landingOf : ByteArray := prog_12_method_5_code
def yX10_landingOf : MethodName := ⟨RX10, "landingOf", "(LConfettiMinutes$Town;LConfettiMinutes$Rule;II)I"⟩
abbrev cX10_blow : ByteArray := prog_12_method_6_code
def yX10_blow : MethodName := ⟨RX10, "blow", "(LConfettiMinutes$Town;LConfettiMinutes$Rule;)V"⟩
abbrev cX10_draw : ByteArray := prog_12_method_7_code
def yX10_draw : MethodName := ⟨RX10, "draw", "(I)I"⟩
def RX11 : String := "ConfettiMinutes"
def TX11 : u_T := fun k => match k with
  | 0 => ("ConfettiMinutes", "text", "LConfettiMinutes$Script;", true)
  | 1 => ("ConfettiMinutes", "told", "LConfettiMinutes$Row;", true)
  | 2 => ("ConfettiMinutes", "now", "LConfettiMinutes$Town;", true)
  | 3 => ("ConfettiMinutes", "before", "LConfettiMinutes$Town;", true)
  | 4 => ("ConfettiMinutes", "dream", "LConfettiMinutes$Town;", true)
  | 5 => ("ConfettiMinutes", "past", "LConfettiMinutes$Past;", true)
  | 6 => ("ConfettiMinutes", "weather", "LConfettiMinutes$Weather;", true)
  | 7 => ("ConfettiMinutes", "shares", "LConfettiMinutes$Shares;", true)
  | 8 => ("ConfettiMinutes", "sights", "LConfettiMinutes$Sights;", true)
  | 9 => ("ConfettiMinutes", "hearsay", "LConfettiMinutes$Hearsay;", true)
  | 10 => ("ConfettiMinutes", "flights", "LConfettiMinutes$Flights;", true)
  | 11 => ("ConfettiMinutes", "blowing", "LConfettiMinutes$Rule;", false)
  | _ => ("ConfettiMinutes", "trial", "LConfettiMinutes$Rule;", false)
def tyX11 : Nat → FieldType := fun k => match k with
  | 0 => .object "ConfettiMinutes$Script"
  | 1 => .object "ConfettiMinutes$Row"
  | 2 => .object "ConfettiMinutes$Town"
  | 3 => .object "ConfettiMinutes$Town"
  | 4 => .object "ConfettiMinutes$Town"
  | 5 => .object "ConfettiMinutes$Past"
  | 6 => .object "ConfettiMinutes$Weather"
  | 7 => .object "ConfettiMinutes$Shares"
  | 8 => .object "ConfettiMinutes$Sights"
  | 9 => .object "ConfettiMinutes$Hearsay"
  | 10 => .object "ConfettiMinutes$Flights"
  | 11 => .object "ConfettiMinutes$Rule"
  | _ => .object "ConfettiMinutes$Rule"
abbrev wsX110 : List Cond := u_ws RX11 TX11 13
theorem nmX11 : ∀ a, a < 13 → ∀ b, b < 13 → a ≠ b → (TX11 a).2.1 ≠ (TX11 b).2.1 := by decide +kernel
theorem tyX11_ok : ∀ k, k < 13 → parseFieldDescriptor (TX11 k).2.2.1 = some (tyX11 k) := by decide +kernel
abbrev cX11_init : ByteArray := prog_1_method_1_code
def yX11_init : MethodName := ⟨RX11, "<init>", "()V"⟩
abbrev cX11_sign : ByteArray := prog_1_method_2_code
def yX11_sign : MethodName := ⟨RX11, "sign", "(I)I"⟩
abbrev cX11_end : ByteArray := prog_1_method_3_code
def yX11_end : MethodName := ⟨RX11, "end", "(I)Z"⟩
abbrev cX11_laws : ByteArray := prog_1_method_4_code
def yX11_laws : MethodName := ⟨RX11, "laws", "()I"⟩
abbrev cX11_people : ByteArray := prog_1_method_5_code
def yX11_people : MethodName := ⟨RX11, "people", "()I"⟩
abbrev cX11_rule : ByteArray := prog_1_method_6_code
def yX11_rule : MethodName := ⟨RX11, "rule", "()I"⟩
abbrev cX11_law : ByteArray := prog_1_method_7_code
def yX11_law : MethodName := ⟨RX11, "law", "(II)I"⟩
abbrev cX11_bit : ByteArray := prog_1_method_8_code
def yX11_bit : MethodName := ⟨RX11, "bit", "(II)I"⟩
abbrev cX11_one : ByteArray := prog_1_method_9_code
def yX11_one : MethodName := ⟨RX11, "one", "(II)I"⟩
abbrev cX11_sheet : ByteArray := prog_1_method_10_code
def yX11_sheet : MethodName := ⟨RX11, "sheet", "(IIII)I"⟩
abbrev cX11_carries : ByteArray := prog_1_method_11_code
def yX11_carries : MethodName := ⟨RX11, "carries", "(I)I"⟩
abbrev cX11_flings : ByteArray := prog_1_method_12_code
def yX11_flings : MethodName := ⟨RX11, "flings", "(II)I"⟩
abbrev cX11_sweeps : ByteArray := prog_1_method_13_code
def yX11_sweeps : MethodName := ⟨RX11, "sweeps", "(I)I"⟩
abbrev cX11_days : ByteArray := prog_1_method_14_code
def yX11_days : MethodName := ⟨RX11, "days", "(I)I"⟩
abbrev cX11_walks : ByteArray := prog_1_method_15_code
def yX11_walks : MethodName := ⟨RX11, "walks", "(II)I"⟩
abbrev cX11_gives : ByteArray := prog_1_method_16_code
def yX11_gives : MethodName := ⟨RX11, "gives", "(III)I"⟩
abbrev cX11_falls : ByteArray := prog_1_method_17_code
def yX11_falls : MethodName := ⟨RX11, "falls", "(I)I"⟩
abbrev cX11_wind : ByteArray := prog_1_method_18_code
def yX11_wind : MethodName := ⟨RX11, "wind", "(I)I"⟩
abbrev cX11_wedding : ByteArray := prog_1_method_19_code
def yX11_wedding : MethodName := ⟨RX11, "wedding", "()I"⟩
abbrev cX11_undo : ByteArray := prog_1_method_20_code
def yX11_undo : MethodName := ⟨RX11, "undo", "()I"⟩
abbrev cX11_later : ByteArray := prog_1_method_21_code
def yX11_later : MethodName := ⟨RX11, "later", "(III)I"⟩
abbrev cX11_when : ByteArray := prog_1_method_22_code
def yX11_when : MethodName := ⟨RX11, "when", "(II)I"⟩
abbrev cX11_clean : ByteArray := prog_1_method_23_code
def yX11_clean : MethodName := ⟨RX11, "clean", "()I"⟩
abbrev cX11_drifts : ByteArray := prog_1_method_24_code
def yX11_drifts : MethodName := ⟨RX11, "drifts", "(I)I"⟩
abbrev cX11_aims : ByteArray := prog_1_method_25_code
def yX11_aims : MethodName := ⟨RX11, "aims", "(III)I"⟩
abbrev cX11_prays : ByteArray := prog_1_method_26_code
def yX11_prays : MethodName := ⟨RX11, "prays", "(II)I"⟩
abbrev cX11_seeks : ByteArray := prog_1_method_27_code
def yX11_seeks : MethodName := ⟨RX11, "seeks", "(II)I"⟩
abbrev cX11_whole : ByteArray := prog_1_method_28_code
def yX11_whole : MethodName := ⟨RX11, "whole", "(I)I"⟩
abbrev cX11_quorum : ByteArray := prog_1_method_29_code
def yX11_quorum : MethodName := ⟨RX11, "quorum", "()I"⟩
abbrev cX11_awards : ByteArray := prog_1_method_30_code
def yX11_awards : MethodName := ⟨RX11, "awards", "()I"⟩
abbrev cX11_needs : ByteArray := prog_1_method_31_code
def yX11_needs : MethodName := ⟨RX11, "needs", "(II)I"⟩
abbrev cX11_line : ByteArray := prog_1_method_32_code
def yX11_line : MethodName := ⟨RX11, "line", "()I"⟩
abbrev cX11_power : ByteArray := prog_1_method_33_code
def yX11_power : MethodName := ⟨RX11, "power", "(I)I"⟩
abbrev cX11_least : ByteArray := prog_1_method_34_code
def yX11_least : MethodName := ⟨RX11, "least", "()I"⟩
abbrev cX11_seen : ByteArray := prog_1_method_35_code
def yX11_seen : MethodName := ⟨RX11, "seen", "(III)I"⟩
abbrev cX11_forget : ByteArray := prog_1_method_36_code
def yX11_forget : MethodName := ⟨RX11, "forget", "()I"⟩
abbrev cX11_guess : ByteArray := prog_1_method_37_code
def yX11_guess : MethodName := ⟨RX11, "guess", "()I"⟩
abbrev cX11_looks : ByteArray := prog_1_method_38_code
def yX11_looks : MethodName := ⟨RX11, "looks", "()I"⟩
abbrev cX11_heard : ByteArray := prog_1_method_39_code
def yX11_heard : MethodName := ⟨RX11, "heard", "(II)I"⟩
abbrev cX11_denies : ByteArray := prog_1_method_40_code
def yX11_denies : MethodName := ⟨RX11, "denies", "()I"⟩
abbrev cX11_fits : ByteArray := prog_1_method_41_code
def yX11_fits : MethodName := ⟨RX11, "fits", "()I"⟩
abbrev cX11_asks : ByteArray := prog_1_method_42_code
def yX11_asks : MethodName := ⟨RX11, "asks", "()I"⟩
abbrev cX11_odds : ByteArray := prog_1_method_43_code
def yX11_odds : MethodName := ⟨RX11, "odds", "(III)I"⟩
abbrev cX11_went : ByteArray := prog_1_method_44_code
def yX11_went : MethodName := ⟨RX11, "went", "(III)I"⟩
abbrev cX11_clears : ByteArray := prog_1_method_45_code
def yX11_clears : MethodName := ⟨RX11, "clears", "()I"⟩
abbrev cX11_scatters : ByteArray := prog_1_method_46_code
def yX11_scatters : MethodName := ⟨RX11, "scatters", "()I"⟩
abbrev cX11_tries : ByteArray := prog_1_method_47_code
def yX11_tries : MethodName := ⟨RX11, "tries", "()I"⟩
abbrev cX11_handfuls : ByteArray := prog_1_method_48_code
def yX11_handfuls : MethodName := ⟨RX11, "handfuls", "(I)I"⟩
abbrev cX11_other : ByteArray := prog_1_method_49_code
def yX11_other : MethodName := ⟨RX11, "other", "()I"⟩
abbrev cX11_grasps : ByteArray := prog_1_method_50_code
def yX11_grasps : MethodName := ⟨RX11, "grasps", "(I)I"⟩
abbrev cX11_years : ByteArray := prog_1_method_51_code
def yX11_years : MethodName := ⟨RX11, "years", "(II)I"⟩
abbrev cX11_keep : ByteArray := prog_1_method_52_code
def yX11_keep : MethodName := ⟨RX11, "keep", "(I)Z"⟩
abbrev cX11_again : ByteArray := prog_1_method_53_code
def yX11_again : MethodName := ⟨RX11, "again", "(I)Z"⟩
abbrev cX11_count : ByteArray := prog_1_method_54_code
def yX11_count : MethodName := ⟨RX11, "count", "(I)I"⟩
abbrev cX11_row : ByteArray := prog_1_method_55_code
def yX11_row : MethodName := ⟨RX11, "row", "(I)J"⟩
abbrev cX11_countKept : ByteArray := prog_1_method_56_code
def yX11_countKept : MethodName := ⟨RX11, "countKept", "(I)I"⟩
abbrev cX11_readLines : ByteArray := prog_1_method_57_code
def yX11_readLines : MethodName := ⟨RX11, "readLines", "(CCZ)I"⟩
abbrev cX11_noted : ByteArray := prog_1_method_58_code
def yX11_noted : MethodName := ⟨RX11, "noted", "(I)I"⟩
abbrev cX11_doAct : ByteArray := prog_1_method_59_code
def yX11_doAct : MethodName := ⟨RX11, "doAct", "(I)I"⟩
abbrev cX11_dreamOf : ByteArray := prog_1_method_60_code
def yX11_dreamOf : MethodName := ⟨RX11, "dreamOf", "(LConfettiMinutes$Rule;I)V"⟩
abbrev cX11_streetTold : ByteArray := prog_1_method_61_code
def yX11_streetTold : MethodName := ⟨RX11, "streetTold", "(II)I"⟩
abbrev cX11_waysOfLoss : ByteArray := prog_1_method_62_code
def yX11_waysOfLoss : MethodName := ⟨RX11, "waysOfLoss", "(III)I"⟩
abbrev cX11_winningHandful : ByteArray := prog_1_method_63_code
def yX11_winningHandful : MethodName := ⟨RX11, "winningHandful", "(I)I"⟩
abbrev cX11_handfulOutOf : ByteArray := prog_1_method_64_code
def yX11_handfulOutOf : MethodName := ⟨RX11, "handfulOutOf", "(IJ)I"⟩
abbrev cX11_isContent : ByteArray := prog_1_method_65_code
def yX11_isContent : MethodName := ⟨RX11, "isContent", "(III)Z"⟩
abbrev cX11_grasped : ByteArray := prog_1_method_66_code
def yX11_grasped : MethodName := ⟨RX11, "grasped", "(III)I"⟩
abbrev cX11_isWithin : ByteArray := prog_1_method_67_code
def yX11_isWithin : MethodName := ⟨RX11, "isWithin", "(III)Z"⟩
abbrev cX11_clamp : ByteArray := prog_1_method_68_code
def yX11_clamp : MethodName := ⟨RX11, "clamp", "(III)I"⟩
abbrev cX11_slotOf : ByteArray := prog_1_method_69_code
def yX11_slotOf : MethodName := ⟨RX11, "slotOf", "(II)I"⟩
def RX12 : String := "ConfettiMinutesModel"
def TX12 : u_T := fun k => match k with
  | 0 => ("ConfettiMinutesModel", "thrown", "I", false)
  | 1 => ("ConfettiMinutesModel", "told", "I", false)
  | 2 => ("ConfettiMinutesModel", "row", "[J", true)
  | 3 => ("ConfettiMinutesModel", "laws", "I", false)
  | 4 => ("ConfettiMinutesModel", "people", "I", false)
  | 5 => ("ConfettiMinutesModel", "changes", "I", false)
  | 6 => ("ConfettiMinutesModel", "size", "[I", true)
  | 7 => ("ConfettiMinutesModel", "now", "[I", true)
  | 8 => ("ConfettiMinutesModel", "then", "[I", true)
  | 9 => ("ConfettiMinutesModel", "tape", "[I", true)
  | 10 => ("ConfettiMinutesModel", "taped", "I", false)
  | 11 => ("ConfettiMinutesModel", "at", "I", false)
  | 12 => ("ConfettiMinutesModel", "to", "I", false)
  | 13 => ("ConfettiMinutesModel", "nest", "I", false)
  | 14 => ("ConfettiMinutesModel", "read", "[I", true)
  | 15 => ("ConfettiMinutesModel", "readMany", "I", false)
  | 16 => ("ConfettiMinutesModel", "code", "[I", true)
  | 17 => ("ConfettiMinutesModel", "readCode", "[I", true)
  | 18 => ("ConfettiMinutesModel", "codeLong", "I", false)
  | 19 => ("ConfettiMinutesModel", "codesRead", "I", false)
  | 20 => ("ConfettiMinutesModel", "stack", "[I", true)
  | 21 => ("ConfettiMinutesModel", "asked", "[I", true)
  | 22 => ("ConfettiMinutesModel", "undos", "I", false)
  | 23 => ("ConfettiMinutesModel", "undone", "[I", true)
  | 24 => ("ConfettiMinutesModel", "blownTo", "[I", true)
  | 25 => ("ConfettiMinutesModel", "actSign", "[I", true)
  | 26 => ("ConfettiMinutesModel", "actOne", "[I", true)
  | 27 => ("ConfettiMinutesModel", "actTwo", "[I", true)
  | 28 => ("ConfettiMinutesModel", "actThree", "[I", true)
  | 29 => ("ConfettiMinutesModel", "acts", "I", false)
  | 30 => ("ConfettiMinutesModel", "award", "[I", true)
  | 31 => ("ConfettiMinutesModel", "bestAward", "[I", true)
  | 32 => ("ConfettiMinutesModel", "bestSum", "I", false)
  | 33 => ("ConfettiMinutesModel", "seenMany", "I", false)
  | 34 => ("ConfettiMinutesModel", "seenBit", "[I", true)
  | 35 => ("ConfettiMinutesModel", "seenStreet", "[I", true)
  | 36 => ("ConfettiMinutesModel", "heardMany", "I", false)
  | 37 => ("ConfettiMinutesModel", "heardWhat", "[I", true)
  | 38 => ("ConfettiMinutesModel", "heardOf", "[I", true)
  | 39 => ("ConfettiMinutesModel", "wentMany", "I", false)
  | 40 => ("ConfettiMinutesModel", "wentWind", "[I", true)
  | 41 => ("ConfettiMinutesModel", "wentBit", "[I", true)
  | 42 => ("ConfettiMinutesModel", "wentFar", "[I", true)
  | 43 => ("ConfettiMinutesModel", "often", "[I", true)
  | 44 => ("ConfettiMinutesModel", "winning", "[I", true)
  | 45 => ("ConfettiMinutesModel", "wasCode", "[I", true)
  | 46 => ("ConfettiMinutesModel", "random", "I", false)
  | 47 => ("ConfettiMinutesModel", "isKept", "[Z", true)
  | 48 => ("ConfettiMinutesModel", "keptChanges", "[I", true)
  | _ => ("ConfettiMinutesModel", "kept", "[I", true)
def tyX12 : Nat → FieldType := fun k => match k with
  | 0 => .int
  | 1 => .int
  | 2 => .array .long
  | 3 => .int
  | 4 => .int
  | 5 => .int
  | 6 => .array .int
  | 7 => .array .int
  | 8 => .array .int
  | 9 => .array .int
  | 10 => .int
  | 11 => .int
  | 12 => .int
  | 13 => .int
  | 14 => .array .int
  | 15 => .int
  | 16 => .array .int
  | 17 => .array .int
  | 18 => .int
  | 19 => .int
  | 20 => .array .int
  | 21 => .array .int
  | 22 => .int
  | 23 => .array .int
  | 24 => .array .int
  | 25 => .array .int
  | 26 => .array .int
  | 27 => .array .int
  | 28 => .array .int
  | 29 => .int
  | 30 => .array .int
  | 31 => .array .int
  | 32 => .int
  | 33 => .int
  | 34 => .array .int
  | 35 => .array .int
  | 36 => .int
  | 37 => .array .int
  | 38 => .array .int
  | 39 => .int
  | 40 => .array .int
  | 41 => .array .int
  | 42 => .array .int
  | 43 => .array .int
  | 44 => .array .int
  | 45 => .array .int
  | 46 => .int
  | 47 => .array .boolean
  | 48 => .array .int
  | _ => .array .int
abbrev wsX120 : List Cond := u_ws RX12 TX12 50
theorem nmX12 : ∀ a, a < 50 → ∀ b, b < 50 → a ≠ b → (TX12 a).2.1 ≠ (TX12 b).2.1 := by decide +kernel
theorem tyX12_ok : ∀ k, k < 50 → parseFieldDescriptor (TX12 k).2.2.1 = some (tyX12 k) := by decide +kernel
abbrev cX12_thrown : ByteArray := prog_14_method_1_code
def yX12_thrown : MethodName := ⟨RX12, "thrown", "()I"⟩
abbrev cX12_refuse : ByteArray := prog_14_method_2_code
def yX12_refuse : MethodName := ⟨RX12, "refuse", "()I"⟩
abbrev cX12_in : ByteArray := prog_14_method_3_code
def yX12_in : MethodName := ⟨RX12, "in", "(JJJ)Z"⟩
abbrev cX12_has : ByteArray := prog_14_method_4_code
def yX12_has : MethodName := ⟨RX12, "has", "(II)Z"⟩
abbrev cX12_flag : ByteArray := prog_14_method_5_code
def yX12_flag : MethodName := ⟨RX12, "flag", "(Z)I"⟩
abbrev cX12_common : ByteArray := prog_14_method_6_code
def yX12_common : MethodName := ⟨RX12, "common", "(JJ)J"⟩
abbrev cX12_enters : ByteArray := prog_14_method_7_code
def yX12_enters : MethodName := ⟨RX12, "enters", "(J)V"⟩
abbrev cX12_entersFraction : ByteArray := prog_14_method_8_code
def yX12_entersFraction : MethodName := ⟨RX12, "entersFraction", "(JJ)I"⟩
abbrev cX12_init : ByteArray := prog_14_method_9_code
def yX12_init : MethodName := ⟨RX12, "<init>", "()V"⟩
abbrev cX12_isLaw : ByteArray := prog_14_method_10_code
def yX12_isLaw : MethodName := ⟨RX12, "isLaw", "(I)Z"⟩
abbrev cX12_isBit : ByteArray := prog_14_method_11_code
def yX12_isBit : MethodName := ⟨RX12, "isBit", "(II)Z"⟩
abbrev cX12_isOne : ByteArray := prog_14_method_12_code
def yX12_isOne : MethodName := ⟨RX12, "isOne", "(I)Z"⟩
abbrev cX12_all : ByteArray := prog_14_method_13_code
def yX12_all : MethodName := ⟨RX12, "all", "()I"⟩
abbrev cX12_lies : ByteArray := prog_14_method_14_code
def yX12_lies : MethodName := ⟨RX12, "lies", "([II)Z"⟩
abbrev cX12_isHeldBy : ByteArray := prog_14_method_15_code
def yX12_isHeldBy : MethodName := ⟨RX12, "isHeldBy", "([III)Z"⟩
abbrev cX12_heldOf : ByteArray := prog_14_method_16_code
def yX12_heldOf : MethodName := ⟨RX12, "heldOf", "([III)I"⟩
abbrev cX12_heldBy : ByteArray := prog_14_method_17_code
def yX12_heldBy : MethodName := ⟨RX12, "heldBy", "([II)I"⟩
abbrev cX12_heldMany : ByteArray := prog_14_method_18_code
def yX12_heldMany : MethodName := ⟨RX12, "heldMany", "([I)I"⟩
abbrev cX12_lieMany : ByteArray := prog_14_method_19_code
def yX12_lieMany : MethodName := ⟨RX12, "lieMany", "([I)I"⟩
abbrev cX12_hasRight : ByteArray := prog_14_method_20_code
def yX12_hasRight : MethodName := ⟨RX12, "hasRight", "([III)Z"⟩
abbrev cX12_rights : ByteArray := prog_14_method_21_code
def yX12_rights : MethodName := ⟨RX12, "rights", "([I)I"⟩
abbrev cX12_copies : ByteArray := prog_14_method_22_code
def yX12_copies : MethodName := ⟨RX12, "copies", "([I[I)V"⟩
abbrev cX12_sign : ByteArray := prog_14_method_23_code
def yX12_sign : MethodName := ⟨RX12, "sign", "(I)I"⟩
abbrev cX12_end : ByteArray := prog_14_method_24_code
def yX12_end : MethodName := ⟨RX12, "end", "(I)Z"⟩
abbrev cX12_begins : ByteArray := prog_14_method_25_code
def yX12_begins : MethodName := ⟨RX12, "begins", "(I)I"⟩
abbrev cX12_takes : ByteArray := prog_14_method_26_code
def yX12_takes : MethodName := ⟨RX12, "takes", "(I)Z"⟩
abbrev cX12_isDigit : ByteArray := prog_14_method_27_code
def yX12_isDigit : MethodName := ⟨RX12, "isDigit", "()Z"⟩
abbrev cX12_takesOf : ByteArray := prog_14_method_28_code
def yX12_takesOf : MethodName := ⟨RX12, "takesOf", "(Ljava/lang/String;)I"⟩
abbrev cX12_number : ByteArray := prog_14_method_29_code
def yX12_number : MethodName := ⟨RX12, "number", "(I)I"⟩
abbrev cX12_digitIn : ByteArray := prog_14_method_30_code
def yX12_digitIn : MethodName := ⟨RX12, "digitIn", "(II)I"⟩
abbrev cX12_faultOf : ByteArray := prog_14_method_31_code
def yX12_faultOf : MethodName := ⟨RX12, "faultOf", "(IIZ)I"⟩
abbrev cX12_readsLines : ByteArray := prog_14_method_32_code
def yX12_readsLines : MethodName := ⟨RX12, "readsLines", "(III)I"⟩
abbrev cX12_came : ByteArray := prog_14_method_33_code
def yX12_came : MethodName := ⟨RX12, "came", "()I"⟩
abbrev cX12_laws : ByteArray := prog_14_method_34_code
def yX12_laws : MethodName := ⟨RX12, "laws", "()I"⟩
abbrev cX12_people : ByteArray := prog_14_method_35_code
def yX12_people : MethodName := ⟨RX12, "people", "()I"⟩
abbrev cX12_codes : ByteArray := prog_14_method_36_code
def yX12_codes : MethodName := ⟨RX12, "codes", "(I)V"⟩
abbrev cX12_readsThing : ByteArray := prog_14_method_37_code
def yX12_readsThing : MethodName := ⟨RX12, "readsThing", "()Z"⟩
abbrev cX12_readsRank : ByteArray := prog_14_method_38_code
def yX12_readsRank : MethodName := ⟨RX12, "readsRank", "(I)Z"⟩
abbrev cX12_readsRule : ByteArray := prog_14_method_39_code
def yX12_readsRule : MethodName := ⟨RX12, "readsRule", "()I"⟩
abbrev cX12_laysCode : ByteArray := prog_14_method_40_code
def yX12_laysCode : MethodName := ⟨RX12, "laysCode", "([II)V"⟩
abbrev cX12_rule : ByteArray := prog_14_method_41_code
def yX12_rule : MethodName := ⟨RX12, "rule", "()I"⟩
abbrev cX12_worked : ByteArray := prog_14_method_42_code
def yX12_worked : MethodName := ⟨RX12, "worked", "(III)I"⟩
abbrev cX12_ruled : ByteArray := prog_14_method_43_code
def yX12_ruled : MethodName := ⟨RX12, "ruled", "()I"⟩
abbrev cX12_lyingIn : ByteArray := prog_14_method_44_code
def yX12_lyingIn : MethodName := ⟨RX12, "lyingIn", "([II)I"⟩
abbrev cX12_blown : ByteArray := prog_14_method_45_code
def yX12_blown : MethodName := ⟨RX12, "blown", "([III)I"⟩
abbrev cX12_ownerOf : ByteArray := prog_14_method_46_code
def yX12_ownerOf : MethodName := ⟨RX12, "ownerOf", "(I)I"⟩
abbrev cX12_law : ByteArray := prog_14_method_47_code
def yX12_law : MethodName := ⟨RX12, "law", "(II)I"⟩
abbrev cX12_bit : ByteArray := prog_14_method_48_code
def yX12_bit : MethodName := ⟨RX12, "bit", "(II)I"⟩
abbrev cX12_rightsOf : ByteArray := prog_14_method_49_code
def yX12_rightsOf : MethodName := ⟨RX12, "rightsOf", "(I)I"⟩
abbrev cX12_one : ByteArray := prog_14_method_50_code
def yX12_one : MethodName := ⟨RX12, "one", "(II)I"⟩
abbrev cX12_sheet : ByteArray := prog_14_method_51_code
def yX12_sheet : MethodName := ⟨RX12, "sheet", "(IIII)I"⟩
abbrev cX12_putsBy : ByteArray := prog_14_method_52_code
def yX12_putsBy : MethodName := ⟨RX12, "putsBy", "()V"⟩
abbrev cX12_adds : ByteArray := prog_14_method_53_code
def yX12_adds : MethodName := ⟨RX12, "adds", "(I)I"⟩
abbrev cX12_counted : ByteArray := prog_14_method_54_code
def yX12_counted : MethodName := ⟨RX12, "counted", "(I)I"⟩
abbrev cX12_undo : ByteArray := prog_14_method_55_code
def yX12_undo : MethodName := ⟨RX12, "undo", "()I"⟩
abbrev cX12_dayGoes : ByteArray := prog_14_method_56_code
def yX12_dayGoes : MethodName := ⟨RX12, "dayGoes", "([I)I"⟩
abbrev cX12_goesOn : ByteArray := prog_14_method_57_code
def yX12_goesOn : MethodName := ⟨RX12, "goesOn", "([II)I"⟩
abbrev cX12_carriesOne : ByteArray := prog_14_method_58_code
def yX12_carriesOne : MethodName := ⟨RX12, "carriesOne", "(I)I"⟩
abbrev cX12_fallsIn : ByteArray := prog_14_method_59_code
def yX12_fallsIn : MethodName := ⟨RX12, "fallsIn", "([III)V"⟩
abbrev cX12_flingsOne : ByteArray := prog_14_method_60_code
def yX12_flingsOne : MethodName := ⟨RX12, "flingsOne", "(II)I"⟩
abbrev cX12_sweepsOne : ByteArray := prog_14_method_61_code
def yX12_sweepsOne : MethodName := ⟨RX12, "sweepsOne", "(I)I"⟩
abbrev cX12_walksOne : ByteArray := prog_14_method_62_code
def yX12_walksOne : MethodName := ⟨RX12, "walksOne", "(II)I"⟩
abbrev cX12_goesFrom : ByteArray := prog_14_method_63_code
def yX12_goesFrom : MethodName := ⟨RX12, "goesFrom", "(IIII)I"⟩
abbrev cX12_givesAll : ByteArray := prog_14_method_64_code
def yX12_givesAll : MethodName := ⟨RX12, "givesAll", "(III)I"⟩
abbrev cX12_fallsFrom : ByteArray := prog_14_method_65_code
def yX12_fallsFrom : MethodName := ⟨RX12, "fallsFrom", "(I)I"⟩
abbrev cX12_windTo : ByteArray := prog_14_method_66_code
def yX12_windTo : MethodName := ⟨RX12, "windTo", "(I)I"⟩
abbrev cX12_carries : ByteArray := prog_14_method_67_code
def yX12_carries : MethodName := ⟨RX12, "carries", "(I)I"⟩
abbrev cX12_flings : ByteArray := prog_14_method_68_code
def yX12_flings : MethodName := ⟨RX12, "flings", "(II)I"⟩
abbrev cX12_sweeps : ByteArray := prog_14_method_69_code
def yX12_sweeps : MethodName := ⟨RX12, "sweeps", "(I)I"⟩
abbrev cX12_days : ByteArray := prog_14_method_70_code
def yX12_days : MethodName := ⟨RX12, "days", "(I)I"⟩
abbrev cX12_walks : ByteArray := prog_14_method_71_code
def yX12_walks : MethodName := ⟨RX12, "walks", "(II)I"⟩
abbrev cX12_gives : ByteArray := prog_14_method_72_code
def yX12_gives : MethodName := ⟨RX12, "gives", "(III)I"⟩
abbrev cX12_falls : ByteArray := prog_14_method_73_code
def yX12_falls : MethodName := ⟨RX12, "falls", "(I)I"⟩
abbrev cX12_wind : ByteArray := prog_14_method_74_code
def yX12_wind : MethodName := ⟨RX12, "wind", "(I)I"⟩
abbrev cX12_readsAct : ByteArray := prog_14_method_75_code
def yX12_readsAct : MethodName := ⟨RX12, "readsAct", "()Z"⟩
abbrev cX12_does : ByteArray := prog_14_method_76_code
def yX12_does : MethodName := ⟨RX12, "does", "(I)Z"⟩
abbrev cX12_wedding : ByteArray := prog_14_method_77_code
def yX12_wedding : MethodName := ⟨RX12, "wedding", "()I"⟩
abbrev cX12_later : ByteArray := prog_14_method_78_code
def yX12_later : MethodName := ⟨RX12, "later", "(III)I"⟩
abbrev cX12_when : ByteArray := prog_14_method_79_code
def yX12_when : MethodName := ⟨RX12, "when", "(II)I"⟩
abbrev cX12_clean : ByteArray := prog_14_method_80_code
def yX12_clean : MethodName := ⟨RX12, "clean", "()I"⟩
abbrev cX12_drifts : ByteArray := prog_14_method_81_code
def yX12_drifts : MethodName := ⟨RX12, "drifts", "(I)I"⟩
abbrev cX12_aims : ByteArray := prog_14_method_82_code
def yX12_aims : MethodName := ⟨RX12, "aims", "(III)I"⟩
abbrev cX12_heldWith : ByteArray := prog_14_method_83_code
def yX12_heldWith : MethodName := ⟨RX12, "heldWith", "(IIII)I"⟩
abbrev cX12_prays : ByteArray := prog_14_method_84_code
def yX12_prays : MethodName := ⟨RX12, "prays", "(II)I"⟩
abbrev cX12_seeks : ByteArray := prog_14_method_85_code
def yX12_seeks : MethodName := ⟨RX12, "seeks", "(II)I"⟩
abbrev cX12_whole : ByteArray := prog_14_method_86_code
def yX12_whole : MethodName := ⟨RX12, "whole", "(I)I"⟩
abbrev cX12_holdersOf : ByteArray := prog_14_method_87_code
def yX12_holdersOf : MethodName := ⟨RX12, "holdersOf", "(I)I"⟩
abbrev cX12_holdsOfAll : ByteArray := prog_14_method_88_code
def yX12_holdsOfAll : MethodName := ⟨RX12, "holdsOfAll", "(I)Z"⟩
abbrev cX12_quorum : ByteArray := prog_14_method_89_code
def yX12_quorum : MethodName := ⟨RX12, "quorum", "()I"⟩
abbrev cX12_awardsFrom : ByteArray := prog_14_method_90_code
def yX12_awardsFrom : MethodName := ⟨RX12, "awardsFrom", "(III)V"⟩
abbrev cX12_awards : ByteArray := prog_14_method_91_code
def yX12_awards : MethodName := ⟨RX12, "awards", "()I"⟩
abbrev cX12_needs : ByteArray := prog_14_method_92_code
def yX12_needs : MethodName := ⟨RX12, "needs", "(II)I"⟩
abbrev cX12_line : ByteArray := prog_14_method_93_code
def yX12_line : MethodName := ⟨RX12, "line", "()I"⟩
abbrev cX12_carriesIt : ByteArray := prog_14_method_94_code
def yX12_carriesIt : MethodName := ⟨RX12, "carriesIt", "(I)Z"⟩
abbrev cX12_power : ByteArray := prog_14_method_95_code
def yX12_power : MethodName := ⟨RX12, "power", "(I)I"⟩
abbrev cX12_least : ByteArray := prog_14_method_96_code
def yX12_least : MethodName := ⟨RX12, "least", "()I"⟩
abbrev cX12_seen : ByteArray := prog_14_method_97_code
def yX12_seen : MethodName := ⟨RX12, "seen", "(III)I"⟩
abbrev cX12_forget : ByteArray := prog_14_method_98_code
def yX12_forget : MethodName := ⟨RX12, "forget", "()I"⟩
abbrev cX12_winds : ByteArray := prog_14_method_99_code
def yX12_winds : MethodName := ⟨RX12, "winds", "()I"⟩
abbrev cX12_guess : ByteArray := prog_14_method_100_code
def yX12_guess : MethodName := ⟨RX12, "guess", "()I"⟩
abbrev cX12_looks : ByteArray := prog_14_method_101_code
def yX12_looks : MethodName := ⟨RX12, "looks", "()I"⟩
abbrev cX12_highest : ByteArray := prog_14_method_102_code
def yX12_highest : MethodName := ⟨RX12, "highest", "(I)I"⟩
abbrev cX12_heard : ByteArray := prog_14_method_103_code
def yX12_heard : MethodName := ⟨RX12, "heard", "(II)I"⟩
abbrev cX12_denies : ByteArray := prog_14_method_104_code
def yX12_denies : MethodName := ⟨RX12, "denies", "()I"⟩
abbrev cX12_isSo : ByteArray := prog_14_method_105_code
def yX12_isSo : MethodName := ⟨RX12, "isSo", "(III)Z"⟩
abbrev cX12_fitting : ByteArray := prog_14_method_106_code
def yX12_fitting : MethodName := ⟨RX12, "fitting", "()I"⟩
abbrev cX12_fits : ByteArray := prog_14_method_107_code
def yX12_fits : MethodName := ⟨RX12, "fits", "()I"⟩
abbrev cX12_asks : ByteArray := prog_14_method_108_code
def yX12_asks : MethodName := ⟨RX12, "asks", "()I"⟩
abbrev cX12_odds : ByteArray := prog_14_method_109_code
def yX12_odds : MethodName := ⟨RX12, "odds", "(III)I"⟩
abbrev cX12_went : ByteArray := prog_14_method_110_code
def yX12_went : MethodName := ⟨RX12, "went", "(III)I"⟩
abbrev cX12_clears : ByteArray := prog_14_method_111_code
def yX12_clears : MethodName := ⟨RX12, "clears", "()I"⟩
abbrev cX12_goesBy : ByteArray := prog_14_method_112_code
def yX12_goesBy : MethodName := ⟨RX12, "goesBy", "(III)I"⟩
abbrev cX12_isScatter : ByteArray := prog_14_method_113_code
def yX12_isScatter : MethodName := ⟨RX12, "isScatter", "(I)Z"⟩
abbrev cX12_scatters : ByteArray := prog_14_method_114_code
def yX12_scatters : MethodName := ⟨RX12, "scatters", "()I"⟩
abbrev cX12_tries : ByteArray := prog_14_method_115_code
def yX12_tries : MethodName := ⟨RX12, "tries", "()I"⟩
abbrev cX12_handfuls : ByteArray := prog_14_method_116_code
def yX12_handfuls : MethodName := ⟨RX12, "handfuls", "(I)I"⟩
abbrev cX12_other : ByteArray := prog_14_method_117_code
def yX12_other : MethodName := ⟨RX12, "other", "()I"⟩
abbrev cX12_gets : ByteArray := prog_14_method_118_code
def yX12_gets : MethodName := ⟨RX12, "gets", "(III)I"⟩
abbrev cX12_isRest : ByteArray := prog_14_method_119_code
def yX12_isRest : MethodName := ⟨RX12, "isRest", "(III)Z"⟩
abbrev cX12_grasps : ByteArray := prog_14_method_120_code
def yX12_grasps : MethodName := ⟨RX12, "grasps", "(I)I"⟩
abbrev cX12_draws : ByteArray := prog_14_method_121_code
def yX12_draws : MethodName := ⟨RX12, "draws", "(I)I"⟩
abbrev cX12_years : ByteArray := prog_14_method_122_code
def yX12_years : MethodName := ⟨RX12, "years", "(II)I"⟩
abbrev cX12_keep : ByteArray := prog_14_method_123_code
def yX12_keep : MethodName := ⟨RX12, "keep", "(I)Z"⟩
abbrev cX12_again : ByteArray := prog_14_method_124_code
def yX12_again : MethodName := ⟨RX12, "again", "(I)Z"⟩
abbrev cX12_count : ByteArray := prog_14_method_125_code
def yX12_count : MethodName := ⟨RX12, "count", "(I)I"⟩
abbrev cX12_row : ByteArray := prog_14_method_126_code
def yX12_row : MethodName := ⟨RX12, "row", "(I)J"⟩
def RJx145de : String := "java/io/Serializable"
def TJx145de : u_T := fun k => match k with
  | _ => ("", "", "", false)
def tyJx145de : Nat → FieldType := fun k => match k with
  | _ => .int
abbrev wsJx145de0 : List Cond := u_ws RJx145de TJx145de 0
theorem nmJx145de : ∀ a, a < 0 → ∀ b, b < 0 → a ≠ b → (TJx145de a).2.1 ≠ (TJx145de b).2.1 := by decide +kernel
theorem tyJx145de_ok : ∀ k, k < 0 → parseFieldDescriptor (TJx145de k).2.2.1 = some (tyJx145de k) := by decide +kernel
def RJx9f9b0 : String := "java/lang/CharSequence"
def TJx9f9b0 : u_T := fun k => match k with
  | _ => ("", "", "", false)
def tyJx9f9b0 : Nat → FieldType := fun k => match k with
  | _ => .int
abbrev wsJx9f9b00 : List Cond := u_ws RJx9f9b0 TJx9f9b0 0
theorem nmJx9f9b0 : ∀ a, a < 0 → ∀ b, b < 0 → a ≠ b → (TJx9f9b0 a).2.1 ≠ (TJx9f9b0 b).2.1 := by decide +kernel
theorem tyJx9f9b0_ok : ∀ k, k < 0 → parseFieldDescriptor (TJx9f9b0 k).2.2.1 = some (tyJx9f9b0 k) := by decide +kernel
def RJ11 : String := "java/lang/Character"
def TJ11 : u_T := fun k => match k with
  | _ => ("", "", "", false)
def tyJ11 : Nat → FieldType := fun k => match k with
  | _ => .int
abbrev wsJ110 : List Cond := u_ws RJ11 TJ11 0
theorem nmJ11 : ∀ a, a < 0 → ∀ b, b < 0 → a ≠ b → (TJ11 a).2.1 ≠ (TJ11 b).2.1 := by decide +kernel
theorem tyJ11_ok : ∀ k, k < 0 → parseFieldDescriptor (TJ11 k).2.2.1 = some (tyJ11 k) := by decide +kernel
abbrev cJ11_isValidCodePoint_9a6ad : ByteArray := prog_17_method_11_code
def yJ11_isValidCodePoint_9a6ad : MethodName := ⟨RJ11, "isValidCodePoint", "(I)Z"⟩
abbrev cJ11_highSurrogate_5068e : ByteArray := prog_17_method_28_code
def yJ11_highSurrogate_5068e : MethodName := ⟨RJ11, "highSurrogate", "(I)C"⟩
abbrev cJ11_lowSurrogate_5068e : ByteArray := prog_17_method_29_code
def yJ11_lowSurrogate_5068e : MethodName := ⟨RJ11, "lowSurrogate", "(I)C"⟩
def RJxb160c : String := "java/lang/Comparable"
def TJxb160c : u_T := fun k => match k with
  | _ => ("", "", "", false)
def tyJxb160c : Nat → FieldType := fun k => match k with
  | _ => .int
abbrev wsJxb160c0 : List Cond := u_ws RJxb160c TJxb160c 0
theorem nmJxb160c : ∀ a, a < 0 → ∀ b, b < 0 → a ≠ b → (TJxb160c a).2.1 ≠ (TJxb160c b).2.1 := by decide +kernel
theorem tyJxb160c_ok : ∀ k, k < 0 → parseFieldDescriptor (TJxb160c k).2.2.1 = some (tyJxb160c k) := by decide +kernel
def RJ6 : String := "java/lang/Integer"
def TJ6 : u_T := fun k => match k with
  | _ => ("", "", "", false)
def tyJ6 : Nat → FieldType := fun k => match k with
  | _ => .int
abbrev wsJ60 : List Cond := u_ws RJ6 TJ6 0
theorem nmJ6 : ∀ a, a < 0 → ∀ b, b < 0 → a ≠ b → (TJ6 a).2.1 ≠ (TJ6 b).2.1 := by decide +kernel
theorem tyJ6_ok : ∀ k, k < 0 → parseFieldDescriptor (TJ6 k).2.2.1 = some (tyJ6 k) := by decide +kernel
abbrev cJ6_bitCount_0f7a4 : ByteArray := prog_20_method_49_code
def yJ6_bitCount_0f7a4 : MethodName := ⟨RJ6, "bitCount", "(I)I"⟩
def RJ9 : String := "java/lang/Math"
def TJ9 : u_T := fun k => match k with
  | _ => ("", "", "", false)
def tyJ9 : Nat → FieldType := fun k => match k with
  | _ => .int
abbrev wsJ90 : List Cond := u_ws RJ9 TJ9 0
theorem nmJ9 : ∀ a, a < 0 → ∀ b, b < 0 → a ≠ b → (TJ9 a).2.1 ≠ (TJ9 b).2.1 := by decide +kernel
theorem tyJ9_ok : ∀ k, k < 0 → parseFieldDescriptor (TJ9 k).2.2.1 = some (tyJ9 k) := by decide +kernel
abbrev cJ9_abs_0f7a4 : ByteArray := prog_21_method_59_code
def yJ9_abs_0f7a4 : MethodName := ⟨RJ9, "abs", "(I)I"⟩
abbrev cJ9_max_7cf53 : ByteArray := prog_21_method_65_code
def yJ9_max_7cf53 : MethodName := ⟨RJ9, "max", "(II)I"⟩
abbrev cJ9_min_7cf53 : ByteArray := prog_21_method_69_code
def yJ9_min_7cf53 : MethodName := ⟨RJ9, "min", "(II)I"⟩
def RJ0 : String := "java/lang/String"
def TJ0 : u_T := fun k => match k with
  | _ => ("", "", "", false)
def tyJ0 : Nat → FieldType := fun k => match k with
  | _ => .int
abbrev wsJ00 : List Cond := u_ws RJ0 TJ0 0
theorem nmJ0 : ∀ a, a < 0 → ∀ b, b < 0 → a ≠ b → (TJ0 a).2.1 ≠ (TJ0 b).2.1 := by decide +kernel
theorem tyJ0_ok : ∀ k, k < 0 → parseFieldDescriptor (TJ0 k).2.2.1 = some (tyJ0 k) := by decide +kernel
abbrev cJ0_length_8abf5 : ByteArray := prog_23_method_54_code
def yJ0_length_8abf5 : MethodName := ⟨RJ0, "length", "()I"⟩
abbrev cJ0_isEmpty_aae02 : ByteArray := prog_23_method_55_code
def yJ0_isEmpty_aae02 : MethodName := ⟨RJ0, "isEmpty", "()Z"⟩
abbrev cJ0_charAt_5068e : ByteArray := prog_23_method_56_code
def yJ0_charAt_5068e : MethodName := ⟨RJ0, "charAt", "(I)C"⟩
abbrev cJ0_indexOf_0f7a4 : ByteArray := prog_23_method_79_code
def yJ0_indexOf_0f7a4 : MethodName := ⟨RJ0, "indexOf", "(I)I"⟩
abbrev cJ0_indexOf_7cf53 : ByteArray := prog_23_method_80_code
def yJ0_indexOf_7cf53 : MethodName := ⟨RJ0, "indexOf", "(II)I"⟩
abbrev cJ0_coder_7d493 : ByteArray := prog_23_method_152_code
def yJ0_coder_7d493 : MethodName := ⟨RJ0, "coder", "()B"⟩
abbrev cJ0_isLatin1_aae02 : ByteArray := prog_23_method_154_code
def yJ0_isLatin1_aae02 : MethodName := ⟨RJ0, "isLatin1", "()Z"⟩
abbrev cJ0_checkIndex_df160 : ByteArray := prog_23_method_155_code
def yJ0_checkIndex_df160 : MethodName := ⟨RJ0, "checkIndex", "(II)V"⟩
abbrev cJ0_checkBoundsBeginEnd_23922 : ByteArray := prog_23_method_158_code
def yJ0_checkBoundsBeginEnd_23922 : MethodName := ⟨RJ0, "checkBoundsBeginEnd", "(III)V"⟩
def RJ1 : String := "java/lang/StringLatin1"
def TJ1 : u_T := fun k => match k with
  | _ => ("", "", "", false)
def tyJ1 : Nat → FieldType := fun k => match k with
  | _ => .int
abbrev wsJ10 : List Cond := u_ws RJ1 TJ1 0
theorem nmJ1 : ∀ a, a < 0 → ∀ b, b < 0 → a ≠ b → (TJ1 a).2.1 ≠ (TJ1 b).2.1 := by decide +kernel
theorem tyJ1_ok : ∀ k, k < 0 → parseFieldDescriptor (TJ1 k).2.2.1 = some (tyJ1 k) := by decide +kernel
abbrev cJ1_charAt_3b067 : ByteArray := prog_24_method_2_code
def yJ1_charAt_3b067 : MethodName := ⟨RJ1, "charAt", "([BI)C"⟩
abbrev cJ1_canEncode_9a6ad : ByteArray := prog_24_method_4_code
def yJ1_canEncode_9a6ad : MethodName := ⟨RJ1, "canEncode", "(I)Z"⟩
abbrev cJ1_indexOf_4cfef : ByteArray := prog_24_method_22_code
def yJ1_indexOf_4cfef : MethodName := ⟨RJ1, "indexOf", "([BIII)I"⟩
abbrev cJ1_indexOfChar_4cfef : ByteArray := prog_24_method_23_code
def yJ1_indexOfChar_4cfef : MethodName := ⟨RJ1, "indexOfChar", "([BIII)I"⟩
def RJ2 : String := "java/lang/StringUTF16"
def TJ2 : u_T := fun k => match k with
  | _ => ("", "", "", false)
def tyJ2 : Nat → FieldType := fun k => match k with
  | _ => .int
abbrev wsJ20 : List Cond := u_ws RJ2 TJ2 0
theorem nmJ2 : ∀ a, a < 0 → ∀ b, b < 0 → a ≠ b → (TJ2 a).2.1 ≠ (TJ2 b).2.1 := by decide +kernel
theorem tyJ2_ok : ∀ k, k < 0 → parseFieldDescriptor (TJ2 k).2.2.1 = some (tyJ2 k) := by decide +kernel
abbrev cJ2_getChar_3b067 : ByteArray := prog_25_method_5_code
def yJ2_getChar_3b067 : MethodName := ⟨RJ2, "getChar", "([BI)C"⟩
abbrev cJ2_length_9d52b : ByteArray := prog_25_method_6_code
def yJ2_length_9d52b : MethodName := ⟨RJ2, "length", "([B)I"⟩
abbrev cJ2_indexOf_4cfef : ByteArray := prog_25_method_40_code
def yJ2_indexOf_4cfef : MethodName := ⟨RJ2, "indexOf", "([BIII)I"⟩
abbrev cJ2_indexOfChar_4cfef : ByteArray := prog_25_method_47_code
def yJ2_indexOfChar_4cfef : MethodName := ⟨RJ2, "indexOfChar", "([BIII)I"⟩
abbrev cJ2_indexOfCharUnsafe_4cfef : ByteArray := prog_25_method_48_code
def yJ2_indexOfCharUnsafe_4cfef : MethodName := ⟨RJ2, "indexOfCharUnsafe", "([BIII)I"⟩
abbrev cJ2_indexOfSupplementary_4cfef : ByteArray := prog_25_method_49_code
def yJ2_indexOfSupplementary_4cfef : MethodName := ⟨RJ2, "indexOfSupplementary", "([BIII)I"⟩
abbrev cJ2_charAt_3b067 : ByteArray := prog_25_method_83_code
def yJ2_charAt_3b067 : MethodName := ⟨RJ2, "charAt", "([BI)C"⟩
abbrev cJ2_checkIndex_2214a : ByteArray := prog_25_method_91_code
def yJ2_checkIndex_2214a : MethodName := ⟨RJ2, "checkIndex", "(I[B)V"⟩
abbrev cJ2_checkBoundsBeginEnd_d044e : ByteArray := prog_25_method_93_code
def yJ2_checkBoundsBeginEnd_d044e : MethodName := ⟨RJ2, "checkBoundsBeginEnd", "(II[B)V"⟩
def RJ10 : String := "java/lang/System"
def TJ10 : u_T := fun k => match k with
  | _ => ("", "", "", false)
def tyJ10 : Nat → FieldType := fun k => match k with
  | _ => .int
abbrev wsJ100 : List Cond := u_ws RJ10 TJ10 0
theorem nmJ10 : ∀ a, a < 0 → ∀ b, b < 0 → a ≠ b → (TJ10 a).2.1 ≠ (TJ10 b).2.1 := by decide +kernel
theorem tyJ10_ok : ∀ k, k < 0 → parseFieldDescriptor (TJ10 k).2.2.1 = some (tyJ10 k) := by decide +kernel
def RJxfd54e : String := "java/lang/constant/Constable"
def TJxfd54e : u_T := fun k => match k with
  | _ => ("", "", "", false)
def tyJxfd54e : Nat → FieldType := fun k => match k with
  | _ => .int
abbrev wsJxfd54e0 : List Cond := u_ws RJxfd54e TJxfd54e 0
theorem nmJxfd54e : ∀ a, a < 0 → ∀ b, b < 0 → a ≠ b → (TJxfd54e a).2.1 ≠ (TJxfd54e b).2.1 := by decide +kernel
theorem tyJxfd54e_ok : ∀ k, k < 0 → parseFieldDescriptor (TJxfd54e k).2.2.1 = some (tyJxfd54e k) := by decide +kernel
def RJx3cf43 : String := "java/lang/constant/ConstantDesc"
def TJx3cf43 : u_T := fun k => match k with
  | _ => ("", "", "", false)
def tyJx3cf43 : Nat → FieldType := fun k => match k with
  | _ => .int
abbrev wsJx3cf430 : List Cond := u_ws RJx3cf43 TJx3cf43 0
theorem nmJx3cf43 : ∀ a, a < 0 → ∀ b, b < 0 → a ≠ b → (TJx3cf43 a).2.1 ≠ (TJx3cf43 b).2.1 := by decide +kernel
theorem tyJx3cf43_ok : ∀ k, k < 0 → parseFieldDescriptor (TJx3cf43 k).2.2.1 = some (tyJx3cf43 k) := by decide +kernel
def RJ3 : String := "jdk/internal/util/Preconditions"
def TJ3 : u_T := fun k => match k with
  | _ => ("", "", "", false)
def tyJ3 : Nat → FieldType := fun k => match k with
  | _ => .int
abbrev wsJ30 : List Cond := u_ws RJ3 TJ3 0
theorem nmJ3 : ∀ a, a < 0 → ∀ b, b < 0 → a ≠ b → (TJ3 a).2.1 ≠ (TJ3 b).2.1 := by decide +kernel
theorem tyJ3_ok : ∀ k, k < 0 → parseFieldDescriptor (TJ3 k).2.2.1 = some (tyJ3 k) := by decide +kernel
abbrev cJ3_checkIndex_8e157 : ByteArray := prog_31_method_11_code
def yJ3_checkIndex_8e157 : MethodName := ⟨RJ3, "checkIndex", "(IILjava/util/function/BiFunction;)I"⟩
abbrev cJ3_checkFromToIndex_8c36e : ByteArray := prog_31_method_12_code
def yJ3_checkFromToIndex_8c36e : MethodName := ⟨RJ3, "checkFromToIndex", "(IIILjava/util/function/BiFunction;)I"⟩
def RL : String := "ConfettiMinutesLaw"
abbrev cL_law : ByteArray := method_3_code
def yL_law : MethodName := ⟨RL, "law", "(LConfettiMinutes;II[J)I"⟩
abbrev cL_bit : ByteArray := method_4_code
def yL_bit : MethodName := ⟨RL, "bit", "(LConfettiMinutes;II[J)I"⟩
abbrev cL_one : ByteArray := method_5_code
def yL_one : MethodName := ⟨RL, "one", "(LConfettiMinutes;II[J)I"⟩
abbrev cL_row : ByteArray := method_6_code
def yL_row : MethodName := ⟨RL, "row", "(LConfettiMinutes;I[J)I"⟩
abbrev cL_law_ : ByteArray := code
def yL_law_ : MethodName := ⟨RL, "law", "([I)Z"⟩
abbrev vwCl : List vw_C := [(RX0, TX0, 1), (RX1, TX1, 1), (RX2, TX2, 3), (RX3, TX3, 5), (RX4, TX4, 2), (RX5, TX5, 10), (RX6, TX6, 2), (RX7, TX7, 4), (RX8, TX8, 2), (RX9, TX9, 9), (RX10, TX10, 3), (RX11, TX11, 13), (RX12, TX12, 50)]
end
section
/-- the links of nest mates, by their rows of the tables -/
def ze_nF : List (String × Nat × String × String × String × String) := [("ConfettiMinutes$Shares", 21, "ConfettiMinutes$Town", "lawCount", "I", "ConfettiMinutes"), ("ConfettiMinutes", 379, "ConfettiMinutes$Town", "lawCount", "I", "ConfettiMinutes"), ("ConfettiMinutes$Weather", 22, "ConfettiMinutes$Town", "peopleCount", "I", "ConfettiMinutes"), ("ConfettiMinutes$Hearsay", 24, "ConfettiMinutes$Town", "peopleCount", "I", "ConfettiMinutes"), ("ConfettiMinutes$Shares", 34, "ConfettiMinutes$Town", "peopleCount", "I", "ConfettiMinutes"), ("ConfettiMinutes", 160, "ConfettiMinutes$Town", "peopleCount", "I", "ConfettiMinutes"), ("ConfettiMinutes", 121, "ConfettiMinutes$Town", "carried", "I", "ConfettiMinutes"), ("ConfettiMinutes", 125, "ConfettiMinutes$Town", "flung", "I", "ConfettiMinutes"), ("ConfettiMinutes$Weather", 45, "ConfettiMinutes$Town", "wind", "I", "ConfettiMinutes"), ("ConfettiMinutes", 257, "ConfettiMinutes$Town", "wind", "I", "ConfettiMinutes"), ("ConfettiMinutes$Weather", 32, "ConfettiMinutes$Town", "day", "I", "ConfettiMinutes"), ("ConfettiMinutes$Rule", 86, "ConfettiMinutes$Town", "day", "I", "ConfettiMinutes"), ("ConfettiMinutes", 382, "ConfettiMinutes$Town", "day", "I", "ConfettiMinutes"), ("ConfettiMinutes", 308, "ConfettiMinutes$Sights", "ledger", "LConfettiMinutes$Ledger;", "ConfettiMinutes"), ("ConfettiMinutes", 337, "ConfettiMinutes$Hearsay", "ledger", "LConfettiMinutes$Ledger;", "ConfettiMinutes"), ("ConfettiMinutes", 347, "ConfettiMinutes$Flights", "ledger", "LConfettiMinutes$Ledger;", "ConfettiMinutes")]
def ze_nM : List (String × Nat × MethodName × String) := [("ConfettiMinutes", 9, ⟨"ConfettiMinutes$Script", "<init>", "()V"⟩, "ConfettiMinutes"), ("ConfettiMinutes", 18, ⟨"ConfettiMinutes$Row", "<init>", "()V"⟩, "ConfettiMinutes"), ("ConfettiMinutes", 45, ⟨"ConfettiMinutes$Weather", "<init>", "()V"⟩, "ConfettiMinutes"), ("ConfettiMinutes", 52, ⟨"ConfettiMinutes$Shares", "<init>", "()V"⟩, "ConfettiMinutes"), ("ConfettiMinutes", 59, ⟨"ConfettiMinutes$Sights", "<init>", "()V"⟩, "ConfettiMinutes"), ("ConfettiMinutes", 66, ⟨"ConfettiMinutes$Hearsay", "<init>", "()V"⟩, "ConfettiMinutes"), ("ConfettiMinutes", 73, ⟨"ConfettiMinutes$Flights", "<init>", "()V"⟩, "ConfettiMinutes"), ("ConfettiMinutes", 80, ⟨"ConfettiMinutes$Rule", "<init>", "()V"⟩, "ConfettiMinutes"), ("ConfettiMinutes$Town", 88, ⟨"ConfettiMinutes", "isWithin", "(III)Z"⟩, "ConfettiMinutes"), ("ConfettiMinutes$Town", 63, ⟨"ConfettiMinutes", "slotOf", "(II)I"⟩, "ConfettiMinutes"), ("ConfettiMinutes$Rule", 75, ⟨"ConfettiMinutes", "clamp", "(III)I"⟩, "ConfettiMinutes"), ("ConfettiMinutes$Weather", 65, ⟨"ConfettiMinutes", "clamp", "(III)I"⟩, "ConfettiMinutes"), ("ConfettiMinutes$Shares", 71, ⟨"ConfettiMinutes", "isWithin", "(III)Z"⟩, "ConfettiMinutes"), ("ConfettiMinutes$Sights", 42, ⟨"ConfettiMinutes", "slotOf", "(II)I"⟩, "ConfettiMinutes"), ("ConfettiMinutes$Hearsay", 20, ⟨"ConfettiMinutes", "isWithin", "(III)Z"⟩, "ConfettiMinutes"), ("ConfettiMinutes$Past", 36, ⟨"ConfettiMinutes", "isWithin", "(III)Z"⟩, "ConfettiMinutes")]
def ze_nest : List Cond := ze_nF.map (fun q => .fieldLinkNest q.1 q.2.1 q.2.2.1 q.2.2.2.1 q.2.2.2.2.1 q.2.2.2.2.2) ++ ze_nM.map (fun q => .methodLinkNest q.1 q.2.1 q.2.2.1 q.2.2.2)
def ze_arr : List (Nat × FieldType) := [(100, .int), (101, .char), (104, .boolean), (150, .long), (209, .object "ConfettiMinutes$Town")]
def ze_ka : List Nat := [100, 101, 104, 150, 209]
def ze_rk : List Nat := [9]
def ze_ao : List String := ["ConfettiMinutes$Town"]
/-- the words that every method may use -/
def zb_T : List Cond := lw_tbl.filter goodWord
theorem zb_good : ∀ w ∈ zb_T, w ∈ lw_tbl ∧ goodWord w = true := fun _ h => List.mem_filter.mp h
theorem zb_in {w : Cond} (h : w ∈ lw_tbl) (g : goodWord w = true) : w ∈ zb_T := List.mem_filter.mpr ⟨h, g⟩
end
section
/-! links: by the class whose rows name them -/
def zn_ : List String := ["ConfettiMinutes$Flights", "ConfettiMinutes$Hearsay", "ConfettiMinutes$Ledger", "ConfettiMinutes$Past", "ConfettiMinutes$Row", "ConfettiMinutes$Rule", "ConfettiMinutes$Script", "ConfettiMinutes$Shares", "ConfettiMinutes$Sights", "ConfettiMinutes$Town", "ConfettiMinutes$Weather", "ConfettiMinutes", "ConfettiMinutesModel", "java/lang/Integer", "java/lang/Math", "ConfettiMinutesLaw"]
def zn (o : Nat) : String := zn_.getD o ""
set_option maxRecDepth 100000 in
def zl_f : List (List (Nat × Nat × Nat)) := [[(12, 0, 0)],
  [(24, 9, 4)],
  [(25, 2, 2), (21, 2, 1), (11, 2, 0)],
  [(13, 3, 0), (17, 3, 1), (21, 3, 3), (25, 3, 2), (40, 3, 4)],
  [(13, 4, 1), (9, 4, 0)],
  [(40, 5, 9), (31, 5, 6)],
  [(15, 6, 1), (11, 6, 0)],
  [(21, 9, 3), (9, 7, 0), (34, 9, 4), (18, 7, 2), (15, 7, 1), (82, 7, 3)],
  [(14, 8, 0)],
  [(18, 9, 2), (9, 9, 0), (15, 9, 1), (31, 9, 3), (34, 9, 4), (37, 9, 5), (40, 9, 6), (21, 9, 7), (43, 9, 8)],
  [(22, 9, 4), (32, 9, 8), (9, 10, 0), (15, 10, 1), (45, 9, 7), (35, 10, 2)],
  [(10, 11, 0), (85, 11, 12), (81, 11, 11), (26, 11, 2), (121, 9, 5), (125, 9, 6), (160, 9, 4), (30, 11, 3), (46, 11, 6), (19, 11, 1), (39, 11, 5), (33, 11, 4), (257, 9, 7), (53, 11, 7), (60, 11, 8), (308, 8, 0), (67, 11, 9), (337, 1, 0), (74, 11, 10), (347, 0, 0), (379, 9, 3), (382, 9, 8)],
  [(11, 12, 2), (15, 12, 1), (32, 12, 7), (120, 12, 3), (28, 12, 6), (131, 12, 4), (157, 12, 10), (38, 12, 9), (160, 12, 11), (172, 12, 12), (197, 12, 15), (41, 12, 14), (210, 12, 22), (213, 12, 5), (44, 12, 16), (47, 12, 17), (223, 12, 19), (56, 12, 23), (59, 12, 24), (370, 12, 29), (35, 12, 8), (404, 12, 32), (77, 12, 31), (74, 12, 30), (418, 12, 33), (80, 12, 34), (83, 12, 35), (428, 12, 36), (86, 12, 37), (89, 12, 38), (442, 12, 39), (92, 12, 40), (95, 12, 41), (98, 12, 42), (101, 12, 43), (104, 12, 44), (251, 12, 18), (107, 12, 45), (459, 12, 46), (110, 12, 47), (114, 12, 48), (117, 12, 49)],
  [],
  [],
  []]
set_option maxRecDepth 100000 in
def zl_p : List (List (Nat × Nat × Nat × Nat × Nat)) := [[(12, 0, 0, 2, 1)],
  [(14, 1, 0, 2, 1)],
  [(11, 2, 0, 2, 1), (21, 2, 1, 0, 1), (25, 2, 2, 0, 0)],
  [(13, 3, 0, 2, 1), (17, 3, 1, 2, 1), (25, 3, 2, 0, 0), (21, 3, 3, 0, 0), (40, 3, 4, 0, 0)],
  [(9, 4, 0, 2, 1), (13, 4, 1, 0, 0)],
  [(11, 5, 0, 2, 1), (15, 5, 1, 2, 1), (18, 5, 2, 2, 1), (21, 5, 3, 2, 1), (24, 5, 4, 0, 0), (28, 5, 5, 0, 0), (31, 5, 6, 0, 0), (34, 5, 7, 0, 0), (37, 5, 8, 0, 0), (40, 5, 9, 1, 0)],
  [(11, 6, 0, 2, 1), (15, 6, 1, 0, 0)],
  [(9, 7, 0, 2, 1), (15, 7, 1, 2, 1), (18, 7, 2, 2, 1), (82, 7, 3, 0, 0)],
  [(14, 8, 0, 2, 1), (20, 8, 1, 2, 1)],
  [(9, 9, 0, 2, 1), (15, 9, 1, 2, 1), (18, 9, 2, 2, 1), (21, 9, 7, 0, 0), (31, 9, 3, 0, 0), (34, 9, 4, 0, 0), (37, 9, 5, 0, 0), (40, 9, 6, 0, 0), (43, 9, 8, 0, 0)],
  [(9, 10, 0, 2, 1), (15, 10, 1, 2, 1), (32, 9, 8, 0, 0), (35, 10, 2, 0, 0), (45, 9, 7, 0, 0)],
  [(10, 11, 0, 2, 1), (19, 11, 1, 2, 1), (26, 11, 2, 2, 1), (30, 11, 3, 2, 1), (33, 11, 4, 2, 1), (39, 11, 5, 2, 1), (46, 11, 6, 2, 1), (53, 11, 7, 2, 1), (60, 11, 8, 2, 1), (67, 11, 9, 2, 1), (74, 11, 10, 2, 1), (81, 11, 11, 2, 0), (85, 11, 12, 2, 0), (257, 9, 7, 0, 0)],
  [(15, 12, 1, 0, 0), (11, 12, 2, 2, 1), (28, 12, 6, 2, 1), (32, 12, 7, 2, 1), (35, 12, 8, 2, 1), (38, 12, 9, 2, 1), (41, 12, 14, 2, 1), (44, 12, 16, 2, 1), (47, 12, 17, 2, 1), (50, 12, 20, 2, 1), (53, 12, 21, 2, 1), (56, 12, 23, 2, 1), (59, 12, 24, 2, 1), (62, 12, 25, 2, 1), (65, 12, 26, 2, 1), (68, 12, 27, 2, 1), (71, 12, 28, 2, 1), (74, 12, 30, 2, 1), (77, 12, 31, 2, 1), (80, 12, 34, 2, 1), (83, 12, 35, 2, 1), (86, 12, 37, 2, 1), (89, 12, 38, 2, 1), (92, 12, 40, 2, 1), (95, 12, 41, 2, 1), (98, 12, 42, 2, 1), (101, 12, 43, 2, 1), (104, 12, 44, 2, 1), (107, 12, 45, 2, 1), (110, 12, 47, 2, 1), (114, 12, 48, 2, 1), (117, 12, 49, 2, 1), (3, 12, 0, 0, 0), (157, 12, 10, 0, 0), (160, 12, 11, 0, 0), (163, 12, 13, 0, 0), (172, 12, 12, 0, 0), (197, 12, 15, 0, 0), (210, 12, 22, 0, 0), (213, 12, 5, 0, 0), (120, 12, 3, 0, 0), (131, 12, 4, 0, 0), (223, 12, 19, 0, 0), (251, 12, 18, 0, 0), (370, 12, 29, 0, 0), (404, 12, 32, 0, 0), (418, 12, 33, 0, 0), (428, 12, 36, 0, 0), (442, 12, 39, 0, 0), (459, 12, 46, 0, 0)],
  [],
  [],
  []]
set_option maxRecDepth 100000 in
def zl_n : List (List (Nat × Nat × List Nat)) := [[(7, 2, [2, 0, 0])],
  [(9, 2, [2, 0, 0])],
  [],
  [(11, 9, [2, 2, 2, 0, 0, 0, 0, 0, 0])],
  [],
  [],
  [],
  [],
  [(9, 2, [2, 0, 0])],
  [],
  [],
  [(7, 6, [2, 0]), (16, 4, [2, 0]), (23, 9, [2, 2, 2, 0, 0, 0, 0, 0, 0]), (36, 3, [2, 2, 0, 0, 0]), (43, 10, [2, 2, 0]), (50, 7, [2, 2, 2, 0]), (57, 8, [2, 2]), (64, 1, [2]), (71, 0, [2]), (78, 5, [2, 2, 2, 2, 0, 0, 0, 0, 0, 1])],
  [],
  [],
  [],
  [(8, 11, [2, 2, 2, 2, 2, 2, 2, 2, 2, 2, 2, 2, 2]), (26, 12, [0, 0, 2, 0, 0, 0, 2, 2, 2, 2, 0, 0, 0, 0, 2, 0, 2, 2, 0, 0, 2, 2, 0, 2, 2, 2, 2, 2, 2, 0, 2, 2, 0, 0, 2, 2, 0, 2, 2, 0, 2, 2, 2, 2, 2, 2, 0, 2, 2, 2])]]
set_option maxRecDepth 100000 in
def zl_a : List (List (Nat × Nat)) := [[],
  [],
  [],
  [(11, 209)],
  [],
  [],
  [],
  [],
  [],
  [],
  [],
  [],
  [],
  [],
  [],
  []]
set_option maxRecDepth 100000 in
def zl_k : List (List (Nat × Nat)) := [[],
  [],
  [],
  [],
  [],
  [],
  [],
  [],
  [],
  [],
  [(84, 1103515245)],
  [],
  [(424, 1000000), (462, 1103515245)],
  [(265, 1431655765), (266, 858993459), (267, 252645135)],
  [],
  []]
set_option maxRecDepth 100000 in
def zl_kl : List (List (Nat × Nat)) := [[],
  [],
  [],
  [],
  [],
  [],
  [],
  [],
  [],
  [],
  [],
  [],
  [(300, 3), (317, 7), (278, 10), (280, 19), (330, 18446744073709551613), (347, 60), (390, 30), (438, 18446744073709551596), (440, 20), (454, 18), (295, 2)],
  [],
  [],
  []]
set_option maxRecDepth 100000 in
def zl_v : List (List (Nat × Nat × Nat × Nat × List Nat)) := [[(25, 6, 2, 1, [0, 0]), (29, 15, 1, 3, [0, 0])],
  [],
  [],
  [(28, 24, 2, 4, [0, 0]), (32, 81, 2, 10, [0, 0])],
  [(17, 31, 1, 5, [0, 0]), (20, 32, 2, 5, [0, 0])],
  [],
  [],
  [(31, 103, 2, 10, [0, 0]), (37, 66, 2, 8, [0, 0]), (56, 31, 1, 5, [0, 0]), (64, 32, 2, 5, [0, 0]), (75, 101, 2, 10, [0, 0]), (78, 97, 1, 10, [0, 0]), (89, 75, 2, 8, [0, 0])],
  [(24, 121, 2, 11, [0, 0]), (30, 78, 5, 9, [0, 0]), (34, 15, 1, 3, [0, 0]), (45, 94, 2, 10, [0, 0])],
  [(46, 84, 2, 10, [0, 0]), (54, 91, 2, 10, [0, 0]), (57, 94, 2, 10, [0, 0]), (60, 95, 2, 10, [0, 0]), (67, 98, 2, 10, [0, 0]), (108, 85, 2, 10, [0, 0]), (102, 93, 3, 10, [0, 0])],
  [(18, 123, 3, 11, [0, 0]), (38, 124, 2, 11, [0, 0]), (41, 119, 4, 11, [0, 0]), (52, 91, 2, 10, [0, 0]), (69, 121, 2, 11, [0, 0]), (73, 94, 2, 10, [0, 0]), (81, 93, 3, 10, [0, 0])],
  [(88, 53, 2, 7, [0, 0]), (92, 54, 2, 7, [0, 0]), (96, 181, 4, 12, [0, 0]), (100, 55, 1, 7, [0, 0]), (104, 37, 3, 6, [0, 0]), (108, 84, 2, 10, [0, 0]), (137, 86, 3, 10, [0, 0]), (145, 91, 2, 10, [0, 0]), (148, 85, 2, 10, [0, 0]), (157, 101, 2, 10, [0, 0]), (170, 81, 2, 10, [0, 0]), (174, 108, 2, 10, [0, 0]), (177, 182, 2, 12, [0, 0]), (180, 109, 3, 10, [0, 0]), (183, 112, 2, 10, [0, 0]), (186, 119, 4, 11, [0, 0]), (190, 96, 1, 10, [0, 0]), (193, 107, 1, 10, [0, 0]), (196, 34, 3, 5, [0, 0]), (200, 113, 3, 10, [0, 0]), (203, 114, 4, 10, [0, 0]), (207, 115, 2, 10, [0, 0]), (210, 116, 2, 10, [0, 0]), (213, 59, 2, 7, [0, 0]), (222, 22, 2, 4, [0, 0]), (225, 97, 1, 10, [0, 0]), (228, 23, 2, 4, [0, 0]), (232, 184, 3, 12, [0, 0]), (242, 33, 2, 5, [0, 0]), (245, 98, 2, 10, [0, 0]), (248, 32, 2, 5, [0, 0]), (265, 103, 2, 10, [0, 0]), (273, 65, 2, 8, [0, 0]), (276, 64, 2, 8, [0, 0]), (279, 67, 2, 8, [0, 0]), (282, 68, 3, 8, [0, 0]), (289, 31, 1, 5, [0, 0]), (302, 72, 2, 8, [0, 0]), (305, 74, 2, 8, [0, 0]), (318, 94, 2, 10, [0, 0]), (321, 16, 4, 3, [0, 0]), (323, 19, 1, 3, [0, 0]), (326, 77, 4, 9, [0, 0]), (338, 10, 2, 2, [0, 0]), (348, 5, 1, 1, [0, 0]), (368, 120, 5, 11, [0, 0]), (372, 25, 3, 4, [0, 0]), (376, 26, 3, 4, [0, 0]), (385, 180, 2, 12, [0, 0]), (388, 29, 1, 5, [0, 0]), (395, 15, 1, 3, [0, 0]), (396, 21, 1, 4, [0, 0]), (397, 52, 1, 7, [0, 0])],
  [(127, 203, 2, 13, [0, 0]), (193, 218, 2, 13, [0, 0]), (206, 224, 4, 13, [0, 0]), (216, 225, 4, 13, [0, 0]), (220, 226, 1, 13, [0, 0]), (254, 232, 1, 13, [0, 0]), (257, 233, 3, 13, [0, 0]), (302, 246, 2, 13, [0, 0]), (308, 249, 2, 13, [0, 0]), (292, 205, 2, 13, [0, 0]), (332, 245, 1, 13, [0, 0]), (335, 251, 2, 13, [0, 0]), (338, 247, 2, 13, [0, 0]), (341, 253, 3, 13, [0, 0]), (344, 254, 2, 13, [0, 0]), (349, 250, 3, 13, [0, 0]), (18, 200, 2, 13, [0, 0]), (355, 214, 2, 13, [0, 0]), (358, 255, 3, 13, [0, 0]), (361, 257, 4, 13, [0, 0]), (364, 258, 2, 13, [0, 0]), (367, 259, 2, 13, [0, 0]), (383, 211, 2, 13, [0, 0]), (289, 204, 3, 13, [0, 0]), (398, 206, 1, 13, [0, 0]), (401, 281, 2, 13, [0, 0]), (407, 283, 4, 13, [0, 0]), (411, 287, 2, 13, [0, 0]), (421, 292, 1, 13, [0, 0]), (435, 299, 1, 13, [0, 0]), (448, 306, 2, 13, [0, 0]), (463, 314, 2, 13, [0, 0])],
  [],
  [],
  [(7, 131, 3, 12, [0, 0]), (15, 132, 3, 12, [0, 0]), (18, 133, 3, 12, [0, 0]), (21, 179, 2, 12, [0, 0]), (29, 126, 2, 12, [0, 0]), (33, 216, 2, 13, [0, 0]), (34, 127, 2, 12, [0, 0]), (38, 217, 2, 13, [0, 0]), (39, 128, 1, 12, [0, 0]), (43, 227, 1, 13, [0, 0]), (44, 129, 1, 12, [0, 0]), (47, 228, 1, 13, [0, 0]), (48, 130, 1, 12, [0, 0]), (51, 234, 1, 13, [0, 0]), (67, 134, 5, 12, [0, 0]), (71, 244, 5, 13, [0, 0]), (72, 135, 2, 12, [0, 0]), (75, 260, 2, 13, [0, 0]), (76, 136, 3, 12, [0, 0]), (79, 261, 3, 13, [0, 0]), (80, 137, 2, 12, [0, 0]), (83, 262, 2, 13, [0, 0]), (84, 138, 2, 12, [0, 0]), (87, 263, 2, 13, [0, 0]), (88, 139, 3, 12, [0, 0]), (91, 264, 3, 13, [0, 0]), (92, 140, 4, 12, [0, 0]), (96, 265, 4, 13, [0, 0]), (97, 141, 2, 12, [0, 0]), (100, 266, 2, 13, [0, 0]), (101, 142, 2, 12, [0, 0]), (104, 267, 2, 13, [0, 0]), (105, 143, 1, 12, [0, 0]), (108, 270, 1, 13, [0, 0]), (109, 144, 1, 12, [0, 0]), (112, 248, 1, 13, [0, 0]), (113, 145, 4, 12, [0, 0]), (116, 271, 4, 13, [0, 0]), (117, 146, 3, 12, [0, 0]), (120, 272, 3, 13, [0, 0]), (121, 147, 1, 12, [0, 0]), (124, 273, 1, 13, [0, 0]), (125, 148, 2, 12, [0, 0]), (128, 274, 2, 13, [0, 0]), (129, 149, 4, 12, [0, 0]), (132, 275, 4, 13, [0, 0]), (133, 150, 3, 12, [0, 0]), (136, 277, 3, 13, [0, 0]), (137, 151, 3, 12, [0, 0]), (140, 278, 3, 13, [0, 0]), (141, 152, 2, 12, [0, 0]), (144, 279, 2, 13, [0, 0]), (145, 153, 1, 12, [0, 0]), (148, 282, 1, 13, [0, 0]), (149, 154, 1, 12, [0, 0]), (152, 284, 1, 13, [0, 0]), (153, 155, 3, 12, [0, 0]), (156, 285, 3, 13, [0, 0]), (157, 156, 1, 12, [0, 0]), (160, 286, 1, 13, [0, 0]), (161, 157, 2, 12, [0, 0]), (164, 288, 2, 13, [0, 0]), (165, 158, 1, 12, [0, 0]), (168, 289, 1, 13, [0, 0]), (169, 159, 4, 12, [0, 0]), (172, 290, 4, 13, [0, 0]), (173, 160, 1, 12, [0, 0]), (176, 291, 1, 13, [0, 0]), (177, 161, 1, 12, [0, 0]), (180, 293, 1, 13, [0, 0]), (181, 162, 1, 12, [0, 0]), (184, 294, 1, 13, [0, 0]), (185, 163, 3, 12, [0, 0]), (188, 296, 3, 13, [0, 0]), (189, 164, 1, 12, [0, 0]), (192, 297, 1, 13, [0, 0]), (193, 165, 1, 12, [0, 0]), (196, 300, 1, 13, [0, 0]), (197, 166, 1, 12, [0, 0]), (200, 301, 1, 13, [0, 0]), (201, 167, 4, 12, [0, 0]), (204, 302, 4, 13, [0, 0]), (205, 168, 4, 12, [0, 0]), (208, 303, 4, 13, [0, 0]), (209, 169, 1, 12, [0, 0]), (212, 304, 1, 13, [0, 0]), (213, 170, 1, 12, [0, 0]), (216, 307, 1, 13, [0, 0]), (217, 171, 1, 12, [0, 0]), (220, 308, 1, 13, [0, 0]), (221, 172, 2, 12, [0, 0]), (224, 309, 2, 13, [0, 0]), (225, 173, 1, 12, [0, 0]), (228, 310, 1, 13, [0, 0]), (229, 174, 2, 12, [0, 0]), (232, 313, 2, 13, [0, 0]), (233, 175, 3, 12, [0, 0]), (236, 315, 3, 13, [0, 0]), (237, 176, 2, 12, [0, 0]), (240, 316, 2, 13, [0, 0]), (241, 177, 2, 12, [0, 0]), (244, 317, 2, 13, [0, 0]), (245, 178, 2, 12, [0, 0]), (248, 318, 2, 13, [0, 0])]]
set_option maxRecDepth 100000 in
def zl_s : List (List (Nat × Nat × Nat × Nat × List Nat)) := [[(18, 1, 1, 0, [0, 0]), (22, 2, 1, 0, [0, 0]), (37, 4, 3, 0, [0, 0])],
  [(20, 191, 3, 0, [0, 0])],
  [],
  [(36, 191, 3, 0, [0, 0])],
  [],
  [],
  [],
  [(41, 323, 1, 0, [0, 0])],
  [],
  [(83, 323, 1, 0, [0, 0]), (88, 191, 3, 0, [0, 0])],
  [],
  [(111, 191, 3, 0, [0, 0]), (268, 323, 1, 0, [0, 0]), (334, 9, 2, 0, [0, 0]), (351, 3, 1, 0, [0, 0]), (354, 1, 1, 0, [0, 0]), (357, 2, 1, 0, [0, 0]), (360, 7, 3, 0, [0, 0]), (362, 187, 1, 0, [0, 0]), (365, 189, 3, 0, [0, 0]), (423, 188, 2, 0, [0, 0]), (427, 190, 3, 0, [0, 0])],
  [(123, 196, 3, 0, [0, 0]), (150, 207, 2, 0, [0, 0]), (138, 198, 1, 0, [0, 0]), (282, 197, 2, 0, [0, 0]), (312, 323, 1, 0, [0, 0]), (352, 212, 1, 0, [0, 0]), (386, 215, 2, 0, [0, 0]), (264, 237, 2, 0, [0, 0]), (425, 295, 1, 0, [0, 0]), (445, 305, 3, 0, [0, 0]), (451, 311, 3, 0, [0, 0]), (456, 312, 3, 0, [0, 0])],
  [],
  [],
  []]
set_option maxRecDepth 100000 in
def zl_i : List (List (Nat × Nat × Nat × Nat × List Nat)) := [[(9, 14, 2, 0, [1, 36])],
  [(11, 14, 2, 0, [1, 36])],
  [],
  [(20, 80, 1, 0, [3, 30])],
  [],
  [],
  [],
  [],
  [(11, 14, 2, 0, [1, 36])],
  [],
  [],
  [(9, 51, 1, 0, [1, 80]), (18, 28, 1, 0, [1, 12]), (25, 80, 1, 0, [3, 30]), (38, 20, 1, 0, [74, 720]), (45, 118, 1, 0, [2, 28]), (52, 63, 1, 0, [3, 202]), (59, 76, 1, 0, [3, 47]), (66, 8, 1, 0, [2, 39]), (73, 0, 1, 0, [2, 39]), (80, 36, 1, 0, [4, 127])],
  [],
  [],
  [],
  [(25, 125, 1, 0, [118, 1578]), (28, 202, 1, 0, [31, 1502])]]
set_option maxRecDepth 100000 in
def zl_o : List (List (Nat)) := [[1],
  [3],
  [3],
  [3],
  [1],
  [3],
  [3],
  [3],
  [3],
  [3],
  [3],
  [1],
  [22],
  [],
  [],
  []]
set_option maxRecDepth 100000 in
def zl_y : List (List (Nat)) := [[],
  [],
  [],
  [],
  [],
  [],
  [],
  [],
  [],
  [25],
  [],
  [],
  [],
  [],
  [],
  []]
set_option maxRecDepth 100000 in
def zl_m : List (List (Nat × Nat)) := [[(41, 0)],
  [],
  [(15, 1)],
  [],
  [],
  [(44, 1)],
  [(23, 1)],
  [(50, 0)],
  [],
  [],
  [],
  [(286, 0)],
  [(166, 1), (270, 0)],
  [],
  [],
  []]
/-- methods: name, code, locals, answer, own class, cells, slots -/
abbrev ZMt : Type := MethodName × ByteArray × Nat × Option FieldType × Nat × Nat × Nat
def zm_0 : List (Option ZMt) := [some (yX0_init, cX0_init, 1, none, 0, 2, 39), some (yX0_timesWind, cX0_timesWind, 1, (some .int), 0, 0, 0), some (yX0_timesNumber, cX0_timesNumber, 1, (some .int), 0, 0, 0), some (yX0_firstOf, cX0_firstOf, 2, (some .int), 0, 0, 0), some (yX0_wayBy, cX0_wayBy, 3, (some .int), 0, 0, 0), some (yX0_lawsLeft, cX0_lawsLeft, 3, (some .int), 0, 0, 0), some (yX0_suits, cX0_suits, 3, (some .boolean), 0, 0, 0), some (yX0_mostLeft, cX0_mostLeft, 8, (some .int), 0, 0, 0), some (yX1_init, cX1_init, 1, none, 1, 2, 39), some (yX1_isTalk, cX1_isTalk, 2, (some .boolean), 1, 0, 0), some (yX1_peopleLeft, cX1_peopleLeft, 4, (some .int), 1, 0, 0), none, none, none, some (yX2_init, cX2_init, 2, none, 2, 1, 36), some (yX2_size, cX2_size, 1, (some .int), 2, 0, 0)]
def zm_1 : List (Option ZMt) := [some (yX2_add, cX2_add, 5, (some .int), 2, 0, 0), none, none, some (yX2_empty, cX2_empty, 2, (some .int), 2, 0, 0), some (yX3_init, cX3_init, 2, none, 3, 74, 720), some (yX3_size, cX3_size, 1, (some .int), 3, 0, 0), some (yX3_push, cX3_push, 3, none, 3, 0, 0), some (yX3_pop, cX3_pop, 3, (some .int), 3, 0, 0), some (yX3_deedAt, cX3_deedAt, 3, (some (.object "ConfettiMinutes$Town")), 3, 0, 0), some (yX3_store, cX3_store, 3, (some .boolean), 3, 0, 0), some (yX3_bringBack, cX3_bringBack, 3, (some .boolean), 3, 0, 0), none, some (yX4_init, cX4_init, 1, none, 4, 1, 12), some (yX4_size, cX4_size, 1, (some .int), 4, 0, 0), none, some (yX4_clear, cX4_clear, 1, none, 4, 0, 0)]
def zm_2 : List (Option ZMt) := [some (yX4_add, cX4_add, 3, none, 4, 0, 0), some (yX4_tell, cX4_tell, 3, none, 4, 0, 0), some (yX4_tell_, cX4_tell_, 5, none, 4, 0, 0), none, some (yX5_init, cX5_init, 1, none, 5, 4, 127), some (yX5_read, cX5_read, 6, (some .int), 5, 0, 0), none, none, none, none, none, none, none, none, none, none]
def zm_3 : List (Option ZMt) := [none, none, none, some (yX6_init, cX6_init, 1, none, 6, 1, 80), some (yX6_length, cX6_length, 1, (some .int), 6, 0, 0), some (yX6_append, cX6_append, 3, (some .int), 6, 0, 0), some (yX6_cut, cX6_cut, 2, (some .boolean), 6, 0, 0), some (yX6_take, cX6_take, 2, (some .int), 6, 0, 0), none, none, none, some (yX6_faultOfWedding, cX6_faultOfWedding, 6, (some .int), 6, 0, 0), none, none, none, some (yX7_init, cX7_init, 1, none, 7, 3, 202)]
def zm_4 : List (Option ZMt) := [some (yX7_lawsHeld, cX7_lawsHeld, 4, (some .int), 7, 0, 0), some (yX7_hittingSet, cX7_hittingSet, 5, (some .int), 7, 0, 0), some (yX7_hitsAll, cX7_hitsAll, 3, (some .boolean), 7, 0, 0), some (yX7_weighAwards, cX7_weighAwards, 6, (some .int), 7, 0, 0), some (yX7_tellAwards, cX7_tellAwards, 6, none, 7, 0, 0), none, none, none, some (yX7_weigh, cX7_weigh, 3, none, 7, 0, 0), none, some (yX7_isLeast, cX7_isLeast, 3, (some .boolean), 7, 0, 0), some (yX7_prevails, cX7_prevails, 4, (some .boolean), 7, 0, 0), some (yX8_init, cX8_init, 1, none, 8, 3, 47), some (yX8_windsLeft, cX8_windsLeft, 6, (some .int), 8, 0, 0), some (yX8_suits, cX8_suits, 7, (some .boolean), 8, 0, 0), none]
def zm_5 : List (Option ZMt) := [some (yX9_init, cX9_init, 2, none, 9, 3, 30), some (yX9_become, cX9_become, 2, none, 9, 0, 0), none, none, some (yX9_hasLaw, cX9_hasLaw, 2, (some .boolean), 9, 0, 0), some (yX9_hasOne, cX9_hasOne, 2, (some .boolean), 9, 0, 0), some (yX9_hasBit, cX9_hasBit, 3, (some .boolean), 9, 0, 0), none, none, none, none, some (yX9_placeOf, cX9_placeOf, 2, (some .int), 9, 0, 0), none, some (yX9_lay, cX9_lay, 3, none, 9, 0, 0), some (yX9_lies, cX9_lies, 2, (some .boolean), 9, 0, 0), some (yX9_isHeld, cX9_isHeld, 3, (some .boolean), 9, 0, 0)]
def zm_6 : List (Option ZMt) := [some (yX9_lyingCount, cX9_lyingCount, 3, (some .int), 9, 0, 0), some (yX9_heldCount, cX9_heldCount, 3, (some .int), 9, 0, 0), some (yX9_bitsAt, cX9_bitsAt, 4, (some .int), 9, 0, 0), none, none, some (yX9_heldBy, cX9_heldBy, 2, (some .int), 9, 0, 0), none, some (yX9_holdersOf, cX9_holdersOf, 4, (some .int), 9, 0, 0), none, none, none, some (yX9_rightCount, cX9_rightCount, 3, (some .int), 9, 0, 0), some (yX9_carry, cX9_carry, 2, (some .int), 9, 0, 0), some (yX9_fling, cX9_fling, 3, (some .int), 9, 0, 0), none, none]
def zm_7 : List (Option ZMt) := [some (yX9_sweep, cX9_sweep, 3, (some .int), 9, 0, 0), some (yX9_walk, cX9_walk, 4, (some .int), 9, 0, 0), some (yX9_give, cX9_give, 7, (some .int), 9, 0, 0), some (yX9_letFall, cX9_letFall, 4, (some .int), 9, 0, 0), some (yX9_turnWind, cX9_turnWind, 3, (some .int), 9, 0, 0), none, some (yX10_init, cX10_init, 1, none, 10, 2, 28), some (yX10_passDays, cX10_passDays, 7, (some .int), 10, 0, 0), some (yX10_passYears, cX10_passYears, 9, (some .int), 10, 0, 0), some (yX10_countCrowd, cX10_countCrowd, 4, none, 10, 0, 0), none, some (yX10_blow, cX10_blow, 4, none, 10, 0, 0), some (yX10_draw, cX10_draw, 2, (some .int), 10, 0, 0), some (yX11_init, cX11_init, 1, none, 11, 118, 1578), some (yX11_sign, cX11_sign, 2, (some .int), 11, 0, 0), some (yX11_end, cX11_end, 2, (some .boolean), 11, 0, 0)]
def zm_8 : List (Option ZMt) := [some (yX11_laws, cX11_laws, 1, (some .int), 11, 0, 0), some (yX11_people, cX11_people, 1, (some .int), 11, 0, 0), some (yX11_rule, cX11_rule, 3, (some .int), 11, 0, 0), some (yX11_law, cX11_law, 3, (some .int), 11, 0, 0), some (yX11_bit, cX11_bit, 3, (some .int), 11, 0, 0), some (yX11_one, cX11_one, 3, (some .int), 11, 0, 0), some (yX11_sheet, cX11_sheet, 9, (some .int), 11, 0, 0), some (yX11_carries, cX11_carries, 2, (some .int), 11, 0, 0), some (yX11_flings, cX11_flings, 3, (some .int), 11, 0, 0), some (yX11_sweeps, cX11_sweeps, 2, (some .int), 11, 0, 0), some (yX11_days, cX11_days, 3, (some .int), 11, 0, 0), some (yX11_walks, cX11_walks, 3, (some .int), 11, 0, 0), some (yX11_gives, cX11_gives, 4, (some .int), 11, 0, 0), some (yX11_falls, cX11_falls, 2, (some .int), 11, 0, 0), some (yX11_wind, cX11_wind, 2, (some .int), 11, 0, 0), some (yX11_wedding, cX11_wedding, 7, (some .int), 11, 0, 0)]
def zm_9 : List (Option ZMt) := [some (yX11_undo, cX11_undo, 1, (some .int), 11, 0, 0), some (yX11_later, cX11_later, 4, (some .int), 11, 0, 0), some (yX11_when, cX11_when, 4, (some .int), 11, 0, 0), some (yX11_clean, cX11_clean, 2, (some .int), 11, 0, 0), some (yX11_drifts, cX11_drifts, 4, (some .int), 11, 0, 0), some (yX11_aims, cX11_aims, 7, (some .int), 11, 0, 0), some (yX11_prays, cX11_prays, 8, (some .int), 11, 0, 0), some (yX11_seeks, cX11_seeks, 9, (some .int), 11, 0, 0), some (yX11_whole, cX11_whole, 3, (some .int), 11, 0, 0), some (yX11_quorum, cX11_quorum, 2, (some .int), 11, 0, 0), some (yX11_awards, cX11_awards, 2, (some .int), 11, 0, 0), some (yX11_needs, cX11_needs, 5, (some .int), 11, 0, 0), some (yX11_line, cX11_line, 4, (some .int), 11, 0, 0), some (yX11_power, cX11_power, 3, (some .int), 11, 0, 0), some (yX11_least, cX11_least, 3, (some .int), 11, 0, 0), some (yX11_seen, cX11_seen, 4, (some .int), 11, 0, 0)]
def zm_10 : List (Option ZMt) := [some (yX11_forget, cX11_forget, 1, (some .int), 11, 0, 0), some (yX11_guess, cX11_guess, 2, (some .int), 11, 0, 0), some (yX11_looks, cX11_looks, 6, (some .int), 11, 0, 0), some (yX11_heard, cX11_heard, 3, (some .int), 11, 0, 0), some (yX11_denies, cX11_denies, 1, (some .int), 11, 0, 0), some (yX11_fits, cX11_fits, 2, (some .int), 11, 0, 0), some (yX11_asks, cX11_asks, 8, (some .int), 11, 0, 0), some (yX11_odds, cX11_odds, 8, (some .int), 11, 0, 0), some (yX11_went, cX11_went, 5, (some .int), 11, 0, 0), some (yX11_clears, cX11_clears, 1, (some .int), 11, 0, 0), some (yX11_scatters, cX11_scatters, 3, (some .int), 11, 0, 0), some (yX11_tries, cX11_tries, 7, (some .int), 11, 0, 0), some (yX11_handfuls, cX11_handfuls, 2, (some .int), 11, 0, 0), some (yX11_other, cX11_other, 5, (some .int), 11, 0, 0), some (yX11_grasps, cX11_grasps, 5, (some .int), 11, 0, 0), some (yX11_years, cX11_years, 4, (some .int), 11, 0, 0)]
def zm_11 : List (Option ZMt) := [some (yX11_keep, cX11_keep, 2, (some .boolean), 11, 0, 0), some (yX11_again, cX11_again, 2, (some .boolean), 11, 0, 0), some (yX11_count, cX11_count, 2, (some .int), 11, 0, 0), some (yX11_row, cX11_row, 2, (some .long), 11, 0, 0), some (yX11_countKept, cX11_countKept, 2, (some .int), 11, 0, 0), some (yX11_readLines, cX11_readLines, 7, (some .int), 11, 0, 0), some (yX11_noted, cX11_noted, 2, (some .int), 11, 0, 0), none, some (yX11_dreamOf, cX11_dreamOf, 3, none, 11, 0, 0), none, none, some (yX11_winningHandful, cX11_winningHandful, 5, (some .int), 11, 0, 0), some (yX11_handfulOutOf, cX11_handfulOutOf, 4, (some .int), 11, 0, 0), some (yX11_isContent, cX11_isContent, 4, (some .boolean), 11, 0, 0), some (yX11_grasped, cX11_grasped, 3, (some .int), 11, 0, 0), some (yX11_isWithin, cX11_isWithin, 3, (some .boolean), 11, 0, 0)]
def zm_12 : List (Option ZMt) := [none, none, none, none, some (yX12_in, cX12_in, 6, (some .boolean), 12, 0, 0), some (yX12_has, cX12_has, 2, (some .boolean), 12, 0, 0), some (yX12_flag, cX12_flag, 1, (some .int), 12, 0, 0), none, some (yX12_enters, cX12_enters, 3, none, 12, 0, 0), none, some (yX12_init, cX12_init, 2, none, 12, 31, 1502), some (yX12_isLaw, cX12_isLaw, 2, (some .boolean), 12, 0, 0), some (yX12_isBit, cX12_isBit, 3, (some .boolean), 12, 0, 0), some (yX12_isOne, cX12_isOne, 2, (some .boolean), 12, 0, 0), some (yX12_all, cX12_all, 1, (some .int), 12, 0, 0), some (yX12_lies, cX12_lies, 2, (some .boolean), 12, 0, 0)]
def zm_13 : List (Option ZMt) := [none, none, none, some (yX12_heldMany, cX12_heldMany, 4, (some .int), 12, 0, 0), some (yX12_lieMany, cX12_lieMany, 3, (some .int), 12, 0, 0), none, some (yX12_rights, cX12_rights, 5, (some .int), 12, 0, 0), some (yX12_copies, cX12_copies, 3, none, 12, 0, 0), some (yX12_sign, cX12_sign, 3, (some .int), 12, 0, 0), some (yX12_end, cX12_end, 2, (some .boolean), 12, 0, 0), some (yX12_begins, cX12_begins, 3, (some .int), 12, 0, 0), none, none, none, none, none]
def zm_14 : List (Option ZMt) := [some (yX12_faultOf, cX12_faultOf, 5, (some .int), 12, 0, 0), some (yX12_readsLines, cX12_readsLines, 8, (some .int), 12, 0, 0), some (yX12_came, cX12_came, 1, (some .int), 12, 0, 0), some (yX12_laws, cX12_laws, 3, (some .int), 12, 0, 0), some (yX12_people, cX12_people, 3, (some .int), 12, 0, 0), none, none, none, some (yX12_readsRule, cX12_readsRule, 3, (some .int), 12, 0, 0), some (yX12_laysCode, cX12_laysCode, 4, none, 12, 0, 0), some (yX12_rule, cX12_rule, 2, (some .int), 12, 0, 0), none, none, some (yX12_lyingIn, cX12_lyingIn, 4, (some .int), 12, 0, 0), none, none]
def zm_15 : List (Option ZMt) := [none, none, none, none, some (yX12_sheet, cX12_sheet, 9, (some .int), 12, 0, 0), some (yX12_putsBy, cX12_putsBy, 2, none, 12, 0, 0), some (yX12_adds, cX12_adds, 3, (some .int), 12, 0, 0), some (yX12_counted, cX12_counted, 2, (some .int), 12, 0, 0), some (yX12_undo, cX12_undo, 2, (some .int), 12, 0, 0), some (yX12_dayGoes, cX12_dayGoes, 5, (some .int), 12, 0, 0), some (yX12_goesOn, cX12_goesOn, 5, (some .int), 12, 0, 0), some (yX12_carriesOne, cX12_carriesOne, 2, (some .int), 12, 0, 0), none, some (yX12_flingsOne, cX12_flingsOne, 3, (some .int), 12, 0, 0), some (yX12_sweepsOne, cX12_sweepsOne, 4, (some .int), 12, 0, 0), some (yX12_walksOne, cX12_walksOne, 4, (some .int), 12, 0, 0)]
def zm_16 : List (Option ZMt) := [none, some (yX12_givesAll, cX12_givesAll, 5, (some .int), 12, 0, 0), some (yX12_fallsFrom, cX12_fallsFrom, 2, (some .int), 12, 0, 0), some (yX12_windTo, cX12_windTo, 3, (some .int), 12, 0, 0), some (yX12_carries, cX12_carries, 2, (some .int), 12, 0, 0), some (yX12_flings, cX12_flings, 3, (some .int), 12, 0, 0), some (yX12_sweeps, cX12_sweeps, 2, (some .int), 12, 0, 0), some (yX12_days, cX12_days, 3, (some .int), 12, 0, 0), some (yX12_walks, cX12_walks, 3, (some .int), 12, 0, 0), some (yX12_gives, cX12_gives, 4, (some .int), 12, 0, 0), some (yX12_falls, cX12_falls, 2, (some .int), 12, 0, 0), some (yX12_wind, cX12_wind, 2, (some .int), 12, 0, 0), none, none, some (yX12_wedding, cX12_wedding, 5, (some .int), 12, 0, 0), some (yX12_later, cX12_later, 4, (some .int), 12, 0, 0)]
def zm_17 : List (Option ZMt) := [some (yX12_when, cX12_when, 4, (some .int), 12, 0, 0), some (yX12_clean, cX12_clean, 2, (some .int), 12, 0, 0), some (yX12_drifts, cX12_drifts, 4, (some .int), 12, 0, 0), some (yX12_aims, cX12_aims, 8, (some .int), 12, 0, 0), none, some (yX12_prays, cX12_prays, 5, (some .int), 12, 0, 0), some (yX12_seeks, cX12_seeks, 8, (some .int), 12, 0, 0), some (yX12_whole, cX12_whole, 4, (some .int), 12, 0, 0), none, some (yX12_holdsOfAll, cX12_holdsOfAll, 4, (some .boolean), 12, 0, 0), some (yX12_quorum, cX12_quorum, 4, (some .int), 12, 0, 0), some (yX12_awardsFrom, cX12_awardsFrom, 5, none, 12, 0, 0), some (yX12_awards, cX12_awards, 2, (some .int), 12, 0, 0), some (yX12_needs, cX12_needs, 6, (some .int), 12, 0, 0), some (yX12_line, cX12_line, 3, (some .int), 12, 0, 0), some (yX12_carriesIt, cX12_carriesIt, 4, (some .boolean), 12, 0, 0)]
def zm_18 : List (Option ZMt) := [some (yX12_power, cX12_power, 4, (some .int), 12, 0, 0), some (yX12_least, cX12_least, 5, (some .int), 12, 0, 0), some (yX12_seen, cX12_seen, 4, (some .int), 12, 0, 0), some (yX12_forget, cX12_forget, 2, (some .int), 12, 0, 0), some (yX12_winds, cX12_winds, 5, (some .int), 12, 0, 0), some (yX12_guess, cX12_guess, 2, (some .int), 12, 0, 0), some (yX12_looks, cX12_looks, 9, (some .int), 12, 0, 0), some (yX12_highest, cX12_highest, 1, (some .int), 12, 0, 0), some (yX12_heard, cX12_heard, 3, (some .int), 12, 0, 0), some (yX12_denies, cX12_denies, 2, (some .int), 12, 0, 0), none, some (yX12_fitting, cX12_fitting, 5, (some .int), 12, 0, 0), some (yX12_fits, cX12_fits, 2, (some .int), 12, 0, 0), some (yX12_asks, cX12_asks, 8, (some .int), 12, 0, 0), some (yX12_odds, cX12_odds, 13, (some .int), 12, 0, 0), some (yX12_went, cX12_went, 4, (some .int), 12, 0, 0)]
def zm_19 : List (Option ZMt) := [some (yX12_clears, cX12_clears, 2, (some .int), 12, 0, 0), some (yX12_goesBy, cX12_goesBy, 3, (some .int), 12, 0, 0), some (yX12_isScatter, cX12_isScatter, 4, (some .boolean), 12, 0, 0), some (yX12_scatters, cX12_scatters, 4, (some .int), 12, 0, 0), some (yX12_tries, cX12_tries, 8, (some .int), 12, 0, 0), some (yX12_handfuls, cX12_handfuls, 5, (some .int), 12, 0, 0), some (yX12_other, cX12_other, 6, (some .int), 12, 0, 0), some (yX12_gets, cX12_gets, 3, (some .int), 12, 0, 0), some (yX12_isRest, cX12_isRest, 5, (some .boolean), 12, 0, 0), some (yX12_grasps, cX12_grasps, 5, (some .int), 12, 0, 0), some (yX12_draws, cX12_draws, 2, (some .int), 12, 0, 0), some (yX12_years, cX12_years, 7, (some .int), 12, 0, 0), some (yX12_keep, cX12_keep, 3, (some .boolean), 12, 0, 0), some (yX12_again, cX12_again, 3, (some .boolean), 12, 0, 0), some (yX12_count, cX12_count, 2, (some .int), 12, 0, 0), none]
def zm_20 : List (Option ZMt) := [none, none, none, some (yJ6_bitCount_0f7a4, cJ6_bitCount_0f7a4, 1, (some .int), 13, 0, 0), none, none, none, none, none, none, none, none, none, none, none, none]
def zm_21 : List (Option ZMt) := [none, none, none, none, none, none, none, none, none, none, none, none, none, none, none, none]
def zm_22 : List (Option ZMt) := [none, none, none, none]
def zm_ : List (List (Option ZMt)) := [zm_0, zm_1, zm_2, zm_3, zm_4, zm_5, zm_6, zm_7, zm_8, zm_9, zm_10, zm_11, zm_12, zm_13, zm_14, zm_15, zm_16, zm_17, zm_18, zm_19, zm_20, zm_21, zm_22]
def zm (y : Nat) : Option ZMt := (zm_[y / 16]?).bind (fun c => (c[y % 16]?).bind (fun q => q))
end
section
/-! THE ENGINE, part 1: its data. A run of the code by numbers that the kernel works out: ints are Nats (mod 2^32), unknown ints are places in a list of intervals, cells are places in a world. -/
abbrev EV : Type := (Nat ⊕ Nat) ⊕ ((Nat ⊕ (Nat ⊕ Nat)) ⊕ Nat)
abbrev eC (n : Nat) : EV := .inl (.inl n)
abbrev eU (i : Nat) : EV := .inl (.inr i)
abbrev eR (k : Nat) : EV := .inr (.inl (.inl k))
abbrev eL (n : Nat) : EV := .inr (.inl (.inr (.inl n)))
/-- an unknown int, as a long -/
abbrev eLU (i : Nat) : EV := .inr (.inl (.inr (.inr i)))
abbrev eX (k : Nat) : EV := .inr (.inr k)
abbrev EC : Type := Nat × List EV
abbrev EW : Type := Nat × List (List EC)
abbrev EG : Type := List (Nat × Nat)
/-- force a number, then go on -/
noncomputable def ze_f (n : Nat) (k : Nat → Bool) : Bool := Nat.rec (motive := fun _ => Bool) (k 0) (fun m _ => k (Nat.succ m)) n
theorem ze_f_eq (n : Nat) (k : Nat → Bool) : ze_f n k = k n := by cases n <;> rfl
/-- the i-th of a list, then go on -/
noncomputable def ze_n {α : Type} (l : List α) : Nat → (α → Bool) → Bool := List.rec (motive := fun _ => Nat → (α → Bool) → Bool) (fun _ _ => false) (fun a _ ih i f => Nat.rec (motive := fun _ => Bool) (f a) (fun j _ => ih j f) i) l
theorem ze_n_spec {α : Type} : ∀ (l : List α) (i : Nat) (f : α → Bool), ze_n l i f = true → ∃ a, l[i]? = some a ∧ f a = true := by
  intro l
  induction l with
  | nil => intro i f h; exact absurd h (by simp [ze_n])
  | cons a t ih =>
    intro i f h
    cases i with
    | zero => exact ⟨a, rfl, h⟩
    | succ j => exact ih j f h
noncomputable def ze_s {α : Type} (v : α) (l : List α) : Nat → List α := List.rec (motive := fun _ => Nat → List α) (fun _ => []) (fun a t ih i => Nat.rec (motive := fun _ => List α) (v :: t) (fun j _ => a :: ih j) i) l
theorem ze_s_eq {α : Type} (v : α) : ∀ (l : List α) (i : Nat), ze_s v l i = l.set i v := by
  intro l
  induction l with
  | nil => intro i; rfl
  | cons a t ih =>
    intro i
    cases i with
    | zero => rfl
    | succ j => exact congrArg (List.cons a) (ih j)
noncomputable def ze_m {α : Type} (f : α → α) (l : List α) : Nat → List α := List.rec (motive := fun _ => Nat → List α) (fun _ => []) (fun a t ih i => Nat.rec (motive := fun _ => List α) (f a :: t) (fun j _ => a :: ih j) i) l
theorem ze_m_get {α : Type} (f : α → α) : ∀ (l : List α) (i j : Nat), (ze_m f l i)[j]? = if j = i then (l[i]?).map f else l[j]? := by
  intro l
  induction l with
  | nil => intro i j; show (([] : List α))[j]? = _; simp
  | cons a t ih =>
    intro i j
    cases i with
    | zero =>
      show (f a :: t)[j]? = _
      cases j with
      | zero => simp
      | succ j => simp
    | succ i =>
      show (a :: ze_m f t i)[j]? = _
      cases j with
      | zero => simp
      | succ j => simp [ih i j]
/-- a cell of a world -/
def ze_gw (w : EW) (k : Nat) : Option EC := (w.2[k / 16]?).bind (fun ch => ch[k % 16]?)
noncomputable def ze_g (w : EW) (k : Nat) (f : EC → Bool) : Bool := ze_n w.2 (Nat.div k 16) (fun ch => ze_n ch (Nat.mod k 16) f)
theorem ze_g_spec {w : EW} {k : Nat} {f : EC → Bool} (h : ze_g w k f = true) : ∃ c, ze_gw w k = some c ∧ f c = true := by
  obtain ⟨ch, h1, h2⟩ := ze_n_spec _ _ _ h
  obtain ⟨c, h3, h4⟩ := ze_n_spec _ _ _ h2
  refine ⟨c, ?_, h4⟩
  have h1' : w.2[k / 16]? = some ch := h1
  have h3' : ch[k % 16]? = some c := h3
  unfold ze_gw
  rw [h1']
  exact h3'
noncomputable def ze_ws (w : EW) (k : Nat) (c : EC) : EW := (w.1, ze_m (fun ch => ze_s c ch (Nat.mod k 16)) w.2 (Nat.div k 16))
theorem ze_ws_get (w : EW) (k : Nat) (c : EC) (j : Nat) : ze_gw (ze_ws w k c) j = if j = k then (ze_gw w k).map (fun _ => c) else ze_gw w j := by
  show ((ze_m (fun ch => ze_s c ch (k % 16)) w.2 (k / 16))[j / 16]?).bind _ = _
  rw [ze_m_get]
  by_cases h : j / 16 = k / 16
  · rw [if_pos h]
    unfold ze_gw
    by_cases h2 : j = k
    · subst h2
      rw [if_pos rfl]
      cases hc : w.2[j / 16]? with
      | none => simp
      | some ch =>
        simp [ze_s_eq, List.getElem?_set]
        by_cases h3 : j % 16 < ch.length
        · simp [h3]
        · simp [h3]
    · rw [if_neg h2, h]
      have h4 : k % 16 ≠ j % 16 := by omega
      cases hc : w.2[k / 16]? with
      | none => simp
      | some ch => simp [ze_s_eq, List.getElem?_set, h4]
  · rw [if_neg h]
    have h2 : j ≠ k := by intro q; subst q; exact h rfl
    rw [if_neg h2]
    rfl
/-- one more cell -/
noncomputable def ze_wp (w : EW) (c : EC) (f : EW → Bool) : Bool :=
  cond (Nat.beq (Nat.mod w.1 16) 0) (cond (Nat.beq w.2.length (Nat.div w.1 16)) (f (Nat.succ w.1, w.2 ++ [[c]])) false)
    (ze_n w.2 (Nat.div w.1 16) (fun ch => cond (Nat.beq ch.length (Nat.mod w.1 16)) (f (Nat.succ w.1, ze_m (fun ch => ch ++ [c]) w.2 (Nat.div w.1 16))) false))
theorem ze_cond {b : Bool} {x y : Bool} (h : cond b x y = true) : (b = true ∧ x = true) ∨ (b = false ∧ y = true) := by
  cases b
  · exact Or.inr ⟨rfl, h⟩
  · exact Or.inl ⟨rfl, h⟩
theorem ze_condf {b x : Bool} (h : cond b x false = true) : b = true ∧ x = true := by
  cases b
  · exact Bool.noConfusion (show false = true from h)
  · exact ⟨rfl, h⟩
theorem ze_condt {b x : Bool} (h : cond b x true = true) (hb : b = true) : x = true := by
  cases b
  · exact Bool.noConfusion (show false = true from hb)
  · exact h
theorem ze_and {x y : Bool} (h : cond x y false = true) : x = true ∧ y = true := ze_condf h
theorem ze_beq {a b : Nat} (h : Nat.beq a b = true) : a = b := Nat.eq_of_beq_eq_true h
theorem ze_wp_spec {w : EW} {c : EC} {f : EW → Bool} (h : ze_wp w c f = true) : ∃ w' : EW, f w' = true ∧ w'.1 = w.1 + 1 ∧ ∀ (k : Nat) (c' : EC), ze_gw w' k = some c' → (k = w.1 ∧ c' = c) ∨ (k ≠ w.1 ∧ ze_gw w k = some c') := by
  rcases ze_cond h with ⟨h1, h2⟩ | ⟨h1, h2⟩
  · obtain ⟨h3, h4⟩ := ze_condf h2
    have e1 : w.1 % 16 = 0 := ze_beq h1
    have e2 : w.2.length = w.1 / 16 := ze_beq h3
    refine ⟨_, h4, rfl, fun k c' hk => ?_⟩
    have hk : ((w.2 ++ [[c]])[k / 16]?).bind (fun ch => ch[k % 16]?) = some c' := hk
    by_cases hl : k / 16 < w.2.length
    · rw [List.getElem?_append_left hl] at hk
      refine Or.inr ⟨?_, hk⟩
      intro q
      subst q
      omega
    · rw [List.getElem?_append_right (by omega)] at hk
      by_cases hz : k / 16 - w.2.length = 0
      · rw [hz] at hk
        simp at hk
        by_cases h16 : k % 16 = 0
        · rw [h16] at hk
          simp at hk
          exact Or.inl ⟨by omega, hk.symm⟩
        · obtain ⟨q, hq⟩ : ∃ q, k % 16 = q + 1 := ⟨k % 16 - 1, by omega⟩
          rw [hq] at hk
          simp at hk
      · obtain ⟨q, hq⟩ : ∃ q, k / 16 - w.2.length = q + 1 := ⟨k / 16 - w.2.length - 1, by omega⟩
        rw [hq] at hk
        simp at hk
  · obtain ⟨ch, h3, h4⟩ := ze_n_spec _ _ _ h2
    obtain ⟨h5, h6⟩ := ze_condf h4
    have e1 : ch.length = w.1 % 16 := ze_beq h5
    have h3 : w.2[w.1 / 16]? = some ch := h3
    refine ⟨_, h6, rfl, fun k c' hk => ?_⟩
    have hk : ((ze_m (fun ch => ch ++ [c]) w.2 (w.1 / 16))[k / 16]?).bind (fun ch => ch[k % 16]?) = some c' := hk
    rw [ze_m_get] at hk
    by_cases hq : k / 16 = w.1 / 16
    · rw [if_pos hq, h3] at hk
      simp at hk
      by_cases hl : k % 16 < ch.length
      · rw [List.getElem?_append_left hl] at hk
        refine Or.inr ⟨fun q => by subst q; omega, ?_⟩
        unfold ze_gw
        rw [hq, h3]
        exact hk
      · rw [List.getElem?_append_right (by omega)] at hk
        by_cases hz : k % 16 - ch.length = 0
        · rw [hz] at hk
          simp at hk
          exact Or.inl ⟨by omega, hk.symm⟩
        · obtain ⟨q, hq2⟩ : ∃ q, k % 16 - ch.length = q + 1 := ⟨k % 16 - ch.length - 1, by omega⟩
          rw [hq2] at hk
          simp at hk
    · rw [if_neg hq] at hk
      exact Or.inr ⟨fun q => hq (by rw [q]), hk⟩
/-- by what a list, a value is: by their recursors, which the kernel works out at once -/
noncomputable def zl_ (st : List EV) (f : EV → List EV → Bool) : Bool := List.rec (motive := fun _ => Bool) false (fun v r _ => f v r) st
noncomputable def zl_0 (st : List EV) (d : Bool) : Bool := List.rec (motive := fun _ => Bool) d (fun _ _ _ => false) st
noncomputable def zv_ (v : EV) (fi : (Nat ⊕ Nat) → Bool) (fr : Nat → Bool) (fl : (Nat ⊕ Nat) → Bool) (fx : Nat → Bool) : Bool := Sum.rec (motive := fun _ => Bool) fi (fun u => Sum.rec (motive := fun _ => Bool) (fun z => Sum.rec (motive := fun _ => Bool) fr fl z) fx u) v
noncomputable def zv_r (v : EV) (f : Nat → Bool) : Bool := Sum.rec (motive := fun _ => Bool) (fun _ => false) (fun u => Sum.rec (motive := fun _ => Bool) (fun z => Sum.rec (motive := fun _ => Bool) f (fun _ => false) z) (fun _ => false) u) v
noncomputable def zv_i (v : EV) (f : (Nat ⊕ Nat) → Bool) : Bool := Sum.rec (motive := fun _ => Bool) f (fun _ => false) v
noncomputable def zv_c (v : EV) (f : Nat → Bool) : Bool := Sum.rec (motive := fun _ => Bool) (fun u => Sum.rec (motive := fun _ => Bool) f (fun _ => false) u) (fun _ => false) v
noncomputable def zv_l (v : EV) (f : (Nat ⊕ Nat) → Bool) : Bool := Sum.rec (motive := fun _ => Bool) (fun _ => false) (fun u => Sum.rec (motive := fun _ => Bool) (fun z => Sum.rec (motive := fun _ => Bool) (fun _ => false) f z) (fun _ => false) u) v
noncomputable def zv_s (v : Nat ⊕ Nat) (f g : Nat → Bool) : Bool := Sum.rec (motive := fun _ => Bool) f g v
end
section
/-! THE ENGINE, part 2: numbers, relations between its data and the machine's -/
def ze_b (x : Int32) : Nat := (x.toBitVec.toNat + 2147483648) % 4294967296
theorem ze_b_int (x : Int32) : (ze_b x : Int) = x.toInt + 2147483648 := by
  have h := x.toBitVec.isLt
  have e : x.toInt = x.toBitVec.toInt := rfl
  rw [e, BitVec.toInt_eq_toNat_cond]
  unfold ze_b
  split <;> omega
theorem ze_b_lt {x y : Int32} : x < y ↔ ze_b x < ze_b y := by
  have h1 := ze_b_int x
  have h2 := ze_b_int y
  rw [Int32.lt_iff_toInt_lt]
  omega
theorem ze_b_le {x y : Int32} : x ≤ y ↔ ze_b x ≤ ze_b y := by
  have h1 := ze_b_int x
  have h2 := ze_b_int y
  rw [Int32.le_iff_toInt_le]
  omega
theorem ze_b_eq {x y : Int32} : x = y ↔ ze_b x = ze_b y := by
  have h1 := ze_b_int x
  have h2 := ze_b_int y
  rw [← Int32.toInt_inj]
  omega
theorem ze_b_top (x : Int32) : ze_b x ≤ 4294967295 := by
  unfold ze_b
  omega
theorem ze_bv (n : Nat) : (nI n).toBitVec = BitVec.ofNat 32 n := rfl
theorem ze_tn (n : Nat) : (nI n).toBitVec.toNat = n % 4294967296 := by
  rw [ze_bv, BitVec.toNat_ofNat]
theorem ze_b_nI (n : Nat) : ze_b (nI n) = (n + 2147483648) % 4294967296 := by
  unfold ze_b
  rw [ze_tn]
  omega
def ze_e (x : Int32) : Nat := x.toBitVec.toNat
theorem ze_e_eq (x : Int32) : nI (ze_e x) = x := by
  apply Int32.toBitVec_inj.mp
  rw [ze_bv]
  apply BitVec.eq_of_toNat_eq
  rw [BitVec.toNat_ofNat]
  have h := x.toBitVec.isLt
  unfold ze_e
  omega
theorem ze_nI_mod {a b : Nat} (h : a % 4294967296 = b % 4294967296) : nI a = nI b := by
  apply Int32.toBitVec_inj.mp
  rw [ze_bv, ze_bv]
  apply BitVec.eq_of_toNat_eq
  rw [BitVec.toNat_ofNat, BitVec.toNat_ofNat]
  exact h
theorem ze_unb {x : Int32} {b : Nat} (h : ze_b x = b) : nI ((b + 2147483648) % 4294967296) = x := by
  have h2 := x.toBitVec.isLt
  rw [← ze_e_eq x]
  apply ze_nI_mod
  rw [← h]
  unfold ze_b ze_e
  omega
def ze_el (x : Int64) : Nat := x.toBitVec.toNat
theorem ze_el_eq (x : Int64) : lN (ze_el x) = x := by
  apply Int64.toBitVec_inj.mp
  have e : (lN (ze_el x)).toBitVec = BitVec.ofNat 64 (ze_el x) := rfl
  rw [e]
  apply BitVec.eq_of_toNat_eq
  rw [BitVec.toNat_ofNat]
  have h := x.toBitVec.isLt
  unfold ze_el
  omega
theorem ze_add (a b : Nat) : nI a + nI b = nI ((a + b) % 4294967296) := by
  rw [nI_add]
  exact ze_nI_mod (by omega)
theorem ze_sub (a b : Nat) : nI a - nI b = nI ((a + (4294967296 - b % 4294967296)) % 4294967296) := by
  have h : nI a = nI ((a + (4294967296 - b % 4294967296)) % 4294967296) + nI b := by
    rw [nI_add]
    apply ze_nI_mod
    have := Nat.mod_lt b (show 0 < 4294967296 by decide)
    omega
  rw [h]
  exact Int32.add_sub_cancel _ _
theorem ze_mul (a b : Nat) : nI a * nI b = nI ((a * b) % 4294967296) := by
  rw [pk_mul]
  exact ze_nI_mod (by omega)
/-- what a value of the engine stands for -/
def ze_V (sp : Nat → Nat) (ρ : List Int32) (ad : List Nat) (v : EV) (x : Value) : Prop := match v with
  | .inl (.inl n) => x = .int (nI n)
  | .inl (.inr i) => ∃ z, ρ[i]? = some z ∧ x = .int z
  | .inr (.inl (.inl k)) => ∃ a, ad[k]? = some a ∧ x = .ref a
  | .inr (.inl (.inr (.inl n))) => x = .long (lN n)
  | .inr (.inl (.inr (.inr i))) => ∃ z, ρ[i]? = some z ∧ x = .long z.toInt64
  | .inr (.inr 0) => x = .null
  | .inr (.inr 1) => False
  | .inr (.inr (k + 2)) => x = .ref (sp k)
theorem ze_pre {α : Type} {l l' : List α} (h : l <+: l') {i : Nat} {a : α} (hi : l[i]? = some a) : l'[i]? = some a := by
  obtain ⟨t, rfl⟩ := h
  rw [List.getElem?_append_left (List.getElem?_eq_some_iff.mp hi).1]
  exact hi
theorem ze_V.mono {sp : Nat → Nat} {ρ ρ' : List Int32} {ad ad' : List Nat} (h1 : ρ <+: ρ') (h2 : ad <+: ad') {v : EV} {x : Value} (h : ze_V sp ρ ad v x) : ze_V sp ρ' ad' v x := by
  match v, h with
  | .inl (.inl n), h => exact h
  | .inl (.inr i), ⟨z, a, b⟩ => exact ⟨z, ze_pre h1 a, b⟩
  | .inr (.inl (.inl k)), ⟨z, a, b⟩ => exact ⟨z, ze_pre h2 a, b⟩
  | .inr (.inl (.inr (.inl n))), h => exact h
  | .inr (.inl (.inr (.inr i))), ⟨z, a, b⟩ => exact ⟨z, ze_pre h1 a, b⟩
  | .inr (.inr 0), h => exact h
  | .inr (.inr (k + 2)), h => exact h
def ze_L (sp : Nat → Nat) (ρ : List Int32) (ad : List Nat) : List EV → List Value → Prop
  | [], [] => True
  | v :: l, x :: xs => ze_V sp ρ ad v x ∧ ze_L sp ρ ad l xs
  | [], _ :: _ => False
  | _ :: _, [] => False
theorem ze_L.mono {sp : Nat → Nat} {ρ ρ' : List Int32} {ad ad' : List Nat} (h1 : ρ <+: ρ') (h2 : ad <+: ad') : ∀ {l : List EV} {xs : List Value}, ze_L sp ρ ad l xs → ze_L sp ρ' ad' l xs := by
  intro l
  induction l with
  | nil =>
    intro xs h
    cases xs with
    | nil => trivial
    | cons x xs => exact h
  | cons v l ih =>
    intro xs h
    cases xs with
    | nil => exact h
    | cons x xs => exact ⟨h.1.mono h1 h2, ih h.2⟩
theorem ze_L.cons {sp : Nat → Nat} {ρ : List Int32} {ad : List Nat} {v : EV} {l : List EV} {xs : List Value} (h : ze_L sp ρ ad (v :: l) xs) : ∃ y ys, xs = y :: ys ∧ ze_V sp ρ ad v y ∧ ze_L sp ρ ad l ys := by
  cases xs with
  | nil => exact absurd h (fun q => q)
  | cons y ys => exact ⟨y, ys, rfl, h.1, h.2⟩
theorem ze_L.nil {sp : Nat → Nat} {ρ : List Int32} {ad : List Nat} {xs : List Value} (h : ze_L sp ρ ad [] xs) : xs = [] := by
  cases xs with
  | nil => rfl
  | cons y ys => exact absurd h (fun q => q)
theorem ze_L.get {sp : Nat → Nat} {ρ : List Int32} {ad : List Nat} : ∀ {l : List EV} {xs : List Value}, ze_L sp ρ ad l xs → ∀ {i : Nat} {v : EV}, l[i]? = some v → ∃ x, xs[i]? = some x ∧ ze_V sp ρ ad v x := by
  intro l
  induction l with
  | nil => intro xs _ i v h; simp at h
  | cons u l ih =>
    intro xs h i v hi
    obtain ⟨y, ys, rfl, h1, h2⟩ := h.cons
    cases i with
    | zero => simp at hi; subst hi; exact ⟨y, rfl, h1⟩
    | succ j => exact ih h2 (by simpa using hi)
theorem ze_L.set {sp : Nat → Nat} {ρ : List Int32} {ad : List Nat} {v : EV} {x : Value} (hv : ze_V sp ρ ad v x) : ∀ {l : List EV} {xs : List Value}, ze_L sp ρ ad l xs → ∀ (i : Nat), ze_L sp ρ ad (l.set i v) (xs.set i x) := by
  intro l
  induction l with
  | nil =>
    intro xs h i
    rw [h.nil]
    trivial
  | cons u l ih =>
    intro xs h i
    obtain ⟨y, ys, rfl, h1, h2⟩ := h.cons
    cases i with
    | zero => exact ⟨hv, h2⟩
    | succ j => exact ⟨h1, ih h2 j⟩
theorem ze_L.len {sp : Nat → Nat} {ρ : List Int32} {ad : List Nat} : ∀ {l : List EV} {xs : List Value}, ze_L sp ρ ad l xs → l.length = xs.length := by
  intro l
  induction l with
  | nil => intro xs h; rw [h.nil]; rfl
  | cons u l ih =>
    intro xs h
    obtain ⟨y, ys, rfl, h1, h2⟩ := h.cons
    simp [ih h2]
/-- the intervals hold of the unknowns -/
def ze_G (g : EG) (ρ : List Int32) : Prop := g.length = ρ.length ∧ ∀ (i : Nat) (p : Nat × Nat) (x : Int32), g[i]? = some p → ρ[i]? = some x → p.1 ≤ ze_b x ∧ ze_b x ≤ p.2
theorem ze_G.push {g : EG} {ρ : List Int32} (h : ze_G g ρ) {p : Nat × Nat} {x : Int32} (h1 : p.1 ≤ ze_b x) (h2 : ze_b x ≤ p.2) : ze_G (g ++ [p]) (ρ ++ [x]) := by
  refine ⟨by simp [h.1], fun i q y hq hy => ?_⟩
  by_cases hi : i < g.length
  · rw [List.getElem?_append_left hi] at hq
    rw [List.getElem?_append_left (by rw [← h.1]; exact hi)] at hy
    exact h.2 i q y hq hy
  · rw [List.getElem?_append_right (by omega)] at hq
    rw [List.getElem?_append_right (by rw [← h.1]; omega)] at hy
    by_cases hz : i - g.length = 0
    · rw [hz] at hq
      rw [show i - ρ.length = 0 by rw [← h.1]; exact hz] at hy
      simp at hq hy
      subst hq; subst hy
      exact ⟨h1, h2⟩
    · obtain ⟨j, hj⟩ : ∃ j, i - g.length = j + 1 := ⟨i - g.length - 1, by omega⟩
      rw [hj] at hq
      simp at hq
theorem ze_G.new {g : EG} {ρ : List Int32} (h : ze_G g ρ) (x : Int32) : (ρ ++ [x])[g.length]? = some x := by
  rw [h.1]
  simp
theorem ze_G.set {g : EG} {ρ : List Int32} (h : ze_G g ρ) {i : Nat} {p : Nat × Nat} {x : Int32} (hx : ρ[i]? = some x) (h1 : p.1 ≤ ze_b x) (h2 : ze_b x ≤ p.2) : ze_G (ze_s p g i) ρ := by
  rw [ze_s_eq]
  refine ⟨by simp [h.1], fun j q y hq hy => ?_⟩
  by_cases hj : i = j
  · subst hj
    rw [hx] at hy
    cases hy
    by_cases hl : i < g.length
    · rw [List.getElem?_set_self hl] at hq
      cases hq
      exact ⟨h1, h2⟩
    · rw [List.getElem?_eq_none (by rw [List.length_set]; omega)] at hq
      cases hq
  · rw [List.getElem?_set_ne hj] at hq
    exact h.2 j q y hq hy
/-- an int of the engine: a number, or an unknown that isn't settled -/
noncomputable def ze_rs (g : EG) (v : EV) (fc fu : Nat → Bool) : Bool := zv_i v (fun u => zv_s u fc (fun i => ze_n g i (fun p => cond (Nat.beq p.1 p.2) (ze_f (Nat.mod (Nat.add p.1 2147483648) 4294967296) fc) (fu i))))
theorem ze_rs_spec {sp : Nat → Nat} {g : EG} {ρ : List Int32} {ad : List Nat} {v : EV} {fc fu : Nat → Bool} {X : Value} (h : ze_rs g v fc fu = true) (hG : ze_G g ρ) (hv : ze_V sp ρ ad v X) :
    ∃ x, X = .int x ∧ ((∃ n, x = nI n ∧ fc n = true) ∨ ∃ i, v = eU i ∧ ρ[i]? = some x ∧ fu i = true) := by
  match v, h, hv with
  | .inl (.inl n), h, hv => exact ⟨nI n, hv, Or.inl ⟨n, rfl, h⟩⟩
  | .inl (.inr i), h, ⟨z, hz, e⟩ =>
    refine ⟨z, e, ?_⟩
    obtain ⟨p, hp, h2⟩ := ze_n_spec _ _ _ h
    rcases ze_cond h2 with ⟨h3, h4⟩ | ⟨_, h4⟩
    · rw [ze_f_eq] at h4
      have hb := hG.2 i p z hp hz
      have e2 := ze_beq h3
      exact Or.inl ⟨_, (ze_unb (x := z) (b := p.1) (by omega)).symm, h4⟩
    · exact Or.inr ⟨i, rfl, hz, h4⟩
def ze_z (n : Nat) : Nat := Nat.mod (Nat.add n 2147483648) 4294967296
theorem ze_z_eq (n : Nat) : ze_z n = ze_b (nI n) := by rw [ze_b_nI]; rfl
def ze_mx (a b : Nat) : Nat := cond (Nat.ble a b) b a
def ze_mn (a b : Nat) : Nat := cond (Nat.ble a b) a b
theorem ze_mx_le {a b c : Nat} (h1 : a ≤ c) (h2 : b ≤ c) : ze_mx a b ≤ c := by
  unfold ze_mx
  cases Nat.ble a b <;> assumption
theorem ze_mn_le {a b c : Nat} (h1 : c ≤ a) (h2 : c ≤ b) : c ≤ ze_mn a b := by
  unfold ze_mn
  cases Nat.ble a b <;> assumption
noncomputable def ze_lt (g : EG) (v1 v2 : EV) (kt kf : EG → Bool) : Bool :=
  ze_rs g v1 (fun x => ze_rs g v2 (fun y => cond (Nat.ble (Nat.succ (ze_z x)) (ze_z y)) (kt g) (kf g))
      (fun j => ze_n g j (fun p => cond (cond (Nat.ble (Nat.succ (ze_z x)) p.2) (kt (ze_s (ze_mx p.1 (Nat.succ (ze_z x)), p.2) g j)) true) (cond (Nat.ble p.1 (ze_z x)) (kf (ze_s (p.1, ze_mn p.2 (ze_z x)) g j)) true) false)))
    (fun i => ze_rs g v2 (fun y => ze_n g i (fun p => cond (cond (Nat.ble (Nat.succ p.1) (ze_z y)) (kt (ze_s (p.1, ze_mn p.2 (Nat.pred (ze_z y))) g i)) true) (cond (Nat.ble (ze_z y) p.2) (kf (ze_s (ze_mx p.1 (ze_z y), p.2) g i)) true) false))
      (fun _ => cond (kt g) (kf g) false))
theorem ze_ble {a b : Nat} (h : a ≤ b) : Nat.ble a b = true := Nat.ble_eq_true_of_le h
theorem ze_ble' {a b : Nat} (h : Nat.ble a b = true) : a ≤ b := Nat.le_of_ble_eq_true h
theorem ze_nble {a b : Nat} (h : Nat.ble a b = false) : b < a := by
  rcases Nat.lt_or_ge b a with q | q
  · exact q
  · rw [ze_ble q] at h; cases h
theorem ze_lt_spec {sp : Nat → Nat} {g : EG} {ρ : List Int32} {ad : List Nat} {v1 v2 : EV} {kt kf : EG → Bool} {X Y : Value} (h : ze_lt g v1 v2 kt kf = true) (hG : ze_G g ρ) (h1 : ze_V sp ρ ad v1 X) (h2 : ze_V sp ρ ad v2 Y) :
    ∃ x y, X = .int x ∧ Y = .int y ∧ (x < y → ∃ g', ze_G g' ρ ∧ kt g' = true) ∧ (¬ x < y → ∃ g', ze_G g' ρ ∧ kf g' = true) := by
  obtain ⟨x, ex, hx⟩ := ze_rs_spec h hG h1
  rcases hx with ⟨a, ea, hx⟩ | ⟨i, ei, hi, hx⟩
  · obtain ⟨y, ey, hy⟩ := ze_rs_spec hx hG h2
    refine ⟨x, y, ex, ey, ?_⟩
    rcases hy with ⟨b, eb, hy⟩ | ⟨j, ej, hj, hy⟩
    · rw [ze_z_eq, ze_z_eq, ← ea, ← eb] at hy
      rcases ze_cond hy with ⟨q1, q2⟩ | ⟨q1, q2⟩
      · have q3 := ze_ble' q1
        exact ⟨fun _ => ⟨g, hG, q2⟩, fun n => absurd (ze_b_lt.mpr q3) n⟩
      · have q3 := ze_nble q1
        exact ⟨fun n => absurd (ze_b_lt.mp n) (by omega), fun _ => ⟨g, hG, q2⟩⟩
    · obtain ⟨p, hp, hq⟩ := ze_n_spec _ _ _ hy
      obtain ⟨q1, q2⟩ := ze_and hq
      rw [ze_z_eq, ← ea] at q1 q2
      have hb := hG.2 j p y hp hj
      refine ⟨fun n => ⟨_, ?_, ze_condt q1 (ze_ble ?_)⟩, fun n => ⟨_, ?_, ze_condt q2 (ze_ble ?_)⟩⟩
      · have n := ze_b_lt.mp n
        exact hG.set hj (ze_mx_le hb.1 n) hb.2
      · have n := ze_b_lt.mp n
        omega
      · have n : ¬ ze_b x < ze_b y := fun q => n (ze_b_lt.mpr q)
        exact hG.set hj hb.1 (ze_mn_le hb.2 (by omega))
      · have n : ¬ ze_b x < ze_b y := fun q => n (ze_b_lt.mpr q)
        omega
  · obtain ⟨y, ey, hy⟩ := ze_rs_spec hx hG h2
    refine ⟨x, y, ex, ey, ?_⟩
    rcases hy with ⟨b, eb, hy⟩ | ⟨j, ej, hj, hy⟩
    · obtain ⟨p, hp, hq⟩ := ze_n_spec _ _ _ hy
      obtain ⟨q1, q2⟩ := ze_and hq
      rw [ze_z_eq, ← eb] at q1 q2
      have hb := hG.2 i p x hp hi
      refine ⟨fun n => ⟨_, ?_, ze_condt q1 (ze_ble ?_)⟩, fun n => ⟨_, ?_, ze_condt q2 (ze_ble ?_)⟩⟩
      · have n := ze_b_lt.mp n
        exact hG.set hi hb.1 (ze_mn_le hb.2 (by rw [Nat.pred_eq_sub_one]; omega))
      · have n := ze_b_lt.mp n
        omega
      · have n : ¬ ze_b x < ze_b y := fun q => n (ze_b_lt.mpr q)
        exact hG.set hi (ze_mx_le hb.1 (by omega)) hb.2
      · have n : ¬ ze_b x < ze_b y := fun q => n (ze_b_lt.mpr q)
        omega
    · obtain ⟨q1, q2⟩ := ze_and hy
      exact ⟨fun _ => ⟨g, hG, q1⟩, fun _ => ⟨g, hG, q2⟩⟩
/-- an unknown against a number: it is, it is less, it is more -/
noncomputable def ze_eu (g : EG) (i c : Nat) (kt kf : EG → Bool) : Bool := ze_n g i (fun p => cond (cond (Nat.ble p.1 c) (cond (Nat.ble c p.2) (kt (ze_s (c, c) g i)) true) true)
  (cond (cond (Nat.ble (Nat.succ p.1) c) (kf (ze_s (p.1, ze_mn p.2 (Nat.pred c)) g i)) true) (cond (Nat.ble (Nat.succ c) p.2) (kf (ze_s (ze_mx p.1 (Nat.succ c), p.2) g i)) true) false) false)
theorem ze_eu_spec {g : EG} {ρ : List Int32} {i c : Nat} {kt kf : EG → Bool} {x : Int32} (h : ze_eu g i c kt kf = true) (hG : ze_G g ρ) (hi : ρ[i]? = some x) : (ze_b x = c → ∃ g', ze_G g' ρ ∧ kt g' = true) ∧ (¬ ze_b x = c → ∃ g', ze_G g' ρ ∧ kf g' = true) := by
  obtain ⟨p, hp, hq⟩ := ze_n_spec _ _ _ h
  obtain ⟨q1, q2⟩ := ze_and hq
  obtain ⟨q2, q3⟩ := ze_and q2
  have hb := hG.2 i p x hp hi
  refine ⟨fun n => ?_, fun n => ?_⟩
  · have r1 := ze_condt q1 (ze_ble (by omega))
    have r2 := ze_condt r1 (ze_ble (by omega))
    exact ⟨_, hG.set hi (by omega) (by omega), r2⟩
  · rcases Nat.lt_or_ge (ze_b x) c with r | r
    · have r1 := ze_condt q2 (ze_ble (by omega))
      refine ⟨_, ?_, r1⟩
      exact hG.set hi hb.1 (ze_mn_le hb.2 (by rw [Nat.pred_eq_sub_one]; omega))
    · have r1 := ze_condt q3 (ze_ble (by omega))
      refine ⟨_, ?_, r1⟩
      exact hG.set hi (ze_mx_le hb.1 (by omega)) hb.2
/-- an int as a number: an unknown of few numbers is split -/
noncomputable def ze_sp (g : EG) (i : Nat) (f : Nat → EG → Bool) (n : Nat) : Nat → Bool := Nat.rec (motive := fun _ => Nat → Bool) (fun z => f (ze_z z) (ze_s (z, z) g i)) (fun _ ih z => cond (f (ze_z z) (ze_s (z, z) g i)) (ih (Nat.succ z)) false) n
noncomputable def ze_ix (g : EG) (v : EV) (f : Nat → EG → Bool) : Bool := zv_i v (fun u => zv_s u (fun n => f n g) (fun i => ze_n g i (fun p => cond (Nat.ble (Nat.sub p.2 p.1) 80) (ze_sp g i f (Nat.sub p.2 p.1) p.1) false)))
theorem ze_sp_spec {g : EG} {ρ : List Int32} {i : Nat} {f : Nat → EG → Bool} {x : Int32} (hG : ze_G g ρ) (hi : ρ[i]? = some x) : ∀ (n z : Nat), ze_sp g i f n z = true → z ≤ ze_b x → ze_b x ≤ z + n → ∃ m g', x = nI m ∧ ze_G g' ρ ∧ f m g' = true := by
  intro n
  induction n with
  | zero =>
    intro z h h1 h2
    have e : ze_b x = z := by omega
    exact ⟨_, _, (ze_unb e).symm, hG.set hi (by omega) (by omega), h⟩
  | succ n ih =>
    intro z h h1 h2
    obtain ⟨q1, q2⟩ := ze_and (show cond (f (ze_z z) (ze_s (z, z) g i)) (ze_sp g i f n (Nat.succ z)) false = true from h)
    rcases Nat.lt_or_ge z (ze_b x) with r | r
    · exact ih (Nat.succ z) q2 (by omega) (by omega)
    · have e : ze_b x = z := by omega
      exact ⟨_, _, (ze_unb e).symm, hG.set hi (by omega) (by omega), q1⟩
theorem ze_ix_spec {sp : Nat → Nat} {g : EG} {ρ : List Int32} {ad : List Nat} {v : EV} {f : Nat → EG → Bool} {X : Value} (h : ze_ix g v f = true) (hG : ze_G g ρ) (hv : ze_V sp ρ ad v X) : ∃ n g', X = .int (nI n) ∧ ze_G g' ρ ∧ f n g' = true := by
  match v, h, hv with
  | .inl (.inl n), h, hv => exact ⟨n, g, hv, hG, h⟩
  | .inl (.inr i), h, ⟨z, hz, e⟩ =>
    obtain ⟨p, hp, h2⟩ := ze_n_spec _ _ _ h
    obtain ⟨h3, h4⟩ := ze_condf h2
    have hb := hG.2 i p z hp hz
    obtain ⟨m, g', q1, q2, q3⟩ := ze_sp_spec hG hz _ _ h4 hb.1 (by show ze_b z ≤ p.1 + (p.2 - p.1); omega)
    exact ⟨m, g', by rw [e, q1], q2, q3⟩
noncomputable def ze_eq (g : EG) (v1 v2 : EV) (kt kf : EG → Bool) : Bool :=
  ze_rs g v1 (fun x => ze_rs g v2 (fun y => cond (Nat.beq (ze_z x) (ze_z y)) (kt g) (kf g)) (fun j => ze_eu g j (ze_z x) kt kf))
    (fun i => ze_rs g v2 (fun y => ze_eu g i (ze_z y) kt kf) (fun _ => cond (kt g) (kf g) false))
theorem ze_nbeq {a b : Nat} (h : Nat.beq a b = false) : a ≠ b := Nat.ne_of_beq_eq_false h
theorem ze_eq_spec {sp : Nat → Nat} {g : EG} {ρ : List Int32} {ad : List Nat} {v1 v2 : EV} {kt kf : EG → Bool} {X Y : Value} (h : ze_eq g v1 v2 kt kf = true) (hG : ze_G g ρ) (h1 : ze_V sp ρ ad v1 X) (h2 : ze_V sp ρ ad v2 Y) :
    ∃ x y, X = .int x ∧ Y = .int y ∧ (x = y → ∃ g', ze_G g' ρ ∧ kt g' = true) ∧ (¬ x = y → ∃ g', ze_G g' ρ ∧ kf g' = true) := by
  obtain ⟨x, ex, hx⟩ := ze_rs_spec h hG h1
  rcases hx with ⟨a, ea, hx⟩ | ⟨i, ei, hi, hx⟩
  · obtain ⟨y, ey, hy⟩ := ze_rs_spec hx hG h2
    refine ⟨x, y, ex, ey, ?_⟩
    rcases hy with ⟨b, eb, hy⟩ | ⟨j, ej, hj, hy⟩
    · rw [ze_z_eq, ze_z_eq, ← ea, ← eb] at hy
      rcases ze_cond hy with ⟨q1, q2⟩ | ⟨q1, q2⟩
      · exact ⟨fun _ => ⟨g, hG, q2⟩, fun n => absurd (ze_b_eq.mpr (ze_beq q1)) n⟩
      · exact ⟨fun n => absurd (ze_b_eq.mp n) (ze_nbeq q1), fun _ => ⟨g, hG, q2⟩⟩
    · rw [ze_z_eq, ← ea] at hy
      have k := ze_eu_spec hy hG hj
      exact ⟨fun n => k.1 (by rw [n]), fun n => k.2 (fun q => n (ze_b_eq.mpr q.symm))⟩
  · obtain ⟨y, ey, hy⟩ := ze_rs_spec hx hG h2
    refine ⟨x, y, ex, ey, ?_⟩
    rcases hy with ⟨b, eb, hy⟩ | ⟨j, ej, hj, hy⟩
    · rw [ze_z_eq, ← eb] at hy
      have k := ze_eu_spec hy hG hi
      exact ⟨fun n => k.1 (by rw [n]), fun n => k.2 (fun q => n (ze_b_eq.mpr q))⟩
    · obtain ⟨q1, q2⟩ := ze_and hy
      exact ⟨fun _ => ⟨g, hG, q1⟩, fun _ => ⟨g, hG, q2⟩⟩
end
section
/-! THE ENGINE, part 3: what an instruction does. A row of code: instruction, its pc, three numbers, a list of numbers. -/
abbrev ECE : Type := Jvm.ClassFile.Instr × Nat × Nat × Nat × Nat × List Nat
abbrev EKn : Type := List ECE → List EV → List EV → EW → EG → Nat → Nat → Bool
/-- a jump to a row -/
abbrev EJp : Type := Nat → (List ECE → Bool) → Bool
abbrev ERt : Type := Option EV → EW → EG → Bool
abbrev ECal : Type := Nat → List EV → EW → EG → ERt → Bool
/-- next a b c list; jumps; going on; at the end; calls; cells and slots at most; locals stack world intervals, cells and slots made -/
abbrev EOp : Type := List ECE → Nat → Nat → Nat → List Nat → EJp → EKn → ERt → ECal → Nat → Nat → List EV → List EV → EW → EG → Nat → Nat → Bool
def zo_no : EOp := fun _ _ _ _ _ _ _ _ _ _ _ _ _ _ _ _ _ => false
/-- an int that nothing is known of but its interval -/
noncomputable def zo_fr (lo hi : Nat) (nx : List ECE) (kk : EKn) (ls rest : List EV) (w : EW) (g : EG) (nc ns : Nat) : Bool := ze_f g.length (fun i => kk nx ls (eU i :: rest) w (g ++ [(lo, hi)]) nc ns)
noncomputable def zo_bin (fc : Nat → Nat → Nat) (bd : EG → EV → EV → Nat × Nat) : EOp := fun nx _ _ _ _ jp kk _ _ _ _ ls st w g nc ns => zl_ st (fun v2 t => zl_ t (fun v1 rest => ze_rs g v1 (fun x => ze_rs g v2 (fun y => ze_f (fc x y) (fun r => kk nx ls (eC r :: rest) w g nc ns)) (fun _ => zo_fr (bd g v1 v2).1 (bd g v1 v2).2 nx kk ls rest w g nc ns))
      (fun _ => ze_rs g v2 (fun _ => zo_fr (bd g v1 v2).1 (bd g v1 v2).2 nx kk ls rest w g nc ns) (fun _ => zo_fr (bd g v1 v2).1 (bd g v1 v2).2 nx kk ls rest w g nc ns))))
def zo_top : EG → EV → EV → Nat × Nat := fun _ _ _ => (0, 4294967295)
/-- behind '& m', m a number of 0 and above -/
def zo_bnd : EG → EV → EV → Nat × Nat := fun _ _ v2 => match v2 with
  | .inl (.inl m) => cond (Nat.ble m 2147483647) (2147483648, Nat.add 2147483648 m) (0, 4294967295)
  | _ => (0, 4294967295)
/-- an interval of an int -/
def zo_iv (g : EG) (v : EV) : Nat × Nat := match v with
  | .inl (.inl n) => (ze_z n, ze_z n)
  | .inl (.inr i) => g.getD i (0, 4294967295)
  | _ => (0, 4294967295)
/-- behind '% m', m a number above 0 -/
def zo_brem : EG → EV → EV → Nat × Nat := fun g v1 v2 => match v2 with
  | .inl (.inl m) => cond (cond (Nat.ble 1 m) (Nat.ble m 1073741824) false) (cond (Nat.ble 2147483648 (zo_iv g v1).1) (2147483648, Nat.pred (Nat.add 2147483648 m)) (0, 4294967295)) (0, 4294967295)
  | _ => (0, 4294967295)
/-- behind '>>> k' -/
def zo_bush : EG → EV → EV → Nat × Nat := fun _ _ v2 => match v2 with
  | .inl (.inl k) => cond (Nat.beq k 16) (2147483648, 2147549183) (0, 4294967295)
  | _ => (0, 4294967295)
/-- x - m -/
def zo_bsub : EG → EV → EV → Nat × Nat := fun g v1 v2 => match v2 with
  | .inl (.inl m) => cond (cond (Nat.ble m 1073741824) (Nat.ble m (zo_iv g v1).1) false) (Nat.sub (zo_iv g v1).1 m, Nat.sub (zo_iv g v1).2 m) (0, 4294967295)
  | _ => (0, 4294967295)
/-- 0 >> anything -/
def zo_bshr : EG → EV → EV → Nat × Nat := fun _ v1 _ => match v1 with
  | .inl (.inl 0) => (2147483648, 2147483648)
  | _ => (0, 4294967295)
def zo_c2 (f : Int32 → Int32 → Int32) (a b : Nat) : Nat := ze_e (f (nI a) (nI b))
noncomputable def zo_iadd : EOp := zo_bin (fun a b => Nat.mod (Nat.add a b) 4294967296) zo_top
noncomputable def zo_isub : EOp := zo_bin (fun a b => Nat.mod (Nat.add a (Nat.sub 4294967296 (Nat.mod b 4294967296))) 4294967296) zo_bsub
noncomputable def zo_imul : EOp := zo_bin (fun a b => Nat.mod (Nat.mul a b) 4294967296) zo_top
noncomputable def zo_iand : EOp := zo_bin (zo_c2 (fun x y => x &&& y)) zo_bnd
noncomputable def zo_ior : EOp := zo_bin (zo_c2 (fun x y => x ||| y)) zo_top
noncomputable def zo_ixor : EOp := zo_bin (zo_c2 (fun x y => x ^^^ y)) zo_top
noncomputable def zo_ishl : EOp := zo_bin (zo_c2 (fun x y => x <<< (y &&& 31))) zo_top
noncomputable def zo_ishr : EOp := zo_bin (zo_c2 (fun x y => x >>> (y &&& 31))) zo_bshr
noncomputable def zo_iushr : EOp := zo_bin (zo_c2 (fun x y => (x.toUInt32 >>> (y.toUInt32 &&& Int32.toUInt32 31)).toInt32)) zo_bush
/-- a divisor that is a number and not 0 -/
noncomputable def zo_dv (op : EOp) : EOp := fun nx a b c tl jp kk k cal mc ms ls st w g nc ns => match st with
  | v2 :: rest => ze_rs g v2 (fun y => cond (Nat.beq (Nat.mod y 4294967296) 0) false (op nx a b c tl jp kk k cal mc ms ls (v2 :: rest) w g nc ns)) (fun _ => false)
  | _ => false
noncomputable def zo_idiv : EOp := zo_dv (zo_bin (zo_c2 (fun x y => x / y)) zo_top)
noncomputable def zo_irem : EOp := zo_dv (zo_bin (zo_c2 (fun x y => x - x / y * y)) zo_brem)
noncomputable def zo_un (fc : Nat → Nat) (lo hi : Nat) : EOp := fun nx _ _ _ _ jp kk _ _ _ _ ls st w g nc ns => zl_ st (fun v1 rest => ze_rs g v1 (fun x => ze_f (fc x) (fun r => kk nx ls (eC r :: rest) w g nc ns)) (fun _ => zo_fr lo hi nx kk ls rest w g nc ns))
def zo_c1 (f : Int32 → Int32) (a : Nat) : Nat := ze_e (f (nI a))
noncomputable def zo_ineg : EOp := zo_un (zo_c1 (fun x => -x)) 0 4294967295
noncomputable def zo_i2b : EOp := zo_un (zo_c1 (fun x => x.toInt8.toInt32)) 0 4294967295
noncomputable def zo_i2s : EOp := zo_un (zo_c1 (fun x => x.toInt16.toInt32)) 0 4294967295
noncomputable def zo_i2c : EOp := zo_un (zo_c1 (fun x => (x.toUInt32 % 65536).toInt32)) 0 4294967295
/-- longs are numbers only -/
noncomputable def zo_lb (f : Int64 → Int64 → Int64) : EOp := fun nx _ _ _ _ jp kk _ _ _ _ ls st w g nc ns => match st with
  | .inr (.inl (.inr (.inl y))) :: .inr (.inl (.inr (.inl x))) :: rest => ze_f (ze_el (f (lN x) (lN y))) (fun r => kk nx ls (eL r :: rest) w g nc ns)
  | _ => false
noncomputable def zo_ldv (op : EOp) : EOp := fun nx a b c tl jp kk k cal mc ms ls st w g nc ns => match st with
  | .inr (.inl (.inr (.inl y))) :: rest => cond (Nat.beq (Nat.mod y 18446744073709551616) 0) false (op nx a b c tl jp kk k cal mc ms ls (.inr (.inl (.inr (.inl y))) :: rest) w g nc ns)
  | _ => false
noncomputable def zo_ladd : EOp := zo_lb (fun x y => x + y)
noncomputable def zo_lsub : EOp := zo_lb (fun x y => x - y)
noncomputable def zo_lmul : EOp := zo_lb (fun x y => x * y)
noncomputable def zo_land : EOp := zo_lb (fun x y => x &&& y)
noncomputable def zo_lor : EOp := zo_lb (fun x y => x ||| y)
noncomputable def zo_ldiv : EOp := zo_ldv (zo_lb (fun x y => x / y))
noncomputable def zo_lrem : EOp := zo_ldv (zo_lb (fun x y => x - x / y * y))
noncomputable def zo_lsf (f : Int64 → Int32 → Int64) : EOp := fun nx _ _ _ _ jp kk _ _ _ _ ls st w g nc ns => match st with
  | .inl (.inl y) :: .inr (.inl (.inr (.inl x))) :: rest => ze_f (ze_el (f (lN x) (nI y))) (fun r => kk nx ls (eL r :: rest) w g nc ns)
  | _ => false
noncomputable def zo_lshl : EOp := zo_lsf (fun x y => x <<< (y.toInt64 &&& 63))
noncomputable def zo_lshr : EOp := zo_lsf (fun x y => x >>> (y.toInt64 &&& 63))
noncomputable def zo_i2l : EOp := fun nx _ _ _ _ jp kk _ _ _ _ ls st w g nc ns => zl_ st (fun v rest => ze_rs g v (fun x => ze_f (ze_el (nI x).toInt64) (fun r => kk nx ls (eL r :: rest) w g nc ns)) (fun i => kk nx ls (eLU i :: rest) w g nc ns))
noncomputable def zo_l2i : EOp := fun nx _ _ _ _ jp kk _ _ _ _ ls st w g nc ns => match st with
  | .inr (.inl (.inr (.inl x))) :: rest => ze_f (ze_e (lN x).toInt32) (fun r => kk nx ls (eC r :: rest) w g nc ns)
  | _ => false
/-- constants: a -/
def zo_cst : EOp := fun nx a _ _ _ jp kk _ _ _ _ ls st w g nc ns => kk nx ls (eC a :: st) w g nc ns
def zo_lcst : EOp := fun nx a _ _ _ jp kk _ _ _ _ ls st w g nc ns => kk nx ls (eL a :: st) w g nc ns
def zo_null : EOp := fun nx _ _ _ _ jp kk _ _ _ _ ls st w g nc ns => kk nx ls (eX 0 :: st) w g nc ns
/-- locals: a -/
noncomputable def zo_iload : EOp := fun nx a _ _ _ jp kk _ _ _ _ ls st w g nc ns => ze_n ls a (fun v => zv_i v (fun u => kk nx ls (.inl u :: st) w g nc ns))
noncomputable def zo_lload : EOp := fun nx a _ _ _ jp kk _ _ _ _ ls st w g nc ns => ze_n ls a (fun v => zv_l v (fun u => kk nx ls (.inr (.inl (.inr u)) :: st) w g nc ns))
noncomputable def zo_aload : EOp := fun nx a _ _ _ jp kk _ _ _ _ ls st w g nc ns => ze_n ls a (fun v => zv_ v (fun _ => false) (fun u => kk nx ls (.inr (.inl (.inl u)) :: st) w g nc ns) (fun _ => false) (fun u => cond (Nat.beq u 1) false (kk nx ls (.inr (.inr u) :: st) w g nc ns)))
noncomputable def ze_cl (u : EV) : EV := Sum.rec (motive := fun _ => EV) (fun q => .inl q) (fun u => Sum.rec (motive := fun _ => EV) (fun z => Sum.rec (motive := fun _ => EV) (fun q => .inr (.inl (.inl q))) (fun _ => eX 1) z) (fun q => .inr (.inr q)) u) u
noncomputable def ze_st (v : EV) (ls : List EV) (i : Nat) : List EV := Nat.rec (motive := fun _ => List EV) (ze_s v ls 0) (fun j _ => ze_s v (ze_m ze_cl ls j) (Nat.succ j)) i
noncomputable def zo_istore : EOp := fun nx a _ _ _ jp kk _ _ _ _ ls st w g nc ns => zl_ st (fun v rest => zv_i v (fun u => kk nx (ze_st (.inl u) ls a) rest w g nc ns))
noncomputable def zo_astore : EOp := fun nx a _ _ _ jp kk _ _ _ _ ls st w g nc ns => zl_ st (fun v rest => zv_ v (fun _ => false) (fun u => kk nx (ze_st (.inr (.inl (.inl u))) ls a) rest w g nc ns) (fun _ => false) (fun u => cond (Nat.beq u 1) false (kk nx (ze_st (.inr (.inr u)) ls a) rest w g nc ns)))
noncomputable def zo_lstore : EOp := fun nx a _ _ _ jp kk _ _ _ _ ls st w g nc ns => zl_ st (fun v rest => zv_l v (fun u => kk nx (ze_s (eX 1) (ze_st (.inr (.inl (.inr u))) ls a) (Nat.succ a)) rest w g nc ns))
noncomputable def zo_iinc : EOp := fun nx a b _ _ jp kk _ _ _ _ ls st w g nc ns => ze_n ls a (fun v => ze_rs g v (fun x => ze_f (Nat.mod (Nat.add x b) 4294967296) (fun r => kk nx (ze_st (eC r) ls a) st w g nc ns))
    (fun _ => ze_f g.length (fun i => kk nx (ze_st (eU i) ls a) st w (g ++ [(0, 4294967295)]) nc ns)))
/-- the stack -/
noncomputable def ze_ct (v : EV) : Nat := Sum.rec (motive := fun _ => Nat) (fun _ => 1) (fun u => Sum.rec (motive := fun _ => Nat) (fun z => Sum.rec (motive := fun _ => Nat) (fun _ => 1) (fun _ => 2) z) (fun _ => 1) u) v
noncomputable def zo_dup : EOp := fun nx _ _ _ _ jp kk _ _ _ _ ls st w g nc ns => zl_ st (fun v rest => cond (Nat.beq (ze_ct v) 1) (kk nx ls (v :: v :: rest) w g nc ns) false)
noncomputable def zo_pop : EOp := fun nx _ _ _ _ jp kk _ _ _ _ ls st w g nc ns => zl_ st (fun v rest => cond (Nat.beq (ze_ct v) 1) (kk nx ls rest w g nc ns) false)
noncomputable def zo_dup_x1 : EOp := fun nx _ _ _ _ jp kk _ _ _ _ ls st w g nc ns => match st with
  | v :: u :: rest => cond (Nat.beq (ze_ct v) 1) (cond (Nat.beq (ze_ct u) 1) (kk nx ls (v :: u :: v :: rest) w g nc ns) false) false
  | _ => false
noncomputable def zo_dup_x2 : EOp := fun nx _ _ _ _ jp kk _ _ _ _ ls st w g nc ns => match st with
  | v :: u :: z :: rest => cond (Nat.beq (ze_ct v) 1) (cond (Nat.beq (ze_ct u) 1) (cond (Nat.beq (ze_ct z) 1) (kk nx ls (v :: u :: z :: v :: rest) w g nc ns) false) false) false
  | _ => false
noncomputable def zo_dup2 : EOp := fun nx _ _ _ _ jp kk _ _ _ _ ls st w g nc ns => match st with
  | v :: u :: rest => cond (Nat.beq (ze_ct v) 1) (cond (Nat.beq (ze_ct u) 1) (kk nx ls (v :: u :: v :: u :: rest) w g nc ns) false) false
  | _ => false
/-- branches: a is the target's row -/
noncomputable def zo_b2 (f : EG → EV → EV → (EG → Bool) → (EG → Bool) → Bool) : EOp := fun nx a _ _ _ jp kk _ _ _ _ ls st w g nc ns => zl_ st (fun v2 t => zl_ t (fun v1 rest => f g v1 v2 (fun g => jp a (fun cs => kk cs ls rest w g nc ns)) (fun g => kk nx ls rest w g nc ns)))
noncomputable def zo_b1 (f : EG → EV → EV → (EG → Bool) → (EG → Bool) → Bool) : EOp := fun nx a _ _ _ jp kk _ _ _ _ ls st w g nc ns => zl_ st (fun v1 rest => f g v1 (eC 0) (fun g => jp a (fun cs => kk cs ls rest w g nc ns)) (fun g => kk nx ls rest w g nc ns))
noncomputable def zc_eq : EG → EV → EV → (EG → Bool) → (EG → Bool) → Bool := fun g x y t f => ze_eq g x y t f
noncomputable def zc_ne : EG → EV → EV → (EG → Bool) → (EG → Bool) → Bool := fun g x y t f => ze_eq g x y f t
noncomputable def zc_lt : EG → EV → EV → (EG → Bool) → (EG → Bool) → Bool := fun g x y t f => ze_lt g x y t f
noncomputable def zc_ge : EG → EV → EV → (EG → Bool) → (EG → Bool) → Bool := fun g x y t f => ze_lt g x y f t
noncomputable def zc_gt : EG → EV → EV → (EG → Bool) → (EG → Bool) → Bool := fun g x y t f => ze_lt g y x t f
noncomputable def zc_le : EG → EV → EV → (EG → Bool) → (EG → Bool) → Bool := fun g x y t f => ze_lt g y x f t
noncomputable def zo_if (c : Jvm.ClassFile.Cond) : EOp := Jvm.ClassFile.Cond.rec (motive := fun _ => EOp) (zo_b1 zc_eq) (zo_b1 zc_ne) (zo_b1 zc_lt) (zo_b1 zc_ge) (zo_b1 zc_gt) (zo_b1 zc_le) c
noncomputable def zo_icmp (c : Jvm.ClassFile.Cond) : EOp := Jvm.ClassFile.Cond.rec (motive := fun _ => EOp) (zo_b2 zc_eq) (zo_b2 zc_ne) (zo_b2 zc_lt) (zo_b2 zc_ge) (zo_b2 zc_gt) (zo_b2 zc_le) c
def zo_goto : EOp := fun _ a _ _ _ jp kk _ _ _ _ ls st w g nc ns => jp a (fun cs => kk cs ls st w g nc ns)
def zo_ifnull : EOp := fun nx a _ _ _ jp kk _ _ _ _ ls st w g nc ns => match st with
  | .inr (.inl (.inl _)) :: rest => kk nx ls rest w g nc ns
  | .inr (.inr 0) :: rest => jp a (fun cs => kk cs ls rest w g nc ns)
  | _ => false
def zo_ifnonnull : EOp := fun nx a _ _ _ jp kk _ _ _ _ ls st w g nc ns => match st with
  | .inr (.inl (.inl _)) :: rest => jp a (fun cs => kk cs ls rest w g nc ns)
  | .inr (.inr 0) :: rest => kk nx ls rest w g nc ns
  | _ => false
/-- switches: a: row of the default; list: numbers (with 2^31 added) and rows, one behind the other -/
noncomputable def ze_tg (z a : Nat) (tl : List Nat) : Bool → Nat → Nat := List.rec (motive := fun _ => Bool → Nat → Nat) (fun _ _ => a) (fun t _ ih odd m => cond odd (cond (Nat.beq m z) t (ih false 0)) (ih true t)) tl
noncomputable def zo_swu (i a : Nat) (tl : List Nat) (go : Nat → EG → Bool) : Bool → Nat → EG → Bool := List.rec (motive := fun _ => Bool → Nat → EG → Bool) (fun _ _ g => go a g) (fun t _ ih odd m g => cond odd (ze_eu g i m (fun g => go t g) (fun g => ih false 0 g)) (ih true t g)) tl
noncomputable def zo_sw : EOp := fun _ a _ _ tl jp kk _ _ _ _ ls st w g nc ns => zl_ st (fun v rest => ze_rs g v (fun x => ze_f (ze_tg (ze_z x) a tl false 0) (fun t => jp t (fun cs => kk cs ls rest w g nc ns))) (fun i => zo_swu i a tl (fun t g => jp t (fun cs => kk cs ls rest w g nc ns)) false 0 g))
/-- fields: a class, b place, c type (0 int, 1 boolean, 2 reference, 3 long) -/
noncomputable def zo_getf_m : EOp := fun nx a b _ _ jp kk _ _ _ _ ls st w g nc ns => match st with
  | .inr (.inl (.inl q)) :: rest => ze_g w q (fun c => cond (Nat.beq c.1 a) (ze_n c.2 b (fun v => kk nx ls (v :: rest) w g nc ns)) false)
  | _ => false
noncomputable def zo_getf : EOp := fun nx a b _ _ jp kk _ _ _ _ ls st w g nc ns => zl_ st (fun v rest => zv_r v (fun q => ze_g w q (fun c => cond (Nat.beq c.1 a) (ze_n c.2 b (fun v => kk nx ls (v :: rest) w g nc ns)) false)))
theorem zo_getf_eq : zo_getf = zo_getf_m := by
  funext nx a b c tl jp kk k cal mc ms ls st w g nc ns
  rcases st with _ | ⟨v, r⟩
  · rfl
  · rcases v with (n | i) | ((q | (l | u)) | x) <;> rfl
noncomputable def ze_tc (t : Nat) (v : EV) : Bool := Nat.rec (motive := fun _ => Bool) (zv_i v (fun _ => true)) (fun t _ => Nat.rec (motive := fun _ => Bool) (zv_c v (fun n => Nat.ble n 1)) (fun t _ => Nat.rec (motive := fun _ => Bool) (zv_ v (fun _ => false) (fun _ => true) (fun _ => false) (fun k => Nat.rec (motive := fun _ => Bool) true (fun _ _ => false) k))
  (fun t _ => Nat.rec (motive := fun _ => Bool) (zv_l v (fun _ => true)) (fun t _ => Nat.rec (motive := fun _ => Bool) (zv_c v (fun n => Nat.ble n 65535)) (fun _ _ => false) t) t) t) t) t
noncomputable def zo_putf_m : EOp := fun nx a b c _ jp kk _ _ _ _ ls st w g nc ns => match st with
  | v :: .inr (.inl (.inl q)) :: rest => cond (ze_tc c v) (ze_g w q (fun e => cond (Nat.beq e.1 a) (ze_n e.2 b (fun _ => kk nx ls rest (ze_ws w q (a, ze_s v e.2 b)) g nc ns)) false)) false
  | _ => false
noncomputable def zo_putf : EOp := fun nx a b c _ jp kk _ _ _ _ ls st w g nc ns => zl_ st (fun v t => zl_ t (fun r rest => zv_r r (fun q => cond (ze_tc c v) (ze_g w q (fun e => cond (Nat.beq e.1 a) (ze_n e.2 b (fun _ => kk nx ls rest (ze_ws w q (a, ze_s v e.2 b)) g nc ns)) false)) false)))
theorem zo_putf_eq : zo_putf = zo_putf_m := by
  funext nx a b c tl jp kk k cal mc ms ls st w g nc ns
  rcases st with _ | ⟨v, r⟩
  · rfl
  · rcases r with _ | ⟨v2, r⟩
    · rcases v with (n | i) | ((q | (l | u)) | x) <;> rfl
    · rcases v with (n | i) | ((q | (l | u)) | x) <;> rcases v2 with (n2 | i2) | ((q2 | (l2 | u2)) | x2) <;> rfl
/-- arrays of a kind -/
noncomputable def zo_ald_m (kd : Nat) : EOp := fun nx _ _ _ _ jp kk _ _ _ _ ls st w g nc ns => match st with
  | i :: .inr (.inl (.inl q)) :: rest => ze_ix g i (fun n g => cond (Nat.ble n 1073741824) (ze_g w q (fun c => cond (Nat.beq c.1 kd) (ze_n c.2 n (fun v => kk nx ls (v :: rest) w g nc ns)) false)) false)
  | _ => false
noncomputable def zo_ald (kd : Nat) : EOp := fun nx _ _ _ _ jp kk _ _ _ _ ls st w g nc ns => zl_ st (fun i t => zl_ t (fun r rest => zv_r r (fun q => ze_ix g i (fun n g => cond (Nat.ble n 1073741824) (ze_g w q (fun c => cond (Nat.beq c.1 kd) (ze_n c.2 n (fun v => kk nx ls (v :: rest) w g nc ns)) false)) false))))
theorem zo_ald_eq (kd : Nat) : zo_ald kd = zo_ald_m kd := by
  funext nx a b c tl jp kk k cal mc ms ls st w g nc ns
  rcases st with _ | ⟨v, r⟩
  · rfl
  · rcases r with _ | ⟨v2, r⟩
    · rcases v with (n | i) | ((q | (l | u)) | x) <;> rfl
    · rcases v with (n | i) | ((q | (l | u)) | x) <;> rcases v2 with (n2 | i2) | ((q2 | (l2 | u2)) | x2) <;> rfl
/-- the script, at place 2 of the special ones: its numbers are the first unknowns; it has b of them -/
noncomputable def zo_iald : EOp := fun nx a b c tl jp kk k cal mc ms ls st w g nc ns => match st with
  | .inl (.inl n) :: .inr (.inr s) :: rest => cond (Nat.beq s 2) (cond (Nat.ble (Nat.succ n) 5) (ze_n g 5 (fun q => cond (Nat.ble (Nat.add n 2147483649) q.1) (kk nx ls (eU n :: rest) w g nc ns) false)) false) false
  | st => zo_ald 100 nx a b c tl jp kk k cal mc ms ls st w g nc ns
/-- is a class one that arrays are made of -/
noncomputable def ze_mem (n : Nat) (l : List Nat) : Bool := List.rec (motive := fun _ => Bool) false (fun a _ ih => cond (Nat.beq a n) true ih) l
noncomputable def zo_aald_m : EOp := fun nx _ _ _ _ jp kk _ _ _ _ ls st w g nc ns => match st with
  | i :: .inr (.inl (.inl q)) :: rest => ze_ix g i (fun n g => cond (Nat.ble n 1073741824) (ze_g w q (fun c => cond (Nat.ble 200 c.1) (cond (ze_mem (Nat.sub c.1 200) ze_rk) (ze_n c.2 n (fun v => kk nx ls (v :: rest) w g nc ns)) false) false)) false)
  | _ => false
noncomputable def zo_aald : EOp := fun nx _ _ _ _ jp kk _ _ _ _ ls st w g nc ns => zl_ st (fun i t => zl_ t (fun r rest => zv_r r (fun q => ze_ix g i (fun n g => cond (Nat.ble n 1073741824) (ze_g w q (fun c => cond (Nat.ble 200 c.1) (cond (ze_mem (Nat.sub c.1 200) ze_rk) (ze_n c.2 n (fun v => kk nx ls (v :: rest) w g nc ns)) false) false)) false))))
theorem zo_aald_eq : zo_aald = zo_aald_m := by
  funext nx a b c tl jp kk k cal mc ms ls st w g nc ns
  rcases st with _ | ⟨v, r⟩
  · rfl
  · rcases r with _ | ⟨v2, r⟩
    · rcases v with (n | i) | ((q | (l | u)) | x) <;> rfl
    · rcases v with (n | i) | ((q | (l | u)) | x) <;> rcases v2 with (n2 | i2) | ((q2 | (l2 | u2)) | x2) <;> rfl
noncomputable def zo_put (kd : Nat) (v i : EV) (q : Nat) (nx : List ECE) (kk : EKn) (ls rest : List EV) (w : EW) (g : EG) (nc ns : Nat) : Bool := ze_ix g i (fun n g => cond (Nat.ble n 1073741824) (ze_g w q (fun c => cond (Nat.beq c.1 kd) (ze_n c.2 n (fun _ => kk nx ls rest (ze_ws w q (kd, ze_s v c.2 n)) g nc ns)) false)) false)
noncomputable def zo_iast_m : EOp := fun nx _ _ _ _ jp kk _ _ _ _ ls st w g nc ns => match st with
  | .inl u :: i :: .inr (.inl (.inl q)) :: rest => zo_put 100 (.inl u) i q nx kk ls rest w g nc ns
  | _ => false
noncomputable def zo_iast : EOp := fun nx _ _ _ _ jp kk _ _ _ _ ls st w g nc ns => zl_ st (fun v t => zl_ t (fun i t => zl_ t (fun r rest => zv_r r (fun q => zv_i v (fun u => zo_put 100 (.inl u) i q nx kk ls rest w g nc ns)))))
theorem zo_iast_eq : zo_iast = zo_iast_m := by
  funext nx a b c tl jp kk k cal mc ms ls st w g nc ns
  rcases st with _ | ⟨v, r⟩
  · rfl
  · rcases r with _ | ⟨v2, r⟩
    · rcases v with (n | i) | ((q | (l | u)) | x) <;> rfl
    · rcases r with _ | ⟨v3, r⟩
      · rcases v with (n | i) | ((q | (l | u)) | x) <;> rcases v2 with (n2 | i2) | ((q2 | (l2 | u2)) | x2) <;> rfl
      · rcases v with (n | i) | ((q | (l | u)) | x) <;> rcases v2 with (n2 | i2) | ((q2 | (l2 | u2)) | x2) <;> rcases v3 with (n3 | i3) | ((q3 | (l3 | u3)) | x3) <;> rfl
noncomputable def zo_cast : EOp := fun nx _ _ _ _ jp kk _ _ _ _ ls st w g nc ns => match st with
  | .inl (.inl u) :: i :: .inr (.inl (.inl q)) :: rest => cond (Nat.ble u 65535) (zo_put 101 (.inl (.inl u)) i q nx kk ls rest w g nc ns) false
  | .inl (.inr _) :: i :: .inr (.inl (.inl q)) :: rest => ze_f g.length (fun z => zo_put 101 (eU z) i q nx kk ls rest w (g ++ [(0, 4294967295)]) nc ns)
  | _ => false
noncomputable def zo_bast : EOp := fun nx _ _ _ _ jp kk _ _ _ _ ls st w g nc ns => match st with
  | .inl (.inl u) :: i :: .inr (.inl (.inl q)) :: rest => cond (Nat.ble u 1) (zo_put 104 (.inl (.inl u)) i q nx kk ls rest w g nc ns) false
  | _ => false
noncomputable def zo_last : EOp := fun nx _ _ _ _ jp kk _ _ _ _ ls st w g nc ns => match st with
  | .inr (.inl (.inr u)) :: i :: .inr (.inl (.inl q)) :: rest => zo_put 150 (.inr (.inl (.inr u))) i q nx kk ls rest w g nc ns
  | _ => false
/-- an array of objects of class kd - 200 -/
noncomputable def zo_aast : EOp := fun nx _ _ _ _ jp kk _ _ _ _ ls st w g nc ns => match st with
  | .inr (.inl (.inl u)) :: i :: .inr (.inl (.inl q)) :: rest => ze_g w u (fun o => cond (ze_mem o.1 ze_rk) (zo_put (Nat.add 200 o.1) (.inr (.inl (.inl u))) i q nx kk ls rest w g nc ns) false)
  | _ => false
noncomputable def zo_alen : EOp := fun nx _ _ _ _ jp kk _ _ _ _ ls st w g nc ns => match st with
  | .inr (.inl (.inl q)) :: rest => ze_g w q (fun c => cond (ze_mem c.1 ze_ka) (ze_f c.2.length (fun n => kk nx ls (eC n :: rest) w g nc ns)) false)
  | .inr (.inr s) :: rest => cond (Nat.beq s 2) (kk nx ls (eU 5 :: rest) w g nc ns) false
  | _ => false
/-- a new array: a its kind, b the default (0: 0, 1: 0L, 2: null) -/
def ze_df (t : Nat) : EV := match t with
  | 2 => eX 0
  | 3 => eL 0
  | _ => eC 0
noncomputable def zo_mk (w : EW) (c : EC) (n : Nat) (nx : List ECE) (mc ms : Nat) (kk : EKn) (ls rest : List EV) (g : EG) (nc ns : Nat) : Bool := cond (Nat.ble (Nat.succ nc) mc) (cond (Nat.ble (Nat.add ns n) ms) (ze_wp w c (fun w2 => kk nx ls (eR w.1 :: rest) w2 g (Nat.succ nc) (Nat.add ns n))) false) false
noncomputable def zo_newa : EOp := fun nx a b _ _ jp kk _ _ mc ms ls st w g nc ns => match st with
  | .inl (.inl n) :: rest => cond (Nat.ble n 1048576) (zo_mk w (a, List.replicate n (ze_df b)) n nx mc ms kk ls rest g nc ns) false
  | _ => false
/-- a new object: a its class, list: the types of its fields -/
noncomputable def zo_new : EOp := fun nx a _ _ tl jp kk _ _ mc ms ls st w g nc ns => ze_f tl.length (fun n => zo_mk w (a, tl.map ze_df) n nx mc ms kk ls st g nc ns)
/-- a call: a method, b arguments (this too), c 0: no 'this', else 1 and its class; list: cells and slots that it makes -/
noncomputable def ze_cs (l : List EV) : Nat := List.rec (motive := fun _ => Nat) 0 (fun v _ ih => Nat.add (ze_ct v) ih) l
noncomputable def ze_tk (n : Nat) (st acc : List EV) (f : List EV → List EV → Bool) : Bool := Nat.rec (motive := fun _ => List EV → List EV → Bool) (fun st acc => f acc st) (fun _ ih st acc => zl_ st (fun v r => ih r (v :: acc))) n st acc
noncomputable def ze_pu (r : Option EV) (rest : List EV) : List EV := Option.rec (motive := fun _ => List EV) rest (fun v => v :: rest) r
noncomputable def ze_rc (w : EW) (c : Nat) (av : List EV) : Bool := Nat.rec (motive := fun _ => Bool) true (fun ci _ => zl_ av (fun v _ => zv_r v (fun q => ze_g w q (fun e => Nat.beq e.1 ci)))) c
theorem ze_rc_eq (w : EW) (ci : Nat) (av : List EV) : ze_rc w (ci + 1) av = (match av with
      | .inr (.inl (.inl q)) :: _ => ze_g w q (fun e => Nat.beq e.1 ci)
      | _ => false) := by
  rcases av with _ | ⟨v, r⟩
  · rfl
  · rcases v with (n | i) | ((q | (l | u)) | x) <;> rfl
/-- cells and slots of a call, or what goes without -/
noncomputable def zl_2 (tl : List Nat) (f : Nat → Nat → Bool) (d : Bool) : Bool := List.rec (motive := fun _ => Bool) d (fun a r _ => List.rec (motive := fun _ => Bool) false (fun b _ _ => f a b) r) tl
noncomputable def zo_call (a b c cy sy : Nat) : EOp := fun nx _ _ _ _ jp kk _ cal mc ms ls st w g nc ns => ze_tk b st [] (fun av rest => cond (ze_rc w c av) (cond (Nat.ble (ze_cs rest) 8) (cond (Nat.ble (Nat.add nc cy) mc) (cond (Nat.ble (Nat.add ns sy) ms)
    (cal a av w g (fun r w g => kk nx ls (ze_pu r rest) w g (Nat.add nc cy) (Nat.add ns sy))) false) false) false) false)
noncomputable def zo_inv : EOp := fun nx a b c tl jp kk k cal mc ms ls st w g nc ns => zl_2 tl (fun cy sy => zo_call a b c cy sy nx a b c tl jp kk k cal mc ms ls st w g nc ns) false
/-- the receiver, below so many arguments, is a reference -/
noncomputable def ze_rr (n : Nat) : List EV → Bool := Nat.rec (motive := fun _ => List EV → Bool) (fun st => zl_ st (fun v _ => zv_r v (fun _ => true))) (fun _ ih st => zl_ st (fun _ r => ih r)) n
noncomputable def zo_spec : EOp := fun nx a b c tl jp kk k cal mc ms ls st w g nc ns => zl_2 tl (fun cy sy => cond (ze_rr (Nat.pred b) st) (zo_call a b c cy sy nx a b c tl jp kk k cal mc ms ls st w g nc ns) false) (zl_ st (fun v rest => zv_r v (fun _ => cond (Nat.ble (ze_cs rest) 8) (kk nx ls rest w g nc ns) false)))
/-- n of the list s from i on over the list d from j on -/
noncomputable def ze_cp (s d : List EV) (i j n : Nat) (f : List EV → Bool) : Bool := Nat.rec (motive := fun _ => List EV → Nat → Nat → Bool) (fun d _ _ => f d) (fun _ ih d i j => ze_n s i (fun v => ze_n d j (fun _ => ih (ze_s v d j) (Nat.succ i) (Nat.succ j)))) n d i j
noncomputable def zo_copy : EOp := fun nx _ _ _ _ jp kk _ _ _ _ ls st w g nc ns => match st with
    | .inl (.inl n) :: .inl (.inl dp) :: .inr (.inl (.inl d)) :: .inl (.inl p0) :: .inr (.inl (.inl s)) :: rest =>
      cond (cond (Nat.ble 1 n) (Nat.ble n 1048576) false) (cond (Nat.ble dp 1048576) (cond (Nat.ble p0 1048576) (cond (Nat.ble (ze_cs rest) 8) (ze_g w s (fun cs => cond (Nat.beq cs.1 100) (ze_g w d (fun cd => cond (Nat.beq cd.1 100) (ze_cp cs.2 cd.2 p0 dp n (fun l => kk nx ls rest (ze_ws w d (100, l)) g nc ns)) false)) false)) false) false) false) false
    | _ => false
noncomputable def zo_mm : EOp := fun nx a _ _ _ jp kk _ _ mc ms ls st w g nc ns => zl_ st (fun y t => zl_ t (fun x rest => cond (Nat.ble (ze_cs rest) 8) (cond (Nat.ble nc mc) (cond (Nat.ble ns ms) (Nat.rec (motive := fun _ => Bool) (ze_lt g x y (fun g => kk nx ls (y :: rest) w g nc ns) (fun g => kk nx ls (x :: rest) w g nc ns)) (fun _ _ => ze_lt g y x (fun g => kk nx ls (y :: rest) w g nc ns) (fun g => kk nx ls (x :: rest) w g nc ns)) a) false) false) false))
noncomputable def zo_stat : EOp := fun nx a b c tl jp kk k cal mc ms ls st w g nc ns => List.rec (motive := fun _ => Bool) (zo_copy nx a b c tl jp kk k cal mc ms ls st w g nc ns) (fun cy r _ => List.rec (motive := fun _ => Bool) (zo_mm nx a b c tl jp kk k cal mc ms ls st w g nc ns) (fun sy _ _ => zo_call a b c cy sy nx a b c tl jp kk k cal mc ms ls st w g nc ns) r) tl
/-- ends -/
def ze_end (nc ns mc ms : Nat) (x : Bool) : Bool := cond (Nat.ble nc mc) (cond (Nat.ble ns ms) x false) false
noncomputable def zo_ireturn : EOp := fun _ a _ _ _ _ _ k _ mc ms _ st w g nc ns => zl_ st (fun v r => zl_0 r (zv_i v (fun u => cond (ze_tc a (.inl u)) (ze_end nc ns mc ms (k (some (.inl u)) w g)) false)))
noncomputable def zo_lreturn : EOp := fun _ _ _ _ _ _ _ k _ mc ms _ st w g nc ns => zl_ st (fun v r => zl_0 r (zv_l v (fun u => ze_end nc ns mc ms (k (some (.inr (.inl (.inr u)))) w g))))
noncomputable def zo_areturn : EOp := fun _ _ _ _ _ _ _ k _ mc ms _ st w g nc ns => zl_ st (fun v r => zl_0 r (zv_r v (fun u => ze_end nc ns mc ms (k (some (.inr (.inl (.inl u)))) w g))))
noncomputable def zo_return : EOp := fun _ _ _ _ _ _ _ k _ mc ms _ st w g nc ns => zl_0 st (ze_end nc ns mc ms (k none w g))
/-- a long that is an int: as an int -/
def ze_lr (n : Nat) : Bool := Nat.ble (Nat.mod (Nat.add n 2147483648) 18446744073709551616) 4294967295
theorem ze_lr_eq {n : Nat} (h : ze_lr n = true) : (n + 2147483648) % 18446744073709551616 ≤ 4294967295 := Nat.le_of_ble_eq_true h
def ze_l32 (n : Nat) : Nat := Nat.mod n 4294967296
theorem ze_l32_eq (n : Nat) : ze_l32 n = n % 4294967296 := rfl
noncomputable def ze_li (ck : Nat → Bool) (cv : Nat → Nat) (v : Nat ⊕ Nat) (f : EV → Bool) (d : Bool) : Bool := zv_s v (fun n => cond (ck n) (f (.inl (.inl (cv n)))) d) (fun i => f (.inl (.inr i)))
noncomputable def zo_lcc (x y : Nat ⊕ Nat) (nx : List ECE) (kk : EKn) (ls rest : List EV) (w : EW) (g : EG) (nc ns : Nat) : Bool := match x, y with
  | .inl x, .inl y => cond (decide (lN x < lN y)) (kk nx ls (eC 4294967295 :: rest) w g nc ns) (cond (decide (lN y < lN x)) (kk nx ls (eC 1 :: rest) w g nc ns) (kk nx ls (eC 0 :: rest) w g nc ns))
  | _, _ => false
noncomputable def zo_lcmp : EOp := fun nx _ _ _ _ jp kk _ _ _ _ ls st w g nc ns => match st with
  | .inr (.inl (.inr y)) :: .inr (.inl (.inr x)) :: rest => ze_li ze_lr ze_l32 x (fun x2 => ze_li ze_lr ze_l32 y (fun y2 => ze_lt g x2 y2 (fun g => kk nx ls (eC 4294967295 :: rest) w g nc ns) (fun g => ze_lt g y2 x2 (fun g => kk nx ls (eC 1 :: rest) w g nc ns) (fun g => kk nx ls (eC 0 :: rest) w g nc ns)))
      (zo_lcc x y nx kk ls rest w g nc ns)) (zo_lcc x y nx kk ls rest w g nc ns)
  | _ => false
end
section
/-- which op an instruction is -/
noncomputable def ze_do (i : Jvm.ClassFile.Instr) : EOp := Jvm.ClassFile.Instr.rec (motive := fun _ => EOp)
  zo_aald zo_aast zo_null (fun _ => zo_aload) (fun _ => zo_aload) (fun _ => zo_newa) zo_areturn zo_alen (fun _ => zo_astore) (fun _ => zo_astore) zo_no (zo_ald 104) zo_bast (fun _ => zo_cst) (zo_ald 101) zo_cast (fun _ => zo_no) zo_no zo_no zo_no zo_no zo_no zo_no (fun _ => zo_no) (fun _ => zo_no) zo_no (fun _ => zo_no) (fun _ => zo_no) zo_no zo_no zo_no zo_no (fun _ => zo_no) (fun _ => zo_no) zo_no zo_dup zo_dup_x1 zo_dup_x2 zo_dup2 zo_no zo_no zo_no zo_no zo_no zo_no zo_no zo_no (fun _ => zo_no) (fun _ => zo_no) zo_no (fun _ => zo_no) (fun _ => zo_no) zo_no zo_no zo_no zo_no (fun _ => zo_no) (fun _ => zo_no) zo_no (fun _ => zo_getf) (fun _ => zo_no) (fun _ => zo_goto) (fun _ => zo_no) zo_i2b zo_i2c zo_no zo_no zo_i2l zo_i2s zo_iadd zo_iald zo_iand zo_iast (fun _ => zo_cst) zo_idiv (fun _ _ => zo_no) (fun c _ => zo_icmp c) (fun c _ => zo_if c) (fun _ => zo_ifnonnull) (fun _ => zo_ifnull) (fun _ _ => zo_iinc) (fun _ => zo_iload) (fun _ => zo_iload) zo_imul zo_ineg (fun _ => zo_no) (fun _ => zo_no) (fun _ _ => zo_no) (fun _ => zo_spec) (fun _ => zo_stat) (fun _ => zo_inv) zo_ior zo_irem zo_ireturn zo_ishl zo_ishr (fun _ => zo_istore) (fun _ => zo_istore) zo_isub zo_iushr zo_ixor (fun _ => zo_no) (fun _ => zo_no) zo_no zo_no zo_l2i zo_ladd (zo_ald 150) zo_land zo_last zo_lcmp (fun _ => zo_lcst) (fun _ => zo_cst) (fun _ => zo_cst) (fun _ => zo_lcst) zo_ldiv (fun _ => zo_lload) (fun _ => zo_lload) zo_lmul zo_no (fun _ _ => zo_sw) zo_lor zo_lrem zo_lreturn zo_lshl zo_lshr (fun _ => zo_lstore) (fun _ => zo_lstore) zo_lsub zo_no zo_no zo_no zo_no (fun _ _ => zo_no) (fun _ => zo_new) (fun _ => zo_newa) zo_no zo_pop zo_no (fun _ => zo_putf) (fun _ => zo_no) (fun _ => zo_no) zo_return zo_no zo_no (fun _ => zo_cst) zo_no (fun _ _ _ _ => zo_sw) i
noncomputable def ze_loop (jp : EJp) (cal : ECal) (mc ms : Nat) (k : ERt) (n : Nat) : EKn := Nat.rec (motive := fun _ => EKn) (fun _ _ _ _ _ _ _ => false) (fun _ ih cs ls st w g nc ns => List.rec (motive := fun _ => Bool) false (fun e r _ => ze_do e.1 r e.2.2.1 e.2.2.2.1 e.2.2.2.2.1 e.2.2.2.2.2 jp ih k cal mc ms ls st w g nc ns) cs) n
/-- a jump: the rows from each sixteenth on, so many dropped -/
noncomputable def ze_dr (f : List ECE → Bool) (n : Nat) : List ECE → Bool := Nat.rec (motive := fun _ => List ECE → Bool) (fun cs => f cs) (fun _ ih cs => List.rec (motive := fun _ => Bool) false (fun _ r _ => ih r) cs) n
noncomputable def ze_jp (jt : List (List ECE)) : EJp := fun a f => ze_n jt (Nat.div a 16) (fun cs => ze_dr f (Nat.mod a 16) cs)
/-- locals at the start -/
noncomputable def ze_pad (n : Nat) : List EV := Nat.rec (motive := fun _ => List EV) [] (fun _ ih => eX 1 :: ih) n
noncomputable def ze_il (av : List EV) : Nat → List EV := List.rec (motive := fun _ => Nat → List EV) (fun n => ze_pad n) (fun v _ ih n => v :: (cond (Nat.beq (ze_ct v) 2) (eX 1 :: ih (Nat.sub n 2)) (ih (Nat.sub n 1)))) av
/-- a method: code, locals, cells and slots that it makes at most -/
abbrev EM : Type := List (List ECE) × Nat × Nat × Nat
noncomputable def ze_ex (pr : List (List EM)) (d : Nat) : ECal := Nat.rec (motive := fun _ => ECal) (fun _ _ _ _ _ => false) (fun _ ih y av w g k => ze_n pr (Nat.div y 16) (fun ch => ze_n ch (Nat.mod y 16) (fun m => cond (Nat.ble (ze_cs av) m.2.1) (ze_jp m.1 0 (fun cs => ze_loop (ze_jp m.1) ih m.2.2.1 m.2.2.2 k 1000000000 cs (ze_il av m.2.1) [] w g 0 0)) false))) d
end
section
/-! THE ENGINE, part 4: worlds and locals. 'vwCl': the classes (names); 'ze_arr': the kinds of arrays and their types; 'ze_nest': the links of nest mates; 'ze_ao': classes that arrays are made of. -/
def ze_K (dC : Nat → ClassId) (dI : Nat → Nat → Nat) (dA : Nat → ClassId) (U : State) : Prop :=
  (∀ (c : Nat) (q : vw_C), vwCl[c]? = some q → u_Kn U q.1 q.2.1 q.2.2 (dC c) (dI c)) ∧ (∀ (kd : Nat) (ty : FieldType), (kd, ty) ∈ ze_arr → ArrOfT U (dA kd) ty ∧ va_RA U (dA kd) ty) ∧ (∀ w ∈ ze_nest, va_Nw w U) ∧ ∀ C ∈ ze_ao, va_AO C U
theorem ze_K.k0 {dC : Nat → ClassId} {dI : Nat → Nat → Nat} {dA : Nat → ClassId} {U : State} (h : ze_K dC dI dA U) : va_K (dC, dI) vwCl [] U := ⟨h.1, fun k q hk => by simp at hk⟩
theorem ze_K.k1 {dC : Nat → ClassId} {dI : Nat → Nat → Nat} {dA : Nat → ClassId} {U : State} (h : ze_K dC dI dA U) {kd : Nat} {ty : FieldType} (hk : (kd, ty) ∈ ze_arr) : va_K (dC, dI) vwCl [(dA kd, ty)] U := by
  refine ⟨h.1, fun k q hq => ?_⟩
  cases k with
  | zero => simp at hq; subst hq; exact h.2.1 kd ty hk
  | succ k => simp at hq
/-- a cell -/
def ze_C (dA : Nat → ClassId) (sp : Nat → Nat) (ρ : List Int32) (ad : List Nat) (c : EC) (e : va_E) : Prop :=
  (c.1 < 100 ∧ ∃ fs, e = .inr (c.1, fs) ∧ ze_L sp ρ ad c.2 fs) ∨
  (100 ≤ c.1 ∧ c.1 < 150 ∧ ∃ f : Nat → Int32, e = .inl (dA c.1, c.2.length, .inl f) ∧ ∀ (j : Nat) (v : EV), c.2[j]? = some v → ze_V sp ρ ad v (.int (f j))) ∨
  (150 ≤ c.1 ∧ c.1 < 200 ∧ ∃ f : Nat → Int64, e = .inl (dA c.1, c.2.length, .inr (.inl f)) ∧ ∀ (j : Nat) (v : EV), c.2[j]? = some v → ze_V sp ρ ad v (.long (f j))) ∨
  (200 ≤ c.1 ∧ ∃ f : Nat → Option Nat, e = .inl (dA c.1, c.2.length, .inr (.inr (.inr (.inr f)))) ∧ ∀ (j : Nat) (v : EV), c.2[j]? = some v → ze_V sp ρ ad v (va_rf (f j)))
theorem ze_C.mono {dA : Nat → ClassId} {sp : Nat → Nat} {ρ ρ' : List Int32} {ad ad' : List Nat} (h1 : ρ <+: ρ') (h2 : ad <+: ad') {c : EC} {e : va_E} (h : ze_C dA sp ρ ad c e) : ze_C dA sp ρ' ad' c e := by
  rcases h with ⟨a, fs, b, q⟩ | ⟨a, a2, f, b, q⟩ | ⟨a, a2, f, b, q⟩ | ⟨a, f, b, q⟩
  · exact Or.inl ⟨a, fs, b, q.mono h1 h2⟩
  · exact Or.inr (Or.inl ⟨a, a2, f, b, fun j v hv => (q j v hv).mono h1 h2⟩)
  · exact Or.inr (Or.inr (Or.inl ⟨a, a2, f, b, fun j v hv => (q j v hv).mono h1 h2⟩))
  · exact Or.inr (Or.inr (Or.inr ⟨a, f, b, fun j v hv => (q j v hv).mono h1 h2⟩))
theorem ze_C.obj {dA : Nat → ClassId} {sp : Nat → Nat} {ρ : List Int32} {ad : List Nat} {c : EC} {e : va_E} (h : ze_C dA sp ρ ad c e) (hc : c.1 < 100) : ∃ fs, e = .inr (c.1, fs) ∧ ze_L sp ρ ad c.2 fs := by
  rcases h with ⟨a, q⟩ | ⟨a, a2, q⟩ | ⟨a, a2, q⟩ | ⟨a, q⟩
  · exact q
  · omega
  · omega
  · omega
theorem ze_C.ints {dA : Nat → ClassId} {sp : Nat → Nat} {ρ : List Int32} {ad : List Nat} {c : EC} {e : va_E} (h : ze_C dA sp ρ ad c e) (h1 : 100 ≤ c.1) (h2 : c.1 < 150) : ∃ f : Nat → Int32, e = .inl (dA c.1, c.2.length, .inl f) ∧ ∀ (j : Nat) (v : EV), c.2[j]? = some v → ze_V sp ρ ad v (.int (f j)) := by
  rcases h with ⟨a, q⟩ | ⟨a, a2, q⟩ | ⟨a, a2, q⟩ | ⟨a, q⟩
  · omega
  · exact q
  · omega
  · omega
theorem ze_C.longs {dA : Nat → ClassId} {sp : Nat → Nat} {ρ : List Int32} {ad : List Nat} {c : EC} {e : va_E} (h : ze_C dA sp ρ ad c e) (h1 : 150 ≤ c.1) (h2 : c.1 < 200) : ∃ f : Nat → Int64, e = .inl (dA c.1, c.2.length, .inr (.inl f)) ∧ ∀ (j : Nat) (v : EV), c.2[j]? = some v → ze_V sp ρ ad v (.long (f j)) := by
  rcases h with ⟨a, q⟩ | ⟨a, a2, q⟩ | ⟨a, a2, q⟩ | ⟨a, q⟩
  · omega
  · omega
  · exact q
  · omega
theorem ze_C.refs {dA : Nat → ClassId} {sp : Nat → Nat} {ρ : List Int32} {ad : List Nat} {c : EC} {e : va_E} (h : ze_C dA sp ρ ad c e) (h1 : 200 ≤ c.1) : ∃ f : Nat → Option Nat, e = .inl (dA c.1, c.2.length, .inr (.inr (.inr (.inr f)))) ∧ ∀ (j : Nat) (v : EV), c.2[j]? = some v → ze_V sp ρ ad v (va_rf (f j)) := by
  rcases h with ⟨a, q⟩ | ⟨a, a2, q⟩ | ⟨a, a2, q⟩ | ⟨a, q⟩
  · omega
  · omega
  · omega
  · exact q
/-- a world -/
def ze_W (dA : Nat → ClassId) (sp : Nat → Nat) (ρ : List Int32) (w : EW) (ws : va_W) : Prop := w.1 = ws.length ∧ ∀ (k : Nat) (c : EC), ze_gw w k = some c → ∃ (a : Nat) (e : va_E), ws[k]? = some (a, e) ∧ ze_C dA sp ρ (ws.map (·.1)) c e
theorem ze_W.rho {dA : Nat → ClassId} {sp : Nat → Nat} {ρ ρ' : List Int32} {w : EW} {ws : va_W} (h1 : ρ <+: ρ') (h : ze_W dA sp ρ w ws) : ze_W dA sp ρ' w ws :=
  ⟨h.1, fun k c hc => by obtain ⟨a, e, q1, q2⟩ := h.2 k c hc; exact ⟨a, e, q1, q2.mono h1 (List.prefix_refl _)⟩⟩
theorem ze_fst {ws : va_W} {k a : Nat} {e e' : va_E} (h : ws[k]? = some (a, e)) : (ws.set k (a, e')).map (·.1) = ws.map (·.1) := by
  apply List.ext_getElem?
  intro i
  rw [List.getElem?_map, List.getElem?_map]
  by_cases hi : k = i
  · subst hi
    rw [List.getElem?_set_self (List.getElem?_eq_some_iff.mp h).1, h]
    rfl
  · rw [List.getElem?_set_ne hi]
theorem ze_W.set {dA : Nat → ClassId} {sp : Nat → Nat} {ρ : List Int32} {w : EW} {ws : va_W} (h : ze_W dA sp ρ w ws) {k a : Nat} {e e' : va_E} {c' : EC} (hk : ws[k]? = some (a, e)) (hc : ze_C dA sp ρ (ws.map (·.1)) c' e') : ze_W dA sp ρ (ze_ws w k c') (ws.set k (a, e')) := by
  refine ⟨by rw [List.length_set]; exact h.1, fun j c hj => ?_⟩
  rw [ze_fst hk]
  rw [ze_ws_get] at hj
  by_cases hjk : j = k
  · subst hjk
    rw [if_pos rfl] at hj
    cases hg : ze_gw w j with
    | none => rw [hg] at hj; cases hj
    | some c0 =>
      rw [hg] at hj
      cases hj
      exact ⟨a, e', List.getElem?_set_self (List.getElem?_eq_some_iff.mp hk).1, hc⟩
  · rw [if_neg hjk] at hj
    obtain ⟨a1, e1, q1, q2⟩ := h.2 j c hj
    exact ⟨a1, e1, by rw [List.getElem?_set_ne (Ne.symm hjk)]; exact q1, q2⟩
theorem ze_W.push {dA : Nat → ClassId} {sp : Nat → Nat} {ρ : List Int32} {w w' : EW} {ws : va_W} (h : ze_W dA sp ρ w ws) {q : Nat} {e : va_E} {c : EC} (h1 : w'.1 = w.1 + 1) (h2 : ∀ (k : Nat) (c' : EC), ze_gw w' k = some c' → (k = w.1 ∧ c' = c) ∨ (k ≠ w.1 ∧ ze_gw w k = some c')) (hc : ze_C dA sp ρ (ws.map (·.1) ++ [q]) c e) : ze_W dA sp ρ w' (ws ++ [(q, e)]) := by
  refine ⟨by rw [h1, h.1]; simp, fun k c' hk => ?_⟩
  have em : (ws ++ [(q, e)]).map (·.1) = ws.map (·.1) ++ [q] := by simp
  rw [em]
  rcases h2 k c' hk with ⟨r1, r2⟩ | ⟨r1, r2⟩
  · subst r2
    refine ⟨q, e, ?_, hc⟩
    rw [r1, h.1]
    simp
  · obtain ⟨a1, e1, q1, q2⟩ := h.2 k c' r2
    refine ⟨a1, e1, ?_, q2.mono (List.prefix_refl _) (List.prefix_append _ _)⟩
    rw [List.getElem?_append_left (List.getElem?_eq_some_iff.mp q1).1]
    exact q1
/-- a reference of the engine is a cell of the world -/
theorem ze_W.ref {dA : Nat → ClassId} {sp : Nat → Nat} {ρ : List Int32} {w : EW} {ws : va_W} (h : ze_W dA sp ρ w ws) {k : Nat} {c : EC} {x : Value} (hc : ze_gw w k = some c) (hv : ze_V sp ρ (ws.map (·.1)) (eR k) x) : ∃ (a : Nat) (e : va_E), x = .ref a ∧ ws[k]? = some (a, e) ∧ ze_C dA sp ρ (ws.map (·.1)) c e := by
  obtain ⟨a, e, q1, q2⟩ := h.2 k c hc
  obtain ⟨a2, r1, r2⟩ := hv
  rw [List.getElem?_map, q1] at r1
  cases r1
  exact ⟨_, e, r2, q1, q2⟩
/-- locals -/
def ze_LL (sp : Nat → Nat) (ρ : List Int32) (ad : List Nat) (ls : List EV) (lv : List (Nat × Value)) : Prop := ∀ (i : Nat) (v : EV), ls[i]? = some v → v ≠ eX 1 → ∃ x, (i, x) ∈ lv ∧ ze_V sp ρ ad v x
theorem ze_LL.mono {sp : Nat → Nat} {ρ ρ' : List Int32} {ad ad' : List Nat} (h1 : ρ <+: ρ') (h2 : ad <+: ad') {ls : List EV} {lv : List (Nat × Value)} (h : ze_LL sp ρ ad ls lv) : ze_LL sp ρ' ad' ls lv := fun i v hv hn => by
  obtain ⟨x, a, b⟩ := h i v hv hn
  exact ⟨x, a, b.mono h1 h2⟩
theorem ze_cat {sp : Nat → Nat} {ρ : List Int32} {ad : List Nat} {v : EV} {x : Value} (h : ze_V sp ρ ad v x) : x.category = ze_ct v := by
  match v, h with
  | .inl (.inl n), h => rw [show x = _ from h]; rfl
  | .inl (.inr i), ⟨z, _, b⟩ => rw [b]; rfl
  | .inr (.inl (.inl k)), ⟨z, _, b⟩ => rw [b]; rfl
  | .inr (.inl (.inr (.inl n))), h => rw [show x = _ from h]; rfl
  | .inr (.inl (.inr (.inr i))), ⟨z, _, b⟩ => rw [b]; rfl
  | .inr (.inr 0), h => rw [show x = _ from h]; rfl
  | .inr (.inr (k + 2)), h => rw [show x = _ from h]; rfl
theorem ze_cl_ne {u : EV} (h : ze_cl u ≠ eX 1) : ze_cl u = u ∧ ze_ct u = 1 := by
  match u, h with
  | .inr (.inl (.inr _)), h => exact absurd rfl h
  | .inr (.inl (.inl q)), _ => exact ⟨rfl, rfl⟩
  | .inr (.inr q), _ => exact ⟨rfl, rfl⟩
  | .inl q, _ => exact ⟨rfl, rfl⟩
/-- what a store leaves at another place -/
theorem ze_st_get {v : EV} {ls : List EV} {i j : Nat} {u : EV} (h : (ze_st v ls i)[j]? = some u) (hu : u ≠ eX 1) : (j = i ∧ u = v) ∨ (j ≠ i ∧ ls[j]? = some u ∧ (j + 1 = i → ze_ct u = 1)) := by
  cases i with
  | zero =>
    have h : (ze_s v ls 0)[j]? = some u := h
    rw [ze_s_eq] at h
    by_cases hj : j = 0
    · subst hj
      by_cases hl : 0 < ls.length
      · rw [List.getElem?_set_self hl] at h
        exact Or.inl ⟨rfl, (Option.some.inj h).symm⟩
      · rw [List.getElem?_eq_none (by rw [List.length_set]; omega)] at h
        cases h
    · rw [List.getElem?_set_ne (Ne.symm hj)] at h
      exact Or.inr ⟨hj, h, fun q => by omega⟩
  | succ i =>
    have h : (ze_s v (ze_m ze_cl ls i) (i + 1))[j]? = some u := h
    rw [ze_s_eq] at h
    by_cases hj : j = i + 1
    · subst hj
      by_cases hl : i + 1 < (ze_m ze_cl ls i).length
      · rw [List.getElem?_set_self hl] at h
        exact Or.inl ⟨rfl, (Option.some.inj h).symm⟩
      · rw [List.getElem?_eq_none (by rw [List.length_set]; omega)] at h
        cases h
    · rw [List.getElem?_set_ne (Ne.symm hj), ze_m_get] at h
      by_cases hi : j = i
      · subst hi
        rw [if_pos rfl] at h
        cases hg : ls[j]? with
        | none => rw [hg] at h; cases h
        | some u0 =>
          rw [hg] at h
          have h : ze_cl u0 = u := Option.some.inj h
          have k := ze_cl_ne (u := u0) (by rw [h]; exact hu)
          rw [k.1] at h
          subst h
          exact Or.inr ⟨hj, rfl, fun _ => k.2⟩
      · rw [if_neg hi] at h
        exact Or.inr ⟨hj, h, fun q => absurd (show j = i by omega) hi⟩
theorem ze_LL.st1 {sp : Nat → Nat} {ρ : List Int32} {ad : List Nat} {ls : List EV} {lv : List (Nat × Value)} (h : ze_LL sp ρ ad ls lv) {i : Nat} {v : EV} {x : Value} (hv : ze_V sp ρ ad v x) :
    ze_LL sp ρ ad (ze_st v ls i) ((i, x) :: lv.filter (fun q => !(q.1 == i) && !(q.1 + 1 == i && q.2.category == 2))) := by
  intro j u hj hu
  rcases ze_st_get hj hu with ⟨a, b⟩ | ⟨a, b, d⟩
  · subst a; subst b
    exact ⟨x, List.mem_cons_self, hv⟩
  · obtain ⟨y, q1, q2⟩ := h j u b hu
    refine ⟨y, List.mem_cons_of_mem _ (List.mem_filter.mpr ⟨q1, ?_⟩), q2⟩
    by_cases hji : j + 1 = i
    · have := ze_cat q2
      have := d hji
      simp [a, show ¬ y.category = 2 by omega]
    · simp [a, hji]
theorem ze_LL.st2 {sp : Nat → Nat} {ρ : List Int32} {ad : List Nat} {ls : List EV} {lv : List (Nat × Value)} (h : ze_LL sp ρ ad ls lv) {i : Nat} {v : EV} {x : Value} (hv : ze_V sp ρ ad v x) :
    ze_LL sp ρ ad (ze_s (eX 1) (ze_st v ls i) (i + 1)) ((i, x) :: lv.filter (fun q => !(q.1 == i) && (!(q.1 == i + 1) && !(q.1 + 1 == i && q.2.category == 2)))) := by
  intro j u hj hu
  rw [ze_s_eq] at hj
  have hn : j ≠ i + 1 := by
    intro q
    subst q
    by_cases hl : i + 1 < (ze_st v ls i).length
    · rw [List.getElem?_set_self hl] at hj
      exact hu (Option.some.inj hj).symm
    · rw [List.getElem?_eq_none (by rw [List.length_set]; omega)] at hj
      cases hj
  rw [List.getElem?_set_ne (Ne.symm hn)] at hj
  rcases ze_st_get hj hu with ⟨a, b⟩ | ⟨a, b, d⟩
  · subst a; subst b
    exact ⟨x, List.mem_cons_self, hv⟩
  · obtain ⟨y, q1, q2⟩ := h j u b hu
    refine ⟨y, List.mem_cons_of_mem _ (List.mem_filter.mpr ⟨q1, ?_⟩), q2⟩
    by_cases hji : j + 1 = i
    · have := ze_cat q2
      have := d hji
      simp [a, hn, show ¬ y.category = 2 by omega]
    · simp [a, hn, hji]
end
section
/-! THE ENGINE, part 5: what it says of the machine. An op that answers true, at a state that the engine's data stand for, walks. -/
/-- rows that are as they should be ('V'), the first of them at pc -/
def ze_at (V : List ECE → Prop) (cs : List ECE) (pc : Nat) : Prop := V cs ∧ ∃ e r, cs = e :: r ∧ e.2.1 = pc
def ze_Y (z0 : List Int32 × List Nat) (xs : Nat → Int32) (ρ : List Int32) (ad : List Nat) : Prop := (∀ j, j < 6 → ρ[j]? = some (xs j)) ∧ z0.1 <+: ρ ∧ z0.2 <+: ad
def ze_H (z0 : List Int32 × List Nat) (dC : Nat → ClassId) (dI : Nat → Nat → Nat) (dA : Nat → ClassId) (sp : Nat → Nat) (xs : Nat → Int32) (A : Nat → Prop) (s : State) (nL : Nat) (ls st : List EV) (w : EW) (g : EG) (ρ : List Int32) (ws : va_W) (H : Heap) (locs : List Loc) (la : Array Slot) (vs : List Value) : Prop :=
  ze_G g ρ ∧ ze_Y z0 xs ρ (ws.map (·.1)) ∧ ze_W dA sp ρ w ws ∧ va_P (dC, dI) vwCl ws H ∧ va_D A ws ∧ va_S A s.heap H locs ∧ (∃ lv, lv_has la nL lv ∧ ze_LL sp ρ (ws.map (·.1)) ls lv) ∧ ze_L sp ρ (ws.map (·.1)) st vs
def ze_WS (p : Program) (l : Launch) (e : Env) (R : Room) (s : State) (m : MethodId) (args : Array Value) (below : List Frame) (meth : Method) (c : Code) (Q : State → Prop) (z0 : List Int32 × List Nat) (dC : Nat → ClassId) (dI : Nat → Nat → Nat) (dA : Nat → ClassId) (sp : Nat → Nat) (xs : Nat → Int32) (A : Nat → Prop) (nL : Nat) (V : List ECE → Prop) (cs : List ECE) (ls st : List EV) (w : EW) (g : EG) (nc ns : Nat) : Prop :=
  ∀ (pc : Nat), ze_at V cs pc → ∀ (ρ : List Int32) (ws : va_W) (H : Heap) (locs : List Loc) (la : Array Slot) (vs : List Value), ze_H z0 dC dI dA sp xs A s nL ls st w g ρ ws H locs la vs → W p l e R s m args below meth c H locs nc ns Q (F0 m pc la vs)
def ze_KK (p : Program) (l : Launch) (e : Env) (R : Room) (s : State) (m : MethodId) (args : Array Value) (below : List Frame) (meth : Method) (c : Code) (Q : State → Prop) (z0 : List Int32 × List Nat) (dC : Nat → ClassId) (dI : Nat → Nat → Nat) (dA : Nat → ClassId) (sp : Nat → Nat) (xs : Nat → Int32) (A : Nat → Prop) (nL : Nat) (V : List ECE → Prop) (kk : EKn) : Prop :=
  ∀ (cs : List ECE) (ls st : List EV) (w : EW) (g : EG) (nc ns : Nat), kk cs ls st w g nc ns = true → ze_WS p l e R s m args below meth c Q z0 dC dI dA sp xs A nL V cs ls st w g nc ns
section ZH
variable {z0 : List Int32 × List Nat} {dC : Nat → ClassId} {dI : Nat → Nat → Nat} {dA : Nat → ClassId} {sp : Nat → Nat} {xs : Nat → Int32} {A : Nat → Prop} {s : State} {nL : Nat} {ls st : List EV} {w : EW} {g : EG} {ρ : List Int32} {ws : va_W} {H : Heap} {locs : List Loc} {la : Array Slot} {vs : List Value}
theorem ze_H.stk {st' : List EV} {vs' : List Value} (h : ze_H z0 dC dI dA sp xs A s nL ls st w g ρ ws H locs la vs) (h2 : ze_L sp ρ (ws.map (·.1)) st' vs') : ze_H z0 dC dI dA sp xs A s nL ls st' w g ρ ws H locs la vs' :=
  ⟨h.1, h.2.1, h.2.2.1, h.2.2.2.1, h.2.2.2.2.1, h.2.2.2.2.2.1, h.2.2.2.2.2.2.1, h2⟩
theorem ze_H.gs {g' : EG} (h : ze_H z0 dC dI dA sp xs A s nL ls st w g ρ ws H locs la vs) (h2 : ze_G g' ρ) : ze_H z0 dC dI dA sp xs A s nL ls st w g' ρ ws H locs la vs :=
  ⟨h2, h.2.1, h.2.2.1, h.2.2.2.1, h.2.2.2.2.1, h.2.2.2.2.2.1, h.2.2.2.2.2.2.1, h.2.2.2.2.2.2.2⟩
theorem ze_H.fr {lo hi : Nat} {x : Int32} (h : ze_H z0 dC dI dA sp xs A s nL ls st w g ρ ws H locs la vs) (h1 : lo ≤ ze_b x) (h2 : ze_b x ≤ hi) : ze_H z0 dC dI dA sp xs A s nL ls st w (g ++ [(lo, hi)]) (ρ ++ [x]) ws H locs la vs := by
  obtain ⟨hG, hX, hW, hP, hD, hS, ⟨lv, hl, hL⟩, hV⟩ := h
  have hp : ρ <+: ρ ++ [x] := List.prefix_append _ _
  exact ⟨hG.push h1 h2, ⟨fun j hj => ze_pre hp (hX.1 j hj), hX.2.1.trans hp, hX.2.2⟩, hW.rho hp, hP, hD, hS, ⟨lv, hl, hL.mono hp (List.prefix_refl _)⟩, hV.mono hp (List.prefix_refl _)⟩
/-- another unknown of that value, on the stack -/
theorem ze_H.frs {lo hi : Nat} {x : Int32} (h : ze_H z0 dC dI dA sp xs A s nL ls st w g ρ ws H locs la vs) (h1 : lo ≤ ze_b x) (h2 : ze_b x ≤ hi) : ze_H z0 dC dI dA sp xs A s nL ls (eU g.length :: st) w (g ++ [(lo, hi)]) (ρ ++ [x]) ws H locs la (.int x :: vs) :=
  (h.fr h1 h2).stk ⟨⟨x, h.1.new x, rfl⟩, (h.fr h1 h2).2.2.2.2.2.2.2⟩
end ZH
section ZS
variable {p : Program} {l : Launch} {e : Env} {R : Room} {s : State} {m : MethodId} {args : Array Value} {below : List Frame} {meth : Method} {c : Code} {Q : State → Prop}
variable {z0 : List Int32 × List Nat} {dC : Nat → ClassId} {dI : Nat → Nat → Nat} {dA : Nat → ClassId} {sp : Nat → Nat} {xs : Nat → Int32} {A : Nat → Prop} {nL : Nat} {V : List ECE → Prop}
variable {kk : EKn} {k : ERt} {cal : ECal} {mc ms pc pc2 ca cb cd nc ns : Nat} {nx : List ECE} {jp : EJp} {tl : List Nat} {ls st : List EV} {w : EW} {g : EG} {ρ : List Int32} {ws : va_W} {H : Heap} {locs : List Loc} {la : Array Slot} {vs : List Value}
theorem zs_fr {lo hi : Nat} {x : Int32} (hK : ze_KK p l e R s m args below meth c Q z0 dC dI dA sp xs A nL V kk) (h : zo_fr lo hi nx kk ls st w g nc ns = true) (hH : ze_H z0 dC dI dA sp xs A s nL ls st w g ρ ws H locs la vs) (h1 : lo ≤ ze_b x) (h2 : ze_b x ≤ hi) (hn : ze_at V nx pc2) : W p l e R s m args below meth c H locs nc ns Q (F0 m pc2 la (.int x :: vs)) := by
  unfold zo_fr at h
  rw [ze_f_eq] at h
  exact hK _ _ _ _ _ _ _ h _ hn _ _ _ _ _ _ (hH.frs h1 h2)
theorem zs_bin {fc : Nat → Nat → Nat} {bd : EG → EV → EV → Nat × Nat} (F : Int32 → Int32 → Int32) (hK : ze_KK p l e R s m args below meth c Q z0 dC dI dA sp xs A nL V kk) (hfc : ∀ a b, F (nI a) (nI b) = nI (fc a b))
    (hbd : ∀ (v1 v2 : EV) (x y : Int32), ze_V sp ρ (ws.map (·.1)) v1 (.int x) → ze_V sp ρ (ws.map (·.1)) v2 (.int y) → (bd g v1 v2).1 ≤ ze_b (F x y) ∧ ze_b (F x y) ≤ (bd g v1 v2).2)
    (hn : ze_at V nx pc2) (h : zo_bin fc bd nx ca cb cd tl jp kk k cal mc ms ls st w g nc ns = true) (hH : ze_H z0 dC dI dA sp xs A s nL ls st w g ρ ws H locs la vs)
    (row : ∀ (x y : Int32) (rest : List Value), vs = .int y :: .int x :: rest → W p l e R s m args below meth c H locs nc ns Q (F0 m pc2 la (.int (F x y) :: rest)) → W p l e R s m args below meth c H locs nc ns Q (F0 m pc la (.int y :: .int x :: rest))) : W p l e R s m args below meth c H locs nc ns Q (F0 m pc la vs) := by
  match st, h, hH with
  | [], h, _ => exact absurd h (by intro q; cases q)
  | [_], h, _ => exact absurd h (by intro q; cases q)
  | v2 :: v1 :: rest, h, hH =>
    obtain ⟨y2, r1, e1, V2, L1⟩ := hH.2.2.2.2.2.2.2.cons
    obtain ⟨y1, r2, e2, V1, L2⟩ := L1.cons
    subst e1; subst e2
    have hH2 := hH.stk L2
    have h : ze_rs g v1 _ _ = true := h
    obtain ⟨x, ex, hx⟩ := ze_rs_spec h hH.1 V1
    subst ex
    rcases hx with ⟨a, ea, hx⟩ | ⟨i, ei, hi, hx⟩
    · obtain ⟨y, ey, hy⟩ := ze_rs_spec hx hH.1 V2
      subst ey
      have hb := hbd v1 v2 x y V1 V2
      refine row x y r2 rfl ?_
      rcases hy with ⟨b, eb, hy⟩ | ⟨j, ej, hj, hy⟩
      · rw [ze_f_eq] at hy
        refine hK _ _ _ _ _ _ _ hy _ hn _ _ _ _ _ _ (hH2.stk ⟨?_, L2⟩)
        show Value.int (F x y) = .int (nI (fc a b))
        rw [ea, eb, hfc]
      · exact zs_fr hK hy hH2 hb.1 hb.2 hn
    · obtain ⟨y, ey, hy⟩ := ze_rs_spec hx hH.1 V2
      subst ey
      have hb := hbd v1 v2 x y V1 V2
      refine row x y r2 rfl ?_
      rcases hy with ⟨b, eb, hy⟩ | ⟨j, ej, hj, hy⟩
      · exact zs_fr hK hy hH2 hb.1 hb.2 hn
      · exact zs_fr hK hy hH2 hb.1 hb.2 hn
theorem zs_top (v1 v2 : EV) (x : Int32) : (zo_top g v1 v2).1 ≤ ze_b x ∧ ze_b x ≤ (zo_top g v1 v2).2 := ⟨Nat.zero_le _, ze_b_top x⟩
theorem zs_c2 (f : Int32 → Int32 → Int32) (a b : Nat) : f (nI a) (nI b) = nI (zo_c2 f a b) := (ze_e_eq _).symm
theorem zs_un {fc : Nat → Nat} {lo hi : Nat} (F : Int32 → Int32) (hK : ze_KK p l e R s m args below meth c Q z0 dC dI dA sp xs A nL V kk) (hfc : ∀ a, F (nI a) = nI (fc a)) (hbd : ∀ x : Int32, lo ≤ ze_b (F x) ∧ ze_b (F x) ≤ hi)
    (hn : ze_at V nx pc2) (h : zo_un fc lo hi nx ca cb cd tl jp kk k cal mc ms ls st w g nc ns = true) (hH : ze_H z0 dC dI dA sp xs A s nL ls st w g ρ ws H locs la vs)
    (row : ∀ (x : Int32) (rest : List Value), W p l e R s m args below meth c H locs nc ns Q (F0 m pc2 la (.int (F x) :: rest)) → W p l e R s m args below meth c H locs nc ns Q (F0 m pc la (.int x :: rest))) : W p l e R s m args below meth c H locs nc ns Q (F0 m pc la vs) := by
  match st, h, hH with
  | [], h, _ => exact absurd h (by intro q; cases q)
  | v1 :: rest, h, hH =>
    obtain ⟨y1, r1, e1, V1, L1⟩ := hH.2.2.2.2.2.2.2.cons
    subst e1
    have hH2 := hH.stk L1
    have h : ze_rs g v1 _ _ = true := h
    obtain ⟨x, ex, hx⟩ := ze_rs_spec h hH.1 V1
    subst ex
    refine row x r1 ?_
    rcases hx with ⟨a, ea, hx⟩ | ⟨i, ei, hi, hx⟩
    · rw [ze_f_eq] at hx
      refine hK _ _ _ _ _ _ _ hx _ hn _ _ _ _ _ _ (hH2.stk ⟨?_, L1⟩)
      show Value.int (F x) = .int (nI (fc a))
      rw [ea, hfc]
    · exact zs_fr hK hx hH2 (hbd x).1 (hbd x).2 hn
theorem zs_lb (F : Int64 → Int64 → Int64) (hK : ze_KK p l e R s m args below meth c Q z0 dC dI dA sp xs A nL V kk) (hn : ze_at V nx pc2) (h : zo_lb F nx ca cb cd tl jp kk k cal mc ms ls st w g nc ns = true) (hH : ze_H z0 dC dI dA sp xs A s nL ls st w g ρ ws H locs la vs)
    (row : ∀ (x y : Int64) (rest : List Value), vs = .long y :: .long x :: rest → W p l e R s m args below meth c H locs nc ns Q (F0 m pc2 la (.long (F x y) :: rest)) → W p l e R s m args below meth c H locs nc ns Q (F0 m pc la (.long y :: .long x :: rest))) : W p l e R s m args below meth c H locs nc ns Q (F0 m pc la vs) := by
  unfold zo_lb at h
  split at h
  · obtain ⟨y2, r1, e1, V2, L1⟩ := hH.2.2.2.2.2.2.2.cons
    obtain ⟨y1, r2, e2, V1, L2⟩ := L1.cons
    subst e1; subst e2
    rw [show y1 = _ from V1, show y2 = _ from V2] at *
    rw [ze_f_eq] at h
    refine row _ _ _ rfl ?_
    refine hK _ _ _ _ _ _ _ h _ hn _ _ _ _ _ _ (hH.stk ⟨?_, L2⟩)
    show Value.long _ = .long _
    rw [ze_el_eq]
  · cases h
theorem zs_lsf (F : Int64 → Int32 → Int64) (hK : ze_KK p l e R s m args below meth c Q z0 dC dI dA sp xs A nL V kk) (hn : ze_at V nx pc2) (h : zo_lsf F nx ca cb cd tl jp kk k cal mc ms ls st w g nc ns = true) (hH : ze_H z0 dC dI dA sp xs A s nL ls st w g ρ ws H locs la vs)
    (row : ∀ (x : Int64) (y : Int32) (rest : List Value), W p l e R s m args below meth c H locs nc ns Q (F0 m pc2 la (.long (F x y) :: rest)) → W p l e R s m args below meth c H locs nc ns Q (F0 m pc la (.int y :: .long x :: rest))) : W p l e R s m args below meth c H locs nc ns Q (F0 m pc la vs) := by
  unfold zo_lsf at h
  split at h
  · obtain ⟨y2, r1, e1, V2, L1⟩ := hH.2.2.2.2.2.2.2.cons
    obtain ⟨y1, r2, e2, V1, L2⟩ := L1.cons
    subst e1; subst e2
    rw [show y1 = _ from V1, show y2 = _ from V2] at *
    rw [ze_f_eq] at h
    refine row _ _ _ ?_
    refine hK _ _ _ _ _ _ _ h _ hn _ _ _ _ _ _ (hH.stk ⟨?_, L2⟩)
    show Value.long _ = .long _
    rw [ze_el_eq]
  · cases h
theorem zs_i2l (hK : ze_KK p l e R s m args below meth c Q z0 dC dI dA sp xs A nL V kk) (hn : ze_at V nx pc2) (h : zo_i2l nx ca cb cd tl jp kk k cal mc ms ls st w g nc ns = true) (hH : ze_H z0 dC dI dA sp xs A s nL ls st w g ρ ws H locs la vs)
    (row : ∀ (x : Int32) (rest : List Value), W p l e R s m args below meth c H locs nc ns Q (F0 m pc2 la (.long x.toInt64 :: rest)) → W p l e R s m args below meth c H locs nc ns Q (F0 m pc la (.int x :: rest))) : W p l e R s m args below meth c H locs nc ns Q (F0 m pc la vs) := by
  match st, h, hH with
  | [], h, _ => exact absurd h (by intro q; cases q)
  | v1 :: rest, h, hH =>
    obtain ⟨y1, r1, e1, V1, L1⟩ := hH.2.2.2.2.2.2.2.cons
    subst e1
    have h : ze_rs g v1 _ _ = true := h
    obtain ⟨x, ex, hx⟩ := ze_rs_spec h hH.1 V1
    subst ex
    refine row x r1 ?_
    rcases hx with ⟨a, ea, hx⟩ | ⟨i, ei, hi, hx⟩
    · rw [ze_f_eq] at hx
      refine hK _ _ _ _ _ _ _ hx _ hn _ _ _ _ _ _ (hH.stk ⟨?_, L1⟩)
      show Value.long _ = .long _
      rw [ze_el_eq, ea]
    · exact hK _ _ _ _ _ _ _ hx _ hn _ _ _ _ _ _ (hH.stk ⟨⟨x, hi, rfl⟩, L1⟩)
theorem zs_l2i (hK : ze_KK p l e R s m args below meth c Q z0 dC dI dA sp xs A nL V kk) (hn : ze_at V nx pc2) (h : zo_l2i nx ca cb cd tl jp kk k cal mc ms ls st w g nc ns = true) (hH : ze_H z0 dC dI dA sp xs A s nL ls st w g ρ ws H locs la vs)
    (row : ∀ (x : Int64) (rest : List Value), W p l e R s m args below meth c H locs nc ns Q (F0 m pc2 la (.int x.toInt32 :: rest)) → W p l e R s m args below meth c H locs nc ns Q (F0 m pc la (.long x :: rest))) : W p l e R s m args below meth c H locs nc ns Q (F0 m pc la vs) := by
  unfold zo_l2i at h
  split at h
  · obtain ⟨y2, r1, e1, V2, L1⟩ := hH.2.2.2.2.2.2.2.cons
    subst e1
    rw [show y2 = _ from V2] at *
    rw [ze_f_eq] at h
    refine row _ _ ?_
    refine hK _ _ _ _ _ _ _ h _ hn _ _ _ _ _ _ (hH.stk ⟨?_, L1⟩)
    show Value.int _ = .int _
    rw [ze_e_eq]
  · cases h
theorem zs_cst (hK : ze_KK p l e R s m args below meth c Q z0 dC dI dA sp xs A nL V kk) (hn : ze_at V nx pc2) (h : zo_cst nx ca cb cd tl jp kk k cal mc ms ls st w g nc ns = true) (hH : ze_H z0 dC dI dA sp xs A s nL ls st w g ρ ws H locs la vs)
    (row : W p l e R s m args below meth c H locs nc ns Q (F0 m pc2 la (.int (nI ca) :: vs)) → W p l e R s m args below meth c H locs nc ns Q (F0 m pc la vs)) : W p l e R s m args below meth c H locs nc ns Q (F0 m pc la vs) :=
  row (hK _ _ _ _ _ _ _ h _ hn _ _ _ _ _ _ (hH.stk ⟨rfl, hH.2.2.2.2.2.2.2⟩))
theorem zs_lcst (hK : ze_KK p l e R s m args below meth c Q z0 dC dI dA sp xs A nL V kk) (hn : ze_at V nx pc2) (h : zo_lcst nx ca cb cd tl jp kk k cal mc ms ls st w g nc ns = true) (hH : ze_H z0 dC dI dA sp xs A s nL ls st w g ρ ws H locs la vs)
    (row : W p l e R s m args below meth c H locs nc ns Q (F0 m pc2 la (.long (lN ca) :: vs)) → W p l e R s m args below meth c H locs nc ns Q (F0 m pc la vs)) : W p l e R s m args below meth c H locs nc ns Q (F0 m pc la vs) :=
  row (hK _ _ _ _ _ _ _ h _ hn _ _ _ _ _ _ (hH.stk ⟨rfl, hH.2.2.2.2.2.2.2⟩))
theorem zs_null (hK : ze_KK p l e R s m args below meth c Q z0 dC dI dA sp xs A nL V kk) (hn : ze_at V nx pc2) (h : zo_null nx ca cb cd tl jp kk k cal mc ms ls st w g nc ns = true) (hH : ze_H z0 dC dI dA sp xs A s nL ls st w g ρ ws H locs la vs)
    (row : W p l e R s m args below meth c H locs nc ns Q (F0 m pc2 la (.null :: vs)) → W p l e R s m args below meth c H locs nc ns Q (F0 m pc la vs)) : W p l e R s m args below meth c H locs nc ns Q (F0 m pc la vs) :=
  row (hK _ _ _ _ _ _ _ h _ hn _ _ _ _ _ _ (hH.stk ⟨rfl, hH.2.2.2.2.2.2.2⟩))
/-- a local -/
theorem ze_H.at {i : Nat} {v : EV} (hH : ze_H z0 dC dI dA sp xs A s nL ls st w g ρ ws H locs la vs) (hi : ls[i]? = some v) (hn : v ≠ eX 1) : ∃ x, la[i]? = some (.val x) ∧ ze_V sp ρ (ws.map (·.1)) v x := by
  obtain ⟨lv, hl, hL⟩ := hH.2.2.2.2.2.2.1
  obtain ⟨x, q1, q2⟩ := hL i v hi hn
  exact ⟨x, hl.2.2 _ q1, q2⟩
theorem ze_intV {v : Nat ⊕ Nat} {ad : List Nat} {x : Value} (h : ze_V sp ρ ad (.inl v) x) : ∃ z, x = .int z := by
  match v, h with
  | .inl n, h => exact ⟨_, h⟩
  | .inr i, ⟨z, _, b⟩ => exact ⟨z, b⟩
theorem ze_longV {v : Nat ⊕ Nat} {ad : List Nat} {x : Value} (h : ze_V sp ρ ad (.inr (.inl (.inr v))) x) : ∃ z, x = .long z := by
  match v, h with
  | .inl n, h => exact ⟨_, h⟩
  | .inr i, ⟨z, _, b⟩ => exact ⟨_, b⟩
theorem zs_iload (hK : ze_KK p l e R s m args below meth c Q z0 dC dI dA sp xs A nL V kk) (hn : ze_at V nx pc2) (h : zo_iload nx ca cb cd tl jp kk k cal mc ms ls st w g nc ns = true) (hH : ze_H z0 dC dI dA sp xs A s nL ls st w g ρ ws H locs la vs)
    (row : ∀ x : Int32, la[ca]? = some (.val (.int x)) → W p l e R s m args below meth c H locs nc ns Q (F0 m pc2 la (.int x :: vs)) → W p l e R s m args below meth c H locs nc ns Q (F0 m pc la vs)) : W p l e R s m args below meth c H locs nc ns Q (F0 m pc la vs) := by
  obtain ⟨v, hv, h2⟩ := ze_n_spec _ _ _ h
  match v, hv, h2 with
  | .inl u, hv, h2 =>
    obtain ⟨x, q1, q2⟩ := hH.at hv (by intro q; cases q)
    obtain ⟨z, ez⟩ := ze_intV q2
    subst ez
    exact row z q1 (hK _ _ _ _ _ _ _ h2 _ hn _ _ _ _ _ _ (hH.stk ⟨q2, hH.2.2.2.2.2.2.2⟩))
  | .inr u, hv, h2 => exact absurd h2 (by intro q; cases q)
theorem zs_lload (hK : ze_KK p l e R s m args below meth c Q z0 dC dI dA sp xs A nL V kk) (hn : ze_at V nx pc2) (h : zo_lload nx ca cb cd tl jp kk k cal mc ms ls st w g nc ns = true) (hH : ze_H z0 dC dI dA sp xs A s nL ls st w g ρ ws H locs la vs)
    (row : ∀ x : Int64, la[ca]? = some (.val (.long x)) → W p l e R s m args below meth c H locs nc ns Q (F0 m pc2 la (.long x :: vs)) → W p l e R s m args below meth c H locs nc ns Q (F0 m pc la vs)) : W p l e R s m args below meth c H locs nc ns Q (F0 m pc la vs) := by
  obtain ⟨v, hv, h2⟩ := ze_n_spec _ _ _ h
  match v, hv, h2 with
  | .inl u, hv, h2 => exact absurd h2 (by intro q; cases q)
  | .inr (.inl (.inl u)), hv, h2 => exact absurd h2 (by intro q; cases q)
  | .inr (.inr u), hv, h2 => exact absurd h2 (by intro q; cases q)
  | .inr (.inl (.inr u)), hv, h2 =>
    obtain ⟨x, q1, q2⟩ := hH.at hv (by intro q; cases q)
    obtain ⟨z, ez⟩ := ze_longV q2
    subst ez
    exact row _ q1 (hK _ _ _ _ _ _ _ h2 _ hn _ _ _ _ _ _ (hH.stk ⟨q2, hH.2.2.2.2.2.2.2⟩))
theorem zs_aload (hK : ze_KK p l e R s m args below meth c Q z0 dC dI dA sp xs A nL V kk) (hn : ze_at V nx pc2) (h : zo_aload nx ca cb cd tl jp kk k cal mc ms ls st w g nc ns = true) (hH : ze_H z0 dC dI dA sp xs A s nL ls st w g ρ ws H locs la vs)
    (row : ∀ x : Nat, la[ca]? = some (.val (.ref x)) → W p l e R s m args below meth c H locs nc ns Q (F0 m pc2 la (.ref x :: vs)) → W p l e R s m args below meth c H locs nc ns Q (F0 m pc la vs))
    (rowN : la[ca]? = some (.val .null) → W p l e R s m args below meth c H locs nc ns Q (F0 m pc2 la (.null :: vs)) → W p l e R s m args below meth c H locs nc ns Q (F0 m pc la vs)) : W p l e R s m args below meth c H locs nc ns Q (F0 m pc la vs) := by
  obtain ⟨v, hv, h2⟩ := ze_n_spec _ _ _ h
  match v, hv, h2 with
  | .inl u, hv, h2 => exact absurd h2 (by intro q; cases q)
  | .inr (.inl (.inr u)), hv, h2 => exact absurd h2 (by intro q; cases q)
  | .inr (.inl (.inl u)), hv, h2 =>
    obtain ⟨x, q1, q2⟩ := hH.at hv (by intro q; cases q)
    obtain ⟨z, z1, z2⟩ := q2
    have q2 : ze_V sp ρ (ws.map (·.1)) (eR u) x := ⟨z, z1, z2⟩
    subst z2
    exact row _ q1 (hK _ _ _ _ _ _ _ h2 _ hn _ _ _ _ _ _ (hH.stk ⟨q2, hH.2.2.2.2.2.2.2⟩))
  | .inr (.inr 0), hv, h2 =>
    obtain ⟨x, q1, q2⟩ := hH.at hv (by intro q; cases q)
    have ez : x = .null := q2
    subst ez
    exact rowN q1 (hK _ _ _ _ _ _ _ h2 _ hn _ _ _ _ _ _ (hH.stk ⟨q2, hH.2.2.2.2.2.2.2⟩))
  | .inr (.inr 1), hv, h2 => exact absurd h2 (by intro q; cases q)
  | .inr (.inr (u + 2)), hv, h2 =>
    obtain ⟨x, q1, q2⟩ := hH.at hv (by intro q; cases q)
    have ez : x = .ref (sp u) := q2
    subst ez
    exact row _ q1 (hK _ _ _ _ _ _ _ h2 _ hn _ _ _ _ _ _ (hH.stk ⟨q2, hH.2.2.2.2.2.2.2⟩))
end ZS
end
section
section ZS2
variable {p : Program} {l : Launch} {e : Env} {R : Room} {s : State} {m : MethodId} {args : Array Value} {below : List Frame} {meth : Method} {c : Code} {Q : State → Prop}
variable {z0 : List Int32 × List Nat} {dC : Nat → ClassId} {dI : Nat → Nat → Nat} {dA : Nat → ClassId} {sp : Nat → Nat} {xs : Nat → Int32} {A : Nat → Prop} {nL : Nat} {V : List ECE → Prop}
variable {kk : EKn} {k : ERt} {cal : ECal} {mc ms pc pc2 ca cb cd nc ns : Nat} {nx : List ECE} {jp : EJp} {tl : List Nat} {ls st : List EV} {w : EW} {g : EG} {ρ : List Int32} {ws : va_W} {H : Heap} {locs : List Loc} {la : Array Slot} {vs : List Value}
/-- behind a store into the locals -/
theorem ze_H.st1 {i : Nat} {v : EV} {x : Value} {rest : List EV} {vr : List Value} {la' : Array Slot} {lv : List (Nat × Value)} (hH : ze_H z0 dC dI dA sp xs A s nL ls st w g ρ ws H locs la vs) (hL : ze_LL sp ρ (ws.map (·.1)) ls lv) (hv : ze_V sp ρ (ws.map (·.1)) v x)
    (hl : lv_has la' nL ((i, x) :: lv.filter (fun q => !(q.1 == i) && !(q.1 + 1 == i && q.2.category == 2)))) (hr : ze_L sp ρ (ws.map (·.1)) rest vr) : ze_H z0 dC dI dA sp xs A s nL (ze_st v ls i) rest w g ρ ws H locs la' vr :=
  ⟨hH.1, hH.2.1, hH.2.2.1, hH.2.2.2.1, hH.2.2.2.2.1, hH.2.2.2.2.2.1, ⟨_, hl, hL.st1 hv⟩, hr⟩
theorem zs_istore (hK : ze_KK p l e R s m args below meth c Q z0 dC dI dA sp xs A nL V kk) (hn : ze_at V nx pc2) (h : zo_istore nx ca cb cd tl jp kk k cal mc ms ls st w g nc ns = true) (hH : ze_H z0 dC dI dA sp xs A s nL ls st w g ρ ws H locs la vs)
    (row : ∀ (x : Int32) (rest : List Value) (lv : List (Nat × Value)), lv_has la nL lv → (∀ la' : Array Slot, lv_has la' nL ((ca, Value.int x) :: lv.filter (fun q => !(q.1 == ca) && !(q.1 + 1 == ca && q.2.category == 2))) → W p l e R s m args below meth c H locs nc ns Q (F0 m pc2 la' rest)) → W p l e R s m args below meth c H locs nc ns Q (F0 m pc la (.int x :: rest))) : W p l e R s m args below meth c H locs nc ns Q (F0 m pc la vs) := by
  match st, h, hH with
  | [], h, _ => exact absurd h (by intro q; cases q)
  | .inr u :: rest, h, _ => exact absurd h (by intro q; cases q)
  | .inl u :: rest, h, hH =>
    obtain ⟨y1, r1, e1, V1, L1⟩ := hH.2.2.2.2.2.2.2.cons
    subst e1
    obtain ⟨z, ez⟩ := ze_intV V1
    subst ez
    obtain ⟨lv, hl, hL⟩ := hH.2.2.2.2.2.2.1
    exact row z r1 lv hl (fun la' hl' => hK _ _ _ _ _ _ _ h _ hn _ _ _ _ _ _ (hH.st1 hL V1 hl' L1))
theorem zs_astore (hK : ze_KK p l e R s m args below meth c Q z0 dC dI dA sp xs A nL V kk) (hn : ze_at V nx pc2) (h : zo_astore nx ca cb cd tl jp kk k cal mc ms ls st w g nc ns = true) (hH : ze_H z0 dC dI dA sp xs A s nL ls st w g ρ ws H locs la vs)
    (row : ∀ (x : Nat) (rest : List Value) (lv : List (Nat × Value)), lv_has la nL lv → (∀ la' : Array Slot, lv_has la' nL ((ca, Value.ref x) :: lv.filter (fun q => !(q.1 == ca) && !(q.1 + 1 == ca && q.2.category == 2))) → W p l e R s m args below meth c H locs nc ns Q (F0 m pc2 la' rest)) → W p l e R s m args below meth c H locs nc ns Q (F0 m pc la (.ref x :: rest)))
    (rowN : ∀ (rest : List Value) (lv : List (Nat × Value)), lv_has la nL lv → (∀ la' : Array Slot, lv_has la' nL ((ca, Value.null) :: lv.filter (fun q => !(q.1 == ca) && !(q.1 + 1 == ca && q.2.category == 2))) → W p l e R s m args below meth c H locs nc ns Q (F0 m pc2 la' rest)) → W p l e R s m args below meth c H locs nc ns Q (F0 m pc la (.null :: rest))) : W p l e R s m args below meth c H locs nc ns Q (F0 m pc la vs) := by
  obtain ⟨lv, hl, hL⟩ := hH.2.2.2.2.2.2.1
  match st, h, hH with
  | [], h, _ => exact absurd h (by intro q; cases q)
  | .inl u :: rest, h, _ => exact absurd h (by intro q; cases q)
  | .inr (.inl (.inr u)) :: rest, h, _ => exact absurd h (by intro q; cases q)
  | .inr (.inl (.inl u)) :: rest, h, hH =>
    obtain ⟨y1, r1, e1, V1, L1⟩ := hH.2.2.2.2.2.2.2.cons
    subst e1
    obtain ⟨z, z1, z2⟩ := id V1
    subst z2
    exact row z r1 lv hl (fun la' hl' => hK _ _ _ _ _ _ _ h _ hn _ _ _ _ _ _ (hH.st1 hL V1 hl' L1))
  | .inr (.inr 0) :: rest, h, hH =>
    obtain ⟨y1, r1, e1, V1, L1⟩ := hH.2.2.2.2.2.2.2.cons
    subst e1
    have z2 : y1 = .null := V1
    subst z2
    exact rowN r1 lv hl (fun la' hl' => hK _ _ _ _ _ _ _ h _ hn _ _ _ _ _ _ (hH.st1 hL V1 hl' L1))
  | .inr (.inr 1) :: rest, h, _ => exact absurd h (by intro q; cases q)
  | .inr (.inr (u + 2)) :: rest, h, hH =>
    obtain ⟨y1, r1, e1, V1, L1⟩ := hH.2.2.2.2.2.2.2.cons
    subst e1
    have z2 : y1 = .ref (sp u) := V1
    subst z2
    exact row _ r1 lv hl (fun la' hl' => hK _ _ _ _ _ _ _ h _ hn _ _ _ _ _ _ (hH.st1 hL V1 hl' L1))
theorem zs_lstore (hK : ze_KK p l e R s m args below meth c Q z0 dC dI dA sp xs A nL V kk) (hn : ze_at V nx pc2) (h : zo_lstore nx ca cb cd tl jp kk k cal mc ms ls st w g nc ns = true) (hH : ze_H z0 dC dI dA sp xs A s nL ls st w g ρ ws H locs la vs)
    (row : ∀ (x : Int64) (rest : List Value) (lv : List (Nat × Value)), lv_has la nL lv → (∀ la' : Array Slot, lv_has la' nL ((ca, Value.long x) :: lv.filter (fun q => !(q.1 == ca) && (!(q.1 == ca + 1) && !(q.1 + 1 == ca && q.2.category == 2)))) → W p l e R s m args below meth c H locs nc ns Q (F0 m pc2 la' rest)) → W p l e R s m args below meth c H locs nc ns Q (F0 m pc la (.long x :: rest))) : W p l e R s m args below meth c H locs nc ns Q (F0 m pc la vs) := by
  obtain ⟨lv, hl, hL⟩ := hH.2.2.2.2.2.2.1
  match st, h, hH with
  | [], h, _ => exact absurd h (by intro q; cases q)
  | .inl u :: rest, h, _ => exact absurd h (by intro q; cases q)
  | .inr (.inl (.inl u)) :: rest, h, _ => exact absurd h (by intro q; cases q)
  | .inr (.inr u) :: rest, h, _ => exact absurd h (by intro q; cases q)
  | .inr (.inl (.inr u)) :: rest, h, hH =>
    obtain ⟨y1, r1, e1, V1, L1⟩ := hH.2.2.2.2.2.2.2.cons
    subst e1
    obtain ⟨z, z2⟩ := ze_longV V1
    subst z2
    exact row _ r1 lv hl (fun la' hl' => hK _ _ _ _ _ _ _ h _ hn _ _ _ _ _ _ ⟨hH.1, hH.2.1, hH.2.2.1, hH.2.2.2.1, hH.2.2.2.2.1, hH.2.2.2.2.2.1, ⟨_, hl', hL.st2 V1⟩, L1⟩)
theorem zs_iinc (hK : ze_KK p l e R s m args below meth c Q z0 dC dI dA sp xs A nL V kk) (hn : ze_at V nx pc2) (h : zo_iinc nx ca cb cd tl jp kk k cal mc ms ls st w g nc ns = true) (hH : ze_H z0 dC dI dA sp xs A s nL ls st w g ρ ws H locs la vs)
    (row : ∀ (x : Int32) (lv : List (Nat × Value)) (j : Nat), lv_has la nL lv → lv[j]? = some (ca, .int x) → (∀ la' : Array Slot, lv_has la' nL ((ca, Value.int (x + nI cb)) :: lv.filter (fun q => !(q.1 == ca) && !(q.1 + 1 == ca && q.2.category == 2))) → W p l e R s m args below meth c H locs nc ns Q (F0 m pc2 la' vs)) → W p l e R s m args below meth c H locs nc ns Q (F0 m pc la vs)) : W p l e R s m args below meth c H locs nc ns Q (F0 m pc la vs) := by
  obtain ⟨v, hv, h2⟩ := ze_n_spec _ _ _ h
  obtain ⟨lv, hl, hL⟩ := hH.2.2.2.2.2.2.1
  have hne : v ≠ eX 1 := by
    intro q
    subst q
    cases h2
  obtain ⟨y, q1, q2⟩ := hL ca v hv hne
  obtain ⟨j, hj⟩ := List.getElem?_of_mem q1
  obtain ⟨x, ex, hx⟩ := ze_rs_spec h2 hH.1 q2
  subst ex
  refine row x lv j hl hj (fun la' hl' => ?_)
  rcases hx with ⟨a, ea, hx⟩ | ⟨i, ei, hi, hx⟩
  · rw [ze_f_eq] at hx
    refine hK _ _ _ _ _ _ _ hx _ hn _ _ _ _ _ _ (hH.st1 hL (x := .int (x + nI cb)) ?_ hl' hH.2.2.2.2.2.2.2)
    show Value.int _ = .int _
    rw [ea, ze_add]
    rfl
  · rw [ze_f_eq] at hx
    have hF := hH.fr (lo := 0) (hi := 4294967295) (x := x + nI cb) (Nat.zero_le _) (ze_b_top _)
    have hp : ρ <+: ρ ++ [x + nI cb] := List.prefix_append _ _
    exact hK _ _ _ _ _ _ _ hx _ hn _ _ _ _ _ _ (hF.st1 (hL.mono hp (List.prefix_refl _)) (x := .int (x + nI cb)) ⟨_, hH.1.new _, rfl⟩ hl' hF.2.2.2.2.2.2.2)
theorem ze_ct1 {v : EV} {ad : List Nat} {x : Value} (hv : ze_V sp ρ ad v x) (h : Nat.beq (ze_ct v) 1 = true) : x.category = 1 := by rw [ze_cat hv]; exact ze_beq h
theorem zs_dup (hK : ze_KK p l e R s m args below meth c Q z0 dC dI dA sp xs A nL V kk) (hn : ze_at V nx pc2) (h : zo_dup nx ca cb cd tl jp kk k cal mc ms ls st w g nc ns = true) (hH : ze_H z0 dC dI dA sp xs A s nL ls st w g ρ ws H locs la vs)
    (row : ∀ (va : Value) (rest : List Value), va.category = 1 → W p l e R s m args below meth c H locs nc ns Q (F0 m pc2 la (va :: va :: rest)) → W p l e R s m args below meth c H locs nc ns Q (F0 m pc la (va :: rest))) : W p l e R s m args below meth c H locs nc ns Q (F0 m pc la vs) := by
  match st, h, hH with
  | [], h, _ => exact absurd h (by intro q; cases q)
  | v :: rest, h, hH =>
    obtain ⟨y1, r1, e1, V1, L1⟩ := hH.2.2.2.2.2.2.2.cons
    subst e1
    obtain ⟨q1, q2⟩ := ze_condf h
    exact row y1 r1 (ze_ct1 V1 q1) (hK _ _ _ _ _ _ _ q2 _ hn _ _ _ _ _ _ (hH.stk ⟨V1, V1, L1⟩))
theorem zs_pop (hK : ze_KK p l e R s m args below meth c Q z0 dC dI dA sp xs A nL V kk) (hn : ze_at V nx pc2) (h : zo_pop nx ca cb cd tl jp kk k cal mc ms ls st w g nc ns = true) (hH : ze_H z0 dC dI dA sp xs A s nL ls st w g ρ ws H locs la vs)
    (row : ∀ (va : Value) (rest : List Value), va.category = 1 → W p l e R s m args below meth c H locs nc ns Q (F0 m pc2 la rest) → W p l e R s m args below meth c H locs nc ns Q (F0 m pc la (va :: rest))) : W p l e R s m args below meth c H locs nc ns Q (F0 m pc la vs) := by
  match st, h, hH with
  | [], h, _ => exact absurd h (by intro q; cases q)
  | v :: rest, h, hH =>
    obtain ⟨y1, r1, e1, V1, L1⟩ := hH.2.2.2.2.2.2.2.cons
    subst e1
    obtain ⟨q1, q2⟩ := ze_condf h
    exact row y1 r1 (ze_ct1 V1 q1) (hK _ _ _ _ _ _ _ q2 _ hn _ _ _ _ _ _ (hH.stk L1))
theorem zs_dup_x1 (hK : ze_KK p l e R s m args below meth c Q z0 dC dI dA sp xs A nL V kk) (hn : ze_at V nx pc2) (h : zo_dup_x1 nx ca cb cd tl jp kk k cal mc ms ls st w g nc ns = true) (hH : ze_H z0 dC dI dA sp xs A s nL ls st w g ρ ws H locs la vs)
    (row : ∀ (va vb : Value) (rest : List Value), va.category = 1 → vb.category = 1 → W p l e R s m args below meth c H locs nc ns Q (F0 m pc2 la (va :: vb :: va :: rest)) → W p l e R s m args below meth c H locs nc ns Q (F0 m pc la (va :: vb :: rest))) : W p l e R s m args below meth c H locs nc ns Q (F0 m pc la vs) := by
  match st, h, hH with
  | [], h, _ => exact absurd h (by intro q; cases q)
  | [_], h, _ => exact absurd h (by intro q; cases q)
  | v :: u :: rest, h, hH =>
    obtain ⟨y1, r1, e1, V1, L1⟩ := hH.2.2.2.2.2.2.2.cons
    obtain ⟨y2, r2, e2, V2, L2⟩ := L1.cons
    subst e1; subst e2
    obtain ⟨q1, q2⟩ := ze_condf h
    obtain ⟨q3, q4⟩ := ze_condf q2
    exact row y1 y2 r2 (ze_ct1 V1 q1) (ze_ct1 V2 q3) (hK _ _ _ _ _ _ _ q4 _ hn _ _ _ _ _ _ (hH.stk ⟨V1, V2, V1, L2⟩))
theorem zs_dup_x2 (hK : ze_KK p l e R s m args below meth c Q z0 dC dI dA sp xs A nL V kk) (hn : ze_at V nx pc2) (h : zo_dup_x2 nx ca cb cd tl jp kk k cal mc ms ls st w g nc ns = true) (hH : ze_H z0 dC dI dA sp xs A s nL ls st w g ρ ws H locs la vs)
    (row : ∀ (va vb vd : Value) (rest : List Value), va.category = 1 → vb.category = 1 → vd.category = 1 → W p l e R s m args below meth c H locs nc ns Q (F0 m pc2 la (va :: vb :: vd :: va :: rest)) → W p l e R s m args below meth c H locs nc ns Q (F0 m pc la (va :: vb :: vd :: rest))) : W p l e R s m args below meth c H locs nc ns Q (F0 m pc la vs) := by
  match st, h, hH with
  | [], h, _ => exact absurd h (by intro q; cases q)
  | [_], h, _ => exact absurd h (by intro q; cases q)
  | [_, _], h, _ => exact absurd h (by intro q; cases q)
  | v :: u :: z :: rest, h, hH =>
    obtain ⟨y1, r1, e1, V1, L1⟩ := hH.2.2.2.2.2.2.2.cons
    obtain ⟨y2, r2, e2, V2, L2⟩ := L1.cons
    obtain ⟨y3, r3, e3, V3, L3⟩ := L2.cons
    subst e1; subst e2; subst e3
    obtain ⟨q1, q2⟩ := ze_condf h
    obtain ⟨q3, q4⟩ := ze_condf q2
    obtain ⟨q5, q6⟩ := ze_condf q4
    exact row y1 y2 y3 r3 (ze_ct1 V1 q1) (ze_ct1 V2 q3) (ze_ct1 V3 q5) (hK _ _ _ _ _ _ _ q6 _ hn _ _ _ _ _ _ (hH.stk ⟨V1, V2, V3, V1, L3⟩))
theorem zs_dup2 (hK : ze_KK p l e R s m args below meth c Q z0 dC dI dA sp xs A nL V kk) (hn : ze_at V nx pc2) (h : zo_dup2 nx ca cb cd tl jp kk k cal mc ms ls st w g nc ns = true) (hH : ze_H z0 dC dI dA sp xs A s nL ls st w g ρ ws H locs la vs)
    (row : ∀ (va vb : Value) (rest : List Value), va.category = 1 → vb.category = 1 → W p l e R s m args below meth c H locs nc ns Q (F0 m pc2 la (va :: vb :: va :: vb :: rest)) → W p l e R s m args below meth c H locs nc ns Q (F0 m pc la (va :: vb :: rest))) : W p l e R s m args below meth c H locs nc ns Q (F0 m pc la vs) := by
  match st, h, hH with
  | [], h, _ => exact absurd h (by intro q; cases q)
  | [_], h, _ => exact absurd h (by intro q; cases q)
  | v :: u :: rest, h, hH =>
    obtain ⟨y1, r1, e1, V1, L1⟩ := hH.2.2.2.2.2.2.2.cons
    obtain ⟨y2, r2, e2, V2, L2⟩ := L1.cons
    subst e1; subst e2
    obtain ⟨q1, q2⟩ := ze_condf h
    obtain ⟨q3, q4⟩ := ze_condf q2
    exact row y1 y2 r2 (ze_ct1 V1 q1) (ze_ct1 V2 q3) (hK _ _ _ _ _ _ _ q4 _ hn _ _ _ _ _ _ (hH.stk ⟨V1, V2, V1, V2, L2⟩))
/-- two ints compared: what holds where the branch is taken, where it isn't -/
def zc_ok (sp : Nat → Nat) (ρ : List Int32) (ad : List Nat) (f : EG → EV → EV → (EG → Bool) → (EG → Bool) → Bool) (T F : Int32 → Int32 → Prop) : Prop :=
  ∀ (g : EG) (v1 v2 : EV) (kt kf : EG → Bool) (X Y : Value), f g v1 v2 kt kf = true → ze_G g ρ → ze_V sp ρ ad v1 X → ze_V sp ρ ad v2 Y → ∃ x y, X = .int x ∧ Y = .int y ∧ (T x y → ∃ g', ze_G g' ρ ∧ kt g' = true) ∧ (F x y → ∃ g', ze_G g' ρ ∧ kf g' = true)
theorem zc_eq_ok {ad : List Nat} : zc_ok sp ρ ad zc_eq (fun x y => x = y) (fun x y => ¬ x = y) := fun g v1 v2 kt kf X Y h hG h1 h2 => ze_eq_spec h hG h1 h2
theorem zc_ne_ok {ad : List Nat} : zc_ok sp ρ ad zc_ne (fun x y => ¬ x = y) (fun x y => x = y) := fun g v1 v2 kt kf X Y h hG h1 h2 => by
  obtain ⟨x, y, a, b, q1, q2⟩ := ze_eq_spec h hG h1 h2
  exact ⟨x, y, a, b, q2, q1⟩
theorem zc_lt_ok {ad : List Nat} : zc_ok sp ρ ad zc_lt (fun x y => x < y) (fun x y => ¬ x < y) := fun g v1 v2 kt kf X Y h hG h1 h2 => ze_lt_spec h hG h1 h2
theorem zc_ge_ok {ad : List Nat} : zc_ok sp ρ ad zc_ge (fun x y => y ≤ x) (fun x y => ¬ y ≤ x) := fun g v1 v2 kt kf X Y h hG h1 h2 => by
  obtain ⟨x, y, a, b, q1, q2⟩ := ze_lt_spec h hG h1 h2
  exact ⟨x, y, a, b, fun n => q2 (Int32.not_lt.mpr n), fun n => q1 (Int32.not_le.mp n)⟩
theorem zc_gt_ok {ad : List Nat} : zc_ok sp ρ ad zc_gt (fun x y => y < x) (fun x y => ¬ y < x) := fun g v1 v2 kt kf X Y h hG h1 h2 => by
  obtain ⟨y, x, a, b, q1, q2⟩ := ze_lt_spec h hG h2 h1
  exact ⟨x, y, b, a, q1, q2⟩
theorem zc_le_ok {ad : List Nat} : zc_ok sp ρ ad zc_le (fun x y => x ≤ y) (fun x y => ¬ x ≤ y) := fun g v1 v2 kt kf X Y h hG h1 h2 => by
  obtain ⟨y, x, a, b, q1, q2⟩ := ze_lt_spec h hG h2 h1
  exact ⟨x, y, b, a, fun n => q2 (Int32.not_lt.mpr n), fun n => q1 (Int32.not_le.mp n)⟩
theorem zs_b2 {f : EG → EV → EV → (EG → Bool) → (EG → Bool) → Bool} {Tt Ff : Int32 → Int32 → Prop} {tgt : Nat} (hf : zc_ok sp ρ (ws.map (·.1)) f Tt Ff) (hK : ze_KK p l e R s m args below meth c Q z0 dC dI dA sp xs A nL V kk) (hn : ze_at V nx pc2) (ht : ∀ f : List ECE → Bool, jp ca f = true → ∃ cs, f cs = true ∧ ze_at V cs tgt) (h : zo_b2 f nx ca cb cd tl jp kk k cal mc ms ls st w g nc ns = true) (hH : ze_H z0 dC dI dA sp xs A s nL ls st w g ρ ws H locs la vs)
    (row : ∀ (x y : Int32) (rest : List Value), (Tt x y → W p l e R s m args below meth c H locs nc ns Q (F0 m tgt la rest)) → (Ff x y → W p l e R s m args below meth c H locs nc ns Q (F0 m pc2 la rest)) → W p l e R s m args below meth c H locs nc ns Q (F0 m pc la (.int y :: .int x :: rest))) : W p l e R s m args below meth c H locs nc ns Q (F0 m pc la vs) := by
  match st, h, hH with
  | [], h, _ => exact absurd h (by intro q; cases q)
  | [_], h, _ => exact absurd h (by intro q; cases q)
  | v2 :: v1 :: rest, h, hH =>
    obtain ⟨y1, r1, e1, V1, L1⟩ := hH.2.2.2.2.2.2.2.cons
    obtain ⟨y2, r2, e2, V2, L2⟩ := L1.cons
    subst e1; subst e2
    obtain ⟨x, y, ex, ey, q1, q2⟩ := hf g v1 v2 _ _ _ _ h hH.1 V2 V1
    subst ex; subst ey
    refine row x y r2 (fun t => ?_) (fun t => ?_)
    · obtain ⟨g', hG, q⟩ := q1 t
      obtain ⟨cs9, q9, h9⟩ := ht _ q
      exact hK _ _ _ _ _ _ _ q9 _ h9 _ _ _ _ _ _ ((hH.stk L2).gs hG)
    · obtain ⟨g', hG, q⟩ := q2 t
      exact hK _ _ _ _ _ _ _ q _ hn _ _ _ _ _ _ ((hH.stk L2).gs hG)
theorem zs_b1 {f : EG → EV → EV → (EG → Bool) → (EG → Bool) → Bool} {Tt Ff : Int32 → Int32 → Prop} {tgt : Nat} (hf : zc_ok sp ρ (ws.map (·.1)) f Tt Ff) (hK : ze_KK p l e R s m args below meth c Q z0 dC dI dA sp xs A nL V kk) (hn : ze_at V nx pc2) (ht : ∀ f : List ECE → Bool, jp ca f = true → ∃ cs, f cs = true ∧ ze_at V cs tgt) (h : zo_b1 f nx ca cb cd tl jp kk k cal mc ms ls st w g nc ns = true) (hH : ze_H z0 dC dI dA sp xs A s nL ls st w g ρ ws H locs la vs)
    (row : ∀ (x : Int32) (rest : List Value), (Tt x 0 → W p l e R s m args below meth c H locs nc ns Q (F0 m tgt la rest)) → (Ff x 0 → W p l e R s m args below meth c H locs nc ns Q (F0 m pc2 la rest)) → W p l e R s m args below meth c H locs nc ns Q (F0 m pc la (.int x :: rest))) : W p l e R s m args below meth c H locs nc ns Q (F0 m pc la vs) := by
  match st, h, hH with
  | [], h, _ => exact absurd h (by intro q; cases q)
  | v1 :: rest, h, hH =>
    obtain ⟨y1, r1, e1, V1, L1⟩ := hH.2.2.2.2.2.2.2.cons
    subst e1
    obtain ⟨x, y, ex, ey, q1, q2⟩ := hf g v1 (eC 0) _ _ _ (.int (nI 0)) h hH.1 V1 rfl
    subst ex
    cases ey
    rw [nI_0] at q1 q2
    refine row x r1 (fun t => ?_) (fun t => ?_)
    · obtain ⟨g', hG, q⟩ := q1 t
      obtain ⟨cs9, q9, h9⟩ := ht _ q
      exact hK _ _ _ _ _ _ _ q9 _ h9 _ _ _ _ _ _ ((hH.stk L1).gs hG)
    · obtain ⟨g', hG, q⟩ := q2 t
      exact hK _ _ _ _ _ _ _ q _ hn _ _ _ _ _ _ ((hH.stk L1).gs hG)
theorem zs_ifnull {tgt : Nat} (hK : ze_KK p l e R s m args below meth c Q z0 dC dI dA sp xs A nL V kk) (hn : ze_at V nx pc2) (ht : ∀ f : List ECE → Bool, jp ca f = true → ∃ cs, f cs = true ∧ ze_at V cs tgt) (h : zo_ifnull nx ca cb cd tl jp kk k cal mc ms ls st w g nc ns = true) (hH : ze_H z0 dC dI dA sp xs A s nL ls st w g ρ ws H locs la vs)
    (row : ∀ (x : Nat) (rest : List Value), W p l e R s m args below meth c H locs nc ns Q (F0 m pc2 la rest) → W p l e R s m args below meth c H locs nc ns Q (F0 m pc la (.ref x :: rest)))
    (rowN : ∀ (rest : List Value), W p l e R s m args below meth c H locs nc ns Q (F0 m tgt la rest) → W p l e R s m args below meth c H locs nc ns Q (F0 m pc la (.null :: rest))) : W p l e R s m args below meth c H locs nc ns Q (F0 m pc la vs) := by
  unfold zo_ifnull at h
  split at h
  · obtain ⟨y1, r1, e1, V1, L1⟩ := hH.2.2.2.2.2.2.2.cons
    subst e1
    obtain ⟨z, z1, z2⟩ := id V1
    subst z2
    exact row z r1 (hK _ _ _ _ _ _ _ h _ hn _ _ _ _ _ _ (hH.stk L1))
  · obtain ⟨y1, r1, e1, V1, L1⟩ := hH.2.2.2.2.2.2.2.cons
    subst e1
    have z2 : y1 = .null := V1
    subst z2
    obtain ⟨cs9, q9, h9⟩ := ht _ h
    exact rowN r1 (hK _ _ _ _ _ _ _ q9 _ h9 _ _ _ _ _ _ (hH.stk L1))
  · cases h
theorem zs_ifnonnull {tgt : Nat} (hK : ze_KK p l e R s m args below meth c Q z0 dC dI dA sp xs A nL V kk) (hn : ze_at V nx pc2) (ht : ∀ f : List ECE → Bool, jp ca f = true → ∃ cs, f cs = true ∧ ze_at V cs tgt) (h : zo_ifnonnull nx ca cb cd tl jp kk k cal mc ms ls st w g nc ns = true) (hH : ze_H z0 dC dI dA sp xs A s nL ls st w g ρ ws H locs la vs)
    (row : ∀ (x : Nat) (rest : List Value), W p l e R s m args below meth c H locs nc ns Q (F0 m tgt la rest) → W p l e R s m args below meth c H locs nc ns Q (F0 m pc la (.ref x :: rest)))
    (rowN : ∀ (rest : List Value), W p l e R s m args below meth c H locs nc ns Q (F0 m pc2 la rest) → W p l e R s m args below meth c H locs nc ns Q (F0 m pc la (.null :: rest))) : W p l e R s m args below meth c H locs nc ns Q (F0 m pc la vs) := by
  unfold zo_ifnonnull at h
  split at h
  · obtain ⟨y1, r1, e1, V1, L1⟩ := hH.2.2.2.2.2.2.2.cons
    subst e1
    obtain ⟨z, z1, z2⟩ := id V1
    subst z2
    obtain ⟨cs9, q9, h9⟩ := ht _ h
    exact row z r1 (hK _ _ _ _ _ _ _ q9 _ h9 _ _ _ _ _ _ (hH.stk L1))
  · obtain ⟨y1, r1, e1, V1, L1⟩ := hH.2.2.2.2.2.2.2.cons
    subst e1
    have z2 : y1 = .null := V1
    subst z2
    exact rowN r1 (hK _ _ _ _ _ _ _ h _ hn _ _ _ _ _ _ (hH.stk L1))
  · cases h
theorem zs_swu {i a : Nat} {go : Nat → EG → Bool} {x : Int32} (hx : ρ[i]? = some x) : ∀ (tl : List Nat) (odd : Bool) (mm : Nat) (g : EG), zo_swu i a tl go odd mm g = true → ze_G g ρ → ∃ g', ze_G g' ρ ∧ go (ze_tg (ze_b x) a tl odd mm) g' = true := by
  intro tl
  induction tl with
  | nil => intro odd mm g h hG; exact ⟨g, hG, h⟩
  | cons t r ih =>
    intro odd mm g h hG
    cases odd with
    | false => exact ih true t g h hG
    | true =>
      have h : ze_eu g i mm (fun g => go t g) (fun g => zo_swu i a r go false 0 g) = true := h
      have k := ze_eu_spec h hG hx
      show ∃ g', ze_G g' ρ ∧ go (cond (Nat.beq mm (ze_b x)) t (ze_tg (ze_b x) a r false 0)) g' = true
      cases e : Nat.beq mm (ze_b x) with
      | true =>
        obtain ⟨g', q1, q2⟩ := k.1 (ze_beq e).symm
        exact ⟨g', q1, q2⟩
      | false =>
        obtain ⟨g', q1, q2⟩ := k.2 (fun q => ze_nbeq e q.symm)
        exact ih false 0 g' q2 q1
theorem zs_sw (hK : ze_KK p l e R s m args below meth c Q z0 dC dI dA sp xs A nL V kk) (h : zo_sw nx ca cb cd tl jp kk k cal mc ms ls st w g nc ns = true) (hH : ze_H z0 dC dI dA sp xs A s nL ls st w g ρ ws H locs la vs)
    (row : ∀ (x : Int32) (rest : List Value), ∃ tgt, (∀ f : List ECE → Bool, jp (ze_tg (ze_b x) ca tl false 0) f = true → ∃ cs, f cs = true ∧ ze_at V cs tgt) ∧ (W p l e R s m args below meth c H locs nc ns Q (F0 m tgt la rest) → W p l e R s m args below meth c H locs nc ns Q (F0 m pc la (.int x :: rest)))) : W p l e R s m args below meth c H locs nc ns Q (F0 m pc la vs) := by
  match st, h, hH with
  | [], h, _ => exact absurd h (by intro q; cases q)
  | v1 :: rest, h, hH =>
    obtain ⟨y1, r1, e1, V1, L1⟩ := hH.2.2.2.2.2.2.2.cons
    subst e1
    have h : ze_rs g v1 _ _ = true := h
    obtain ⟨x, ex, hx⟩ := ze_rs_spec h hH.1 V1
    subst ex
    obtain ⟨tgt, ht, rw1⟩ := row x r1
    refine rw1 ?_
    rcases hx with ⟨a, ea, hx⟩ | ⟨i, ei, hi, hx⟩
    · rw [ze_f_eq, ze_z_eq, ← ea] at hx
      obtain ⟨cs9, q9, h9⟩ := ht _ hx
      exact hK _ _ _ _ _ _ _ q9 _ h9 _ _ _ _ _ _ (hH.stk L1)
    · obtain ⟨g', hG, q⟩ := zs_swu hi tl false 0 g hx hH.1
      obtain ⟨cs9, q9, h9⟩ := ht _ q
      exact hK _ _ _ _ _ _ _ q9 _ h9 _ _ _ _ _ _ ((hH.stk L1).gs hG)
end ZS2
end
section
/-- what the tables say of the classes, of the arrays -/
def ze_CF : Prop := ∀ (ci : Nat) (C : String) (T : u_T) (N : Nat), vwCl[ci]? = some (C, T, N) → ci < 100 ∧ (∀ w ∈ u_ws C T N, w ∈ zb_T) ∧ (∃ ty0 : Nat → FieldType, ∀ k, k < N → parseFieldDescriptor (T k).2.2.1 = some (ty0 k)) ∧ ∀ a, a < N → ∀ b, b < N → a ≠ b → (T a).2.1 ≠ (T b).2.1
def ze_AF : Prop := ∀ ci ∈ ze_rk, ∃ r : vw_C, vwCl[ci]? = some r ∧ (200 + ci, FieldType.object r.1) ∈ ze_arr
def ze_FL (own : String) (idx : Nat) (T : u_T) (k : Nat) : Prop := Cond.fieldLink own idx (T k).1 (T k).2.1 (T k).2.2.1 ∈ zb_T ∨ ∃ host, Cond.fieldLinkNest own idx (T k).1 (T k).2.1 (T k).2.2.1 host ∈ ze_nest
def ze_ty (t : Nat) (ty : FieldType) : Prop := (t = 0 ∧ ty = .int) ∨ (t = 1 ∧ ty = .boolean) ∨ (t = 2 ∧ ∃ n, ty = .object n) ∨ (t = 2 ∧ ∃ n, ty = .array n) ∨ (t = 3 ∧ ty = .long) ∨ (t = 4 ∧ ty = .char)
theorem ze_char (n : Nat) (h : n ≤ 65535) : narrow .char (.int (nI n)) = .int (nI n) ∧ fits .char (.int (nI n)) = true := pk_charN (by omega)
theorem ze_mem_in : ∀ (l : List Nat) (n : Nat), ze_mem n l = true → n ∈ l := by
  intro l
  induction l with
  | nil => intro n h; cases h
  | cons a t ih =>
    intro n h
    have h : cond (Nat.beq a n) true (ze_mem n t) = true := h
    rcases ze_cond h with ⟨q, _⟩ | ⟨_, q⟩
    · rw [ze_beq q]; exact List.mem_cons_self
    · exact List.mem_cons_of_mem _ (ih n q)
theorem ze_fit {sp : Nat → Nat} {ρ : List Int32} {ad : List Nat} {t : Nat} {ty : FieldType} {v : EV} {x : Value} (h : ze_ty t ty) (hc : ze_tc t v = true) (hv : ze_V sp ρ ad v x) : narrow ty x = x ∧ fits ty x = true := by
  rcases h with ⟨rfl, rfl⟩ | ⟨rfl, rfl⟩ | ⟨rfl, n, rfl⟩ | ⟨rfl, n, rfl⟩ | ⟨rfl, rfl⟩ | ⟨rfl, rfl⟩
  · match v, hc, hv with
    | .inl u, _, hv =>
      obtain ⟨z, ez⟩ := ze_intV hv
      subst ez
      exact ⟨rfl, rfl⟩
    | .inr u, hc, _ => exact absurd hc (by intro q; cases q)
  · match v, hc, hv with
    | .inl (.inl n), hc, hv =>
      have e : x = .int (nI n) := hv
      subst e
      have hn : n ≤ 1 := ze_ble' hc
      rcases Nat.lt_or_ge n 1 with q | q
      · rw [show n = 0 by omega]; exact ⟨by decide +kernel, by decide +kernel⟩
      · rw [show n = 1 by omega]; exact ⟨by decide +kernel, by decide +kernel⟩
    | .inl (.inr n), hc, _ => exact absurd hc (by intro q; cases q)
    | .inr u, hc, _ => exact absurd hc (by intro q; cases q)
  · match v, hc, hv with
    | .inl u, hc, _ => exact absurd hc (by intro q; cases q)
    | .inr (.inl (.inl k)), _, ⟨a, _, e⟩ => subst e; exact ⟨rfl, rfl⟩
    | .inr (.inl (.inr k)), hc, _ => exact absurd hc (by intro q; cases q)
    | .inr (.inr 0), _, e => rw [show x = .null from e]; exact ⟨rfl, rfl⟩
    | .inr (.inr (k + 1)), hc, _ => exact absurd hc (by intro q; cases q)
  · match v, hc, hv with
    | .inl u, hc, _ => exact absurd hc (by intro q; cases q)
    | .inr (.inl (.inl k)), _, ⟨a, _, e⟩ => subst e; exact ⟨rfl, rfl⟩
    | .inr (.inl (.inr k)), hc, _ => exact absurd hc (by intro q; cases q)
    | .inr (.inr 0), _, e => rw [show x = .null from e]; exact ⟨rfl, rfl⟩
    | .inr (.inr (k + 1)), hc, _ => exact absurd hc (by intro q; cases q)
  · match v, hc, hv with
    | .inl u, hc, _ => exact absurd hc (by intro q; cases q)
    | .inr (.inl (.inl k)), hc, _ => exact absurd hc (by intro q; cases q)
    | .inr (.inl (.inr k)), _, e => obtain ⟨z, ez⟩ := ze_longV e; rw [ez]; exact ⟨rfl, rfl⟩
    | .inr (.inr k), hc, _ => exact absurd hc (by intro q; cases q)
  · match v, hc, hv with
    | .inl (.inl n), hc, hv =>
      have e : x = .int (nI n) := hv
      subst e
      exact ze_char n (ze_ble' hc)
    | .inl (.inr n), hc, _ => exact absurd hc (by intro q; cases q)
    | .inr u, hc, _ => exact absurd hc (by intro q; cases q)
section ZS3
variable {p : Program} {l : Launch} {e : Env} {R : Room} {s : State} {m : MethodId} {args : Array Value} {below : List Frame} {meth : Method} {c : Code} {Q : State → Prop}
variable {z0 : List Int32 × List Nat} {dC : Nat → ClassId} {dI : Nat → Nat → Nat} {dA : Nat → ClassId} {sp : Nat → Nat} {xs : Nat → Int32} {A : Nat → Prop} {nL : Nat} {V : List ECE → Prop}
variable {kk : EKn} {k : ERt} {cal : ECal} {mc ms pc pc2 ca cb cd nc ns : Nat} {nx : List ECE} {jp : EJp} {tl : List Nat} {ls st : List EV} {w : EW} {g : EG} {ρ : List Int32} {ws : va_W} {H : Heap} {locs : List Loc} {la : Array Slot} {vs : List Value}
variable {cc : ByteArray} {own : String} {idx : Nat}
/-- behind a store into a cell -/
theorem ze_H.put {q a : Nat} {e0 e1 : va_E} {c1 : EC} {H1 : Heap} {locs1 : List Loc} {rest : List EV} {vr : List Value} (hH : ze_H z0 dC dI dA sp xs A s nL ls st w g ρ ws H locs la vs) (hq : ws[q]? = some (a, e0)) (hC : ze_C dA sp ρ (ws.map (·.1)) c1 e1) (hP : va_P (dC, dI) vwCl (ws.set q (a, e1)) H1) (hD : va_D A (ws.set q (a, e1))) (hS : va_S A s.heap H1 locs1) (hr : ze_L sp ρ (ws.map (·.1)) rest vr) :
    ze_H z0 dC dI dA sp xs A s nL ls rest (ze_ws w q c1) g ρ (ws.set q (a, e1)) H1 locs1 la vr := by
  obtain ⟨lv, hl, hL⟩ := hH.2.2.2.2.2.2.1
  exact ⟨hH.1, ⟨hH.2.1.1, hH.2.1.2.1, by rw [ze_fst hq]; exact hH.2.1.2.2⟩, hH.2.2.1.set hq hC, hP, hD, hS, ⟨lv, hl, by rw [ze_fst hq]; exact hL⟩, by rw [ze_fst hq]; exact hr⟩
theorem zs_getf {C : String} {T : u_T} {N : Nat} (hx : p.tables.exec = Jvm.exec) (hb : c.code = cc) (hown : s.vm.findClass own = some m.cls) (hKs : ze_K dC dI dA s) (hts : ∀ w ∈ zb_T, w.before args s = true) (hcf : ze_CF) (hK : ze_KK p l e R s m args below meth c Q z0 dC dI dA sp xs A nL V kk)
    (hc : vwCl[ca]? = some (C, T, N)) (hkN : cb < N) (hl : ze_FL own idx T cb) (hdg : decode cc pc = .ok (.getfield idx, 3)) (hn : ze_at V nx (pc + 3)) (h : zo_getf nx ca cb cd tl jp kk k cal mc ms ls st w g nc ns = true) (hH : ze_H z0 dC dI dA sp xs A s nL ls st w g ρ ws H locs la vs) : W p l e R s m args below meth c H locs nc ns Q (F0 m pc la vs) := by
  rw [zo_getf_eq] at h
  unfold zo_getf_m at h
  split at h
  · obtain ⟨y1, r1, e1, V1, L1⟩ := hH.2.2.2.2.2.2.2.cons
    subst e1
    obtain ⟨cl, h1, h2⟩ := ze_g_spec h
    obtain ⟨h3, h4⟩ := ze_condf h2
    obtain ⟨v, h5, h6⟩ := ze_n_spec _ _ _ h4
    have e3 := ze_beq h3
    obtain ⟨a, en, ex, hw, hC⟩ := hH.2.2.1.ref h1 V1
    subst ex
    have hf := hcf ca C T N hc
    obtain ⟨fs, ef, hfs⟩ := hC.obj (by rw [e3]; exact hf.1)
    rw [e3] at ef
    subst ef
    obtain ⟨x, hx1, hx2⟩ := hfs.get h5
    have k9 := hK _ _ _ _ _ _ _ h6 _ hn _ _ _ _ _ _ (hH.stk (vs' := x :: r1) ⟨hx2, L1⟩)
    rcases hl with hl | ⟨host, hl⟩
    · exact va_get (D := (dC, dI)) hx hb hts hf.2.1 hown hKs.k0 hH.2.2.2.1 _ hw hc cb hkN (hts _ hl) (fun _ h9 => h9) hx1 hdg k9
    · exact va_getN (D := (dC, dI)) hx hb hts hf.2.1 hown hKs.k0 hH.2.2.2.1 _ hw hc cb hkN (va_Nw.use rfl (hKs.2.2.1 _ hl)) (fun _ h9 => h9) hx1 hdg k9
  · cases h
theorem zs_putf {C : String} {T : u_T} {N : Nat} {ty : FieldType} (hx : p.tables.exec = Jvm.exec) (hb : c.code = cc) (hown : s.vm.findClass own = some m.cls) (hKs : ze_K dC dI dA s) (hts : ∀ w ∈ zb_T, w.before args s = true) (hcf : ze_CF) (hK : ze_KK p l e R s m args below meth c Q z0 dC dI dA sp xs A nL V kk)
    (hc : vwCl[ca]? = some (C, T, N)) (hkN : cb < N) (hd : parseFieldDescriptor (T cb).2.2.1 = some ty) (hty : ze_ty cd ty) (hl : ((T cb).2.2.2 = false ∧ ze_FL own idx T cb) ∨ ((T cb).2.2.2 = true ∧ meth.name = "<init>" ∧ (T cb).1 = own ∧ Cond.fieldLink own idx (T cb).1 (T cb).2.1 (T cb).2.2.1 ∈ zb_T))
    (hdg : decode cc pc = .ok (.putfield idx, 3)) (hn : ze_at V nx (pc + 3)) (h : zo_putf nx ca cb cd tl jp kk k cal mc ms ls st w g nc ns = true) (hH : ze_H z0 dC dI dA sp xs A s nL ls st w g ρ ws H locs la vs) : W p l e R s m args below meth c H locs nc ns Q (F0 m pc la vs) := by
  rw [zo_putf_eq] at h
  unfold zo_putf_m at h
  split at h
  · obtain ⟨y1, r1, e1, V1, L1⟩ := hH.2.2.2.2.2.2.2.cons
    obtain ⟨y2, r2, e2, V2, L2⟩ := L1.cons
    subst e1; subst e2
    obtain ⟨h0, h⟩ := ze_condf h
    obtain ⟨cl, h1, h2⟩ := ze_g_spec h
    obtain ⟨h3, h4⟩ := ze_condf h2
    obtain ⟨v, h5, h6⟩ := ze_n_spec _ _ _ h4
    have e3 := ze_beq h3
    obtain ⟨a, en, ex, hw, hC⟩ := hH.2.2.1.ref h1 V2
    subst ex
    have hf := hcf ca C T N hc
    obtain ⟨ty0, hty0⟩ := hf.2.2.1
    obtain ⟨fs, ef, hfs⟩ := hC.obj (by rw [e3]; exact hf.1)
    rw [e3] at ef
    subst ef
    obtain ⟨hn1, hn2⟩ := ze_fit hty h0 V1
    have hlen : cb < fs.length := by rw [← hfs.len]; exact (List.getElem?_eq_some_iff.mp h5).1
    have hC2 : ze_C dA sp ρ (ws.map (·.1)) (ca, ze_s _ cl.2 cb) (.inr (ca, fs.set cb y1)) := Or.inl ⟨hf.1, _, rfl, by show ze_L sp ρ _ (ze_s _ cl.2 cb) _; rw [ze_s_eq]; exact hfs.set V1 cb⟩
    have k9 : ∀ (H1 : Heap) (locs1 : List Loc), va_P (dC, dI) vwCl (ws.set _ (a, .inr (ca, fs.set cb y1))) H1 → va_D A (ws.set _ (a, .inr (ca, fs.set cb y1))) → va_S A s.heap H1 locs1 → W p l e R s m args below meth c H1 locs1 nc ns Q (F0 m (pc + 3) la r2) :=
      fun H1 locs1 g1 g2 g3 => hK _ _ _ _ _ _ _ h6 _ hn _ _ _ _ _ _ (hH.put hw hC2 g1 g2 g3 L2)
    rcases hl with ⟨hfin, hl | ⟨host, hl⟩⟩ | ⟨hfin, hin, hdc, hl⟩
    · exact va_put (D := (dC, dI)) hx hb hts hf.2.1 ty0 hty0 hf.2.2.2 hown hKs.k0 hH.2.2.2.1 hH.2.2.2.2.1 hH.2.2.2.2.2.1 _ hw hc cb hkN (hts _ hl) (fun _ h9 => h9) hfin hd hn1 hn2 hlen hdg k9
    · exact va_putN (D := (dC, dI)) hx hb hts hf.2.1 ty0 hty0 hf.2.2.2 hown hKs.k0 hH.2.2.2.1 hH.2.2.2.2.1 hH.2.2.2.2.2.1 _ hw hc cb hkN (va_Nw.use rfl (hKs.2.2.1 _ hl)) (fun _ h9 => h9) hfin hd hn1 hn2 hlen hdg k9
    · exact va_putF (D := (dC, dI)) hx hb hts hf.2.1 ty0 hty0 hf.2.2.2 hown hKs.k0 hH.2.2.2.1 hH.2.2.2.2.1 hH.2.2.2.2.2.1 _ hw hc cb hkN (hts _ hl) (fun _ h9 => h9) hfin hin hdc hd hn1 hn2 hlen hdg k9
  · cases h
theorem ze_vin {n N : Nat} (h : n ≤ 1073741824) (hN : n < N) : vp_in (nI n) N := by
  intro q
  rcases q with q | q
  · exact nI_pos (by omega) q
  · rw [nI_clamp (by omega)] at q
    omega
theorem ze_cln {n : Nat} (h : n ≤ 1073741824) : (nI n).toNatClampNeg = n := nI_clamp (by omega)
/-- an element of an array of ints -/
theorem zs_ald {kd : Nat} (h1k : 100 ≤ kd) (h2k : kd < 150) (hK : ze_KK p l e R s m args below meth c Q z0 dC dI dA sp xs A nL V kk) (hn : ze_at V nx pc2) (h : zo_ald kd nx ca cb cd tl jp kk k cal mc ms ls st w g nc ns = true) (hH : ze_H z0 dC dI dA sp xs A s nL ls st w g ρ ws H locs la vs)
    (row : ∀ (q a n : Nat) (f : Nat → Int32) (i : Int32) (rest : List Value), ws[q]? = some (a, .inl (dA kd, n, .inl f)) → vp_in i n → W p l e R s m args below meth c H locs nc ns Q (F0 m pc2 la (.int (f i.toNatClampNeg) :: rest)) → W p l e R s m args below meth c H locs nc ns Q (F0 m pc la (.int i :: .ref a :: rest))) : W p l e R s m args below meth c H locs nc ns Q (F0 m pc la vs) := by
  rw [zo_ald_eq] at h
  unfold zo_ald_m at h
  split at h
  · obtain ⟨y1, r1, e1, V1, L1⟩ := hH.2.2.2.2.2.2.2.cons
    obtain ⟨y2, r2, e2, V2, L2⟩ := L1.cons
    subst e1; subst e2
    obtain ⟨n, g', en, hG', hx⟩ := ze_ix_spec h hH.1 V1
    subst en
    · obtain ⟨h0, hx⟩ := ze_condf hx
      obtain ⟨cl, h1, h2⟩ := ze_g_spec hx
      obtain ⟨h3, h4⟩ := ze_condf h2
      obtain ⟨v, h5, h6⟩ := ze_n_spec _ _ _ h4
      have e3 := ze_beq h3
      have h0 := ze_ble' h0
      obtain ⟨a, eq, ex, hw, hC⟩ := hH.2.2.1.ref h1 V2
      subst ex
      obtain ⟨f, ef, hf⟩ := hC.ints (by omega) (by omega)
      rw [e3] at ef
      subst ef
      refine row _ a _ f _ r2 hw (ze_vin h0 (List.getElem?_eq_some_iff.mp h5).1) ?_
      rw [ze_cln h0]
      exact hK _ _ _ _ _ _ _ h6 _ hn _ _ _ _ _ _ ((hH.gs hG').stk ⟨hf n v h5, L2⟩)
  · cases h
theorem zs_lald (hK : ze_KK p l e R s m args below meth c Q z0 dC dI dA sp xs A nL V kk) (hn : ze_at V nx pc2) (h : zo_ald 150 nx ca cb cd tl jp kk k cal mc ms ls st w g nc ns = true) (hH : ze_H z0 dC dI dA sp xs A s nL ls st w g ρ ws H locs la vs)
    (row : ∀ (q a n : Nat) (f : Nat → Int64) (i : Int32) (rest : List Value), ws[q]? = some (a, .inl (dA 150, n, .inr (.inl f))) → vp_in i n → W p l e R s m args below meth c H locs nc ns Q (F0 m pc2 la (.long (f i.toNatClampNeg) :: rest)) → W p l e R s m args below meth c H locs nc ns Q (F0 m pc la (.int i :: .ref a :: rest))) : W p l e R s m args below meth c H locs nc ns Q (F0 m pc la vs) := by
  rw [zo_ald_eq] at h
  unfold zo_ald_m at h
  split at h
  · obtain ⟨y1, r1, e1, V1, L1⟩ := hH.2.2.2.2.2.2.2.cons
    obtain ⟨y2, r2, e2, V2, L2⟩ := L1.cons
    subst e1; subst e2
    obtain ⟨n, g', en, hG', hx⟩ := ze_ix_spec h hH.1 V1
    subst en
    · obtain ⟨h0, hx⟩ := ze_condf hx
      obtain ⟨cl, h1, h2⟩ := ze_g_spec hx
      obtain ⟨h3, h4⟩ := ze_condf h2
      obtain ⟨v, h5, h6⟩ := ze_n_spec _ _ _ h4
      have e3 := ze_beq h3
      have h0 := ze_ble' h0
      obtain ⟨a, eq, ex, hw, hC⟩ := hH.2.2.1.ref h1 V2
      subst ex
      obtain ⟨f, ef, hf⟩ := hC.longs (by omega) (by omega)
      rw [e3] at ef
      subst ef
      refine row _ a _ f _ r2 hw (ze_vin h0 (List.getElem?_eq_some_iff.mp h5).1) ?_
      rw [ze_cln h0]
      exact hK _ _ _ _ _ _ _ h6 _ hn _ _ _ _ _ _ ((hH.gs hG').stk ⟨hf n v h5, L2⟩)
  · cases h
theorem zs_aald (hx : p.tables.exec = Jvm.exec) (hb : c.code = cc) (hKs : ze_K dC dI dA s) (haf : ze_AF) (hdg : decode cc pc = .ok (.aaload, 1)) (hK : ze_KK p l e R s m args below meth c Q z0 dC dI dA sp xs A nL V kk) (hn : ze_at V nx (pc + 1)) (h : zo_aald nx ca cb cd tl jp kk k cal mc ms ls st w g nc ns = true) (hH : ze_H z0 dC dI dA sp xs A s nL ls st w g ρ ws H locs la vs) : W p l e R s m args below meth c H locs nc ns Q (F0 m pc la vs) := by
  rw [zo_aald_eq] at h
  unfold zo_aald_m at h
  split at h
  · obtain ⟨y1, r1, e1, V1, L1⟩ := hH.2.2.2.2.2.2.2.cons
    obtain ⟨y2, r2, e2, V2, L2⟩ := L1.cons
    subst e1; subst e2
    obtain ⟨n, g', en, hG', hx'⟩ := ze_ix_spec h hH.1 V1
    subst en
    · obtain ⟨h0, hx'⟩ := ze_condf hx'
      obtain ⟨cl, h1, h2⟩ := ze_g_spec hx'
      obtain ⟨h3, h4⟩ := ze_condf h2
      obtain ⟨h3b, h4⟩ := ze_condf h4
      obtain ⟨v, h5, h6⟩ := ze_n_spec _ _ _ h4
      have e3 := ze_ble' h3
      have h0 := ze_ble' h0
      obtain ⟨a, eq, ex, hw, hC⟩ := hH.2.2.1.ref h1 V2
      subst ex
      obtain ⟨f, ef, hf⟩ := hC.refs e3
      subst ef
      obtain ⟨r, hr1, hr2⟩ := haf _ (ze_mem_in _ _ h3b)
      rw [show 200 + Nat.sub cl.1 200 = cl.1 by show 200 + (cl.1 - 200) = cl.1; omega] at hr2
      refine va_aldq (D := (dC, dI)) hx hb (hKs.k1 hr2) hH.2.2.2.1 _ 0 hw rfl (ze_vin h0 (List.getElem?_eq_some_iff.mp h5).1) hdg ?_
      rw [ze_cln h0]
      exact hK _ _ _ _ _ _ _ h6 _ hn _ _ _ _ _ _ ((hH.gs hG').stk ⟨hf n v h5, L2⟩)
  · cases h
/-- the script -/
def ze_X (sp : Nat → Nat) (xs : Nat → Int32) (A : Nat → Prop) (s : State) : Prop := va_X (sp 0) (sp 1) xs s s.heap ∧ sp 0 < s.heap.size ∧ ¬ A (sp 0) ∧ sp 1 ≤ 5 ∧ xs 5 = nI (sp 1)
theorem zi_len {g : EG} {ρ : List Int32} {q : Nat × Nat} {L n : Nat} {x : Int32} (hG : ze_G g ρ) (hg : g[5]? = some q) (hr : ρ[5]? = some x) (hL : L < 2147483648) (hx : x = nI L) (h : n + 2147483649 ≤ q.1) : n + 1 ≤ L := by
  have h1 := (hG.2 5 q x hg hr).1
  have h2 := ze_b_int x
  rw [hx, nI_toInt hL] at h2
  rw [hx] at h1
  omega
theorem zs_iald (hx : p.tables.exec = Jvm.exec) (hb : c.code = cc) (hKs : ze_K dC dI dA s) (hsc : ze_X sp xs A s) (hai : (100, FieldType.int) ∈ ze_arr) (hdg : decode cc pc = .ok (.iaload, 1)) (hK : ze_KK p l e R s m args below meth c Q z0 dC dI dA sp xs A nL V kk) (hn : ze_at V nx (pc + 1)) (h : zo_iald nx ca cb cd tl jp kk k cal mc ms ls st w g nc ns = true) (hH : ze_H z0 dC dI dA sp xs A s nL ls st w g ρ ws H locs la vs) : W p l e R s m args below meth c H locs nc ns Q (F0 m pc la vs) := by
  unfold zo_iald at h
  split at h
  · obtain ⟨y1, r1, e1, V1, L1⟩ := hH.2.2.2.2.2.2.2.cons
    obtain ⟨y2, r2, e2, V2, L2⟩ := L1.cons
    subst e1; subst e2
    obtain ⟨h1, h2⟩ := ze_condf h
    obtain ⟨h3, h4⟩ := ze_condf h2
    have e1 := ze_beq h1
    subst e1
    have e2 : y2 = .ref (sp 0) := V2
    have e3 : y1 = .int (nI _) := V1
    subst e2; subst e3
    have h3 := ze_ble' h3
    obtain ⟨q9, g9, h4⟩ := ze_n_spec _ _ _ h4
    obtain ⟨h5, h4⟩ := ze_condf h4
    have h5 := ze_ble' h5
    have h6 := zi_len hH.1 g9 (hH.2.1.1 5 (by omega)) (Nat.lt_of_le_of_lt hsc.2.2.2.1 (by omega)) hsc.2.2.2.2 h5
    refine va_sld hx hb hsc.1 hsc.2.1 hsc.2.2.1 hH.2.2.2.2.2.1 (ze_vin (by omega) h6) hdg ?_
    rw [ze_cln (by omega)]
    exact hK _ _ _ _ _ _ _ h4 _ hn _ _ _ _ _ _ (hH.stk ⟨⟨_, hH.2.1.1 _ (by omega), rfl⟩, L2⟩)
  · refine zs_ald (by decide) (by decide) hK hn h hH (fun q a n f i rest hw hin k9 => ?_)
    exact va_iald (D := (dC, dI)) hx hb (hKs.k1 hai) hH.2.2.2.1 q 0 hw rfl hin hdg k9
theorem zs_alen (hx : p.tables.exec = Jvm.exec) (hb : c.code = cc) (hKs : ze_K dC dI dA s) (hsc : ze_X sp xs A s) (hall : ∀ kd ∈ ze_ka, 100 ≤ kd ∧ ∃ ty, (kd, ty) ∈ ze_arr) (hdg : decode cc pc = .ok (.arraylength, 1)) (hK : ze_KK p l e R s m args below meth c Q z0 dC dI dA sp xs A nL V kk) (hn : ze_at V nx (pc + 1)) (h : zo_alen nx ca cb cd tl jp kk k cal mc ms ls st w g nc ns = true) (hH : ze_H z0 dC dI dA sp xs A s nL ls st w g ρ ws H locs la vs) : W p l e R s m args below meth c H locs nc ns Q (F0 m pc la vs) := by
  unfold zo_alen at h
  split at h
  · obtain ⟨y1, r1, e1, V1, L1⟩ := hH.2.2.2.2.2.2.2.cons
    subst e1
    obtain ⟨cl, h1, h2⟩ := ze_g_spec h
    obtain ⟨h3, h4⟩ := ze_condf h2
    rw [ze_f_eq] at h4
    obtain ⟨a, eq, ex, hw, hC⟩ := hH.2.2.1.ref h1 V1
    subst ex
    obtain ⟨h3, ty, hty⟩ := hall cl.1 (ze_mem_in _ _ h3)
    have k9 := hK _ _ _ _ _ _ _ h4 _ hn _ _ _ _ _ _ (hH.stk (vs' := .int (nI cl.2.length) :: r1) ⟨rfl, L1⟩)
    rcases hC with ⟨q, _⟩ | ⟨_, _, f, ef, _⟩ | ⟨_, _, f, ef, _⟩ | ⟨_, f, ef, _⟩
    · omega
    · subst ef; exact va_alen (D := (dC, dI)) hx hb (hKs.k1 hty) hH.2.2.2.1 _ 0 hw rfl rfl hdg k9
    · subst ef; exact va_alen (D := (dC, dI)) hx hb (hKs.k1 hty) hH.2.2.2.1 _ 0 hw rfl rfl hdg k9
    · subst ef; exact va_alen (D := (dC, dI)) hx hb (hKs.k1 hty) hH.2.2.2.1 _ 0 hw rfl rfl hdg k9
  · obtain ⟨y1, r1, e1, V1, L1⟩ := hH.2.2.2.2.2.2.2.cons
    subst e1
    obtain ⟨h1, h2⟩ := ze_condf h
    have e1 := ze_beq h1
    subst e1
    have e2 : y1 = .ref (sp 0) := V1
    subst e2
    refine va_slen hx hb hsc.1 hsc.2.1 hsc.2.2.1 hH.2.2.2.2.2.1 hdg ?_
    exact hK _ _ _ _ _ _ _ h2 _ hn _ _ _ _ _ _ (hH.stk ⟨⟨_, hH.2.1.1 5 (by omega), by rw [hsc.2.2.2.2]; rfl⟩, L1⟩)
  · cases h
end ZS3
end
section
section ZS4
variable {p : Program} {l : Launch} {e : Env} {R : Room} {s : State} {m : MethodId} {args : Array Value} {below : List Frame} {meth : Method} {c : Code} {Q : State → Prop}
variable {z0 : List Int32 × List Nat} {dC : Nat → ClassId} {dI : Nat → Nat → Nat} {dA : Nat → ClassId} {sp : Nat → Nat} {xs : Nat → Int32} {A : Nat → Prop} {nL : Nat} {V : List ECE → Prop}
variable {kk : EKn} {k : ERt} {cal : ECal} {mc ms pc pc2 ca cb cd nc ns : Nat} {nx : List ECE} {jp : EJp} {tl : List Nat} {ls st : List EV} {w : EW} {g : EG} {ρ : List Int32} {ws : va_W} {H : Heap} {locs : List Loc} {la : Array Slot} {vs : List Value}
variable {cc : ByteArray} {own : String} {idx : Nat}
/-- a store into an array: what the engine's own step says -/
theorem zs_put {kd : Nat} {v i : EV} {q : Nat} {rest : List EV} {vr : List Value} {y1 y2 : Value} (hK : ze_KK p l e R s m args below meth c Q z0 dC dI dA sp xs A nL V kk) (hn : ze_at V nx pc2) (h : zo_put kd v i q nx kk ls rest w g nc ns = true) (hH : ze_H z0 dC dI dA sp xs A s nL ls rest w g ρ ws H locs la vr)
    (V1 : ze_V sp ρ (ws.map (·.1)) i y1) (V2 : ze_V sp ρ (ws.map (·.1)) (eR q) y2) : ∃ (n a : Nat) (cl : EC) (e0 : va_E), y1 = .int (nI n) ∧ y2 = .ref a ∧ n ≤ 1073741824 ∧ n < cl.2.length ∧ cl.1 = kd ∧ ws[q]? = some (a, e0) ∧ ze_C dA sp ρ (ws.map (·.1)) cl e0 ∧
      ∀ (e1 : va_E), ze_C dA sp ρ (ws.map (·.1)) (kd, cl.2.set n v) e1 → ∀ (H1 : Heap) (locs1 : List Loc), va_P (dC, dI) vwCl (ws.set q (a, e1)) H1 → va_D A (ws.set q (a, e1)) → va_S A s.heap H1 locs1 → W p l e R s m args below meth c H1 locs1 nc ns Q (F0 m pc2 la vr) := by
  unfold zo_put at h
  obtain ⟨n, g', en, hG', hx⟩ := ze_ix_spec h hH.1 V1
  obtain ⟨h0, hx⟩ := ze_condf hx
  obtain ⟨cl, h1, h2⟩ := ze_g_spec hx
  obtain ⟨h3, h4⟩ := ze_condf h2
  obtain ⟨u, h5, h6⟩ := ze_n_spec _ _ _ h4
  obtain ⟨a, e0, ex2, hw, hC⟩ := hH.2.2.1.ref h1 V2
  refine ⟨n, a, cl, e0, en, ex2, ze_ble' h0, (List.getElem?_eq_some_iff.mp h5).1, ze_beq h3, hw, hC, fun e1 hC1 H1 locs1 g1 g2 g3 => ?_⟩
  rw [ze_s_eq] at h6
  exact hK _ _ _ _ _ _ _ h6 _ hn _ _ _ _ _ _ ((hH.gs hG').put hw hC1 g1 g2 g3 hH.2.2.2.2.2.2.2)
theorem ze_updI {v : EV} {x : Int32} {l0 : List EV} {f : Nat → Int32} {ad : List Nat} {n : Nat} (hf : ∀ (j : Nat) (u : EV), l0[j]? = some u → ze_V sp ρ ad u (.int (f j))) (hv : ze_V sp ρ ad v (.int x)) : ∀ (j : Nat) (u : EV), (l0.set n v)[j]? = some u → ze_V sp ρ ad u (.int (upd f n x j)) := by
  intro j u hj
  by_cases hjn : n = j
  · subst hjn
    by_cases hl : n < l0.length
    · rw [List.getElem?_set_self hl] at hj
      cases hj
      simpa [upd] using hv
    · rw [List.getElem?_eq_none (by rw [List.length_set]; omega)] at hj
      cases hj
  · rw [List.getElem?_set_ne hjn] at hj
    have := hf j u hj
    simpa [upd, Ne.symm hjn] using this
theorem zs_iast (hx : p.tables.exec = Jvm.exec) (hb : c.code = cc) (hKs : ze_K dC dI dA s) (hai : (100, FieldType.int) ∈ ze_arr) (hdg : decode cc pc = .ok (.iastore, 1)) (hK : ze_KK p l e R s m args below meth c Q z0 dC dI dA sp xs A nL V kk) (hn : ze_at V nx (pc + 1)) (h : zo_iast nx ca cb cd tl jp kk k cal mc ms ls st w g nc ns = true) (hH : ze_H z0 dC dI dA sp xs A s nL ls st w g ρ ws H locs la vs) : W p l e R s m args below meth c H locs nc ns Q (F0 m pc la vs) := by
  rw [zo_iast_eq] at h
  unfold zo_iast_m at h
  split at h
  · obtain ⟨y1, r1, e1, V1, L1⟩ := hH.2.2.2.2.2.2.2.cons
    obtain ⟨y2, r2, e2, V2, L2⟩ := L1.cons
    obtain ⟨y3, r3, e3, V3, L3⟩ := L2.cons
    subst e1; subst e2; subst e3
    obtain ⟨z, ez⟩ := ze_intV V1
    subst ez
    obtain ⟨n, a, cl, e0, ey1, ey2, hn1, hn2, hk1, hw, hC, k9⟩ := zs_put hK hn h (hH.stk L3) V2 V3
    subst ey1; subst ey2
    obtain ⟨f, ef, hf⟩ := hC.ints (by omega) (by omega)
    rw [hk1] at ef
    subst ef
    refine va_iast (D := (dC, dI)) hx hb (hKs.k1 hai) hH.2.2.2.1 hH.2.2.2.2.1 hH.2.2.2.2.2.1 _ 0 hw rfl (ze_vin hn1 hn2) hdg (fun H1 locs1 g1 g2 g3 => ?_)
    rw [ze_cln hn1] at g1 g2
    refine k9 _ (Or.inr (Or.inl ⟨(by show 100 ≤ 100; decide), (by show 100 < 150; decide), upd f n z, ?_, ze_updI hf V1⟩)) H1 locs1 g1 g2 g3
    show _ = Sum.inl (_, (cl.2.set n _).length, _)
    rw [List.length_set]
  · cases h
theorem ze_narC {n : Nat} (h : n ≤ 65535) : vp_nar .char (nI n) = nI n := by
  unfold vp_nar
  rw [(ze_char _ h).1]
theorem ze_narZ {n : Nat} (h : n ≤ 1) : vp_nar .boolean (nI n) = nI n := by
  rcases Nat.lt_or_ge n 1 with q | q
  · rw [show n = 0 by omega]; decide +kernel
  · rw [show n = 1 by omega]; decide +kernel
theorem zs_cast (hx : p.tables.exec = Jvm.exec) (hb : c.code = cc) (hKs : ze_K dC dI dA s) (hai : (101, FieldType.char) ∈ ze_arr) (hdg : decode cc pc = .ok (.castore, 1)) (hK : ze_KK p l e R s m args below meth c Q z0 dC dI dA sp xs A nL V kk) (hn : ze_at V nx (pc + 1)) (h : zo_cast nx ca cb cd tl jp kk k cal mc ms ls st w g nc ns = true) (hH : ze_H z0 dC dI dA sp xs A s nL ls st w g ρ ws H locs la vs) : W p l e R s m args below meth c H locs nc ns Q (F0 m pc la vs) := by
  unfold zo_cast at h
  split at h
  · obtain ⟨y1, r1, e1, V1, L1⟩ := hH.2.2.2.2.2.2.2.cons
    obtain ⟨y2, r2, e2, V2, L2⟩ := L1.cons
    obtain ⟨y3, r3, e3, V3, L3⟩ := L2.cons
    subst e1; subst e2; subst e3
    obtain ⟨hu, h⟩ := ze_condf h
    have ez : y1 = .int (nI _) := V1
    subst ez
    obtain ⟨n, a, cl, e0, ey1, ey2, hn1, hn2, hk1, hw, hC, k9⟩ := zs_put hK hn h (hH.stk L3) V2 V3
    subst ey1; subst ey2
    obtain ⟨f, ef, hf⟩ := hC.ints (by omega) (by omega)
    rw [hk1] at ef
    subst ef
    refine va_cast (D := (dC, dI)) hx hb (hKs.k1 hai) hH.2.2.2.1 hH.2.2.2.2.1 hH.2.2.2.2.2.1 _ 0 hw rfl (ze_vin hn1 hn2) hdg (fun H1 locs1 g1 g2 g3 => ?_)
    rw [ze_cln hn1] at g1 g2
    rw [ze_narC (ze_ble' hu)] at g1 g2
    refine k9 _ (Or.inr (Or.inl ⟨(by show 100 ≤ 101; decide), (by show 101 < 150; decide), upd f n _, ?_, ze_updI hf V1⟩)) H1 locs1 g1 g2 g3
    show _ = Sum.inl (_, (cl.2.set n _).length, _)
    rw [List.length_set]
  · obtain ⟨y1, r1, e1, V1, L1⟩ := hH.2.2.2.2.2.2.2.cons
    obtain ⟨y2, r2, e2, V2, L2⟩ := L1.cons
    obtain ⟨y3, r3, e3, V3, L3⟩ := L2.cons
    subst e1; subst e2; subst e3
    obtain ⟨z, ez⟩ := ze_intV V1
    subst ez
    rw [ze_f_eq] at h
    have hF := (hH.stk L3).fr (lo := 0) (hi := 4294967295) (x := vp_nar .char z) (Nat.zero_le _) (ze_b_top _)
    have hp : ρ <+: ρ ++ [vp_nar .char z] := List.prefix_append _ _
    obtain ⟨n, a, cl, e0, ey1, ey2, hn1, hn2, hk1, hw, hC, k9⟩ := zs_put hK hn h hF (V2.mono hp (List.prefix_refl _)) (V3.mono hp (List.prefix_refl _))
    subst ey1; subst ey2
    obtain ⟨f, ef, hf⟩ := hC.ints (by omega) (by omega)
    rw [hk1] at ef
    subst ef
    refine va_cast (D := (dC, dI)) hx hb (hKs.k1 hai) hH.2.2.2.1 hH.2.2.2.2.1 hH.2.2.2.2.2.1 _ 0 hw rfl (ze_vin hn1 hn2) hdg (fun H1 locs1 g1 g2 g3 => ?_)
    rw [ze_cln hn1] at g1 g2
    refine k9 _ (Or.inr (Or.inl ⟨(by show 100 ≤ 101; decide), (by show 101 < 150; decide), upd f n (vp_nar .char z), ?_, ze_updI hf ⟨_, hH.1.new _, rfl⟩⟩)) H1 locs1 g1 g2 g3
    show _ = Sum.inl (_, (cl.2.set n _).length, _)
    rw [List.length_set]
  · cases h
theorem zs_bast (hx : p.tables.exec = Jvm.exec) (hb : c.code = cc) (hKs : ze_K dC dI dA s) (hai : (104, FieldType.boolean) ∈ ze_arr) (hdg : decode cc pc = .ok (.bastore, 1)) (hK : ze_KK p l e R s m args below meth c Q z0 dC dI dA sp xs A nL V kk) (hn : ze_at V nx (pc + 1)) (h : zo_bast nx ca cb cd tl jp kk k cal mc ms ls st w g nc ns = true) (hH : ze_H z0 dC dI dA sp xs A s nL ls st w g ρ ws H locs la vs) : W p l e R s m args below meth c H locs nc ns Q (F0 m pc la vs) := by
  unfold zo_bast at h
  split at h
  · obtain ⟨y1, r1, e1, V1, L1⟩ := hH.2.2.2.2.2.2.2.cons
    obtain ⟨y2, r2, e2, V2, L2⟩ := L1.cons
    obtain ⟨y3, r3, e3, V3, L3⟩ := L2.cons
    subst e1; subst e2; subst e3
    obtain ⟨hu, h⟩ := ze_condf h
    have ez : y1 = .int (nI _) := V1
    subst ez
    obtain ⟨n, a, cl, e0, ey1, ey2, hn1, hn2, hk1, hw, hC, k9⟩ := zs_put hK hn h (hH.stk L3) V2 V3
    subst ey1; subst ey2
    obtain ⟨f, ef, hf⟩ := hC.ints (by omega) (by omega)
    rw [hk1] at ef
    subst ef
    refine va_zast (D := (dC, dI)) hx hb (hKs.k1 hai) hH.2.2.2.1 hH.2.2.2.2.1 hH.2.2.2.2.2.1 _ 0 hw rfl (ze_vin hn1 hn2) hdg (fun H1 locs1 g1 g2 g3 => ?_)
    rw [ze_cln hn1] at g1 g2
    rw [ze_narZ (ze_ble' hu)] at g1 g2
    refine k9 _ (Or.inr (Or.inl ⟨(by show 100 ≤ 104; decide), (by show 104 < 150; decide), upd f n _, ?_, ze_updI hf V1⟩)) H1 locs1 g1 g2 g3
    show _ = Sum.inl (_, (cl.2.set n _).length, _)
    rw [List.length_set]
  · cases h
theorem ze_updL {v : EV} {x : Int64} {l0 : List EV} {f : Nat → Int64} {ad : List Nat} {n : Nat} (hf : ∀ (j : Nat) (u : EV), l0[j]? = some u → ze_V sp ρ ad u (.long (f j))) (hv : ze_V sp ρ ad v (.long x)) : ∀ (j : Nat) (u : EV), (l0.set n v)[j]? = some u → ze_V sp ρ ad u (.long (vp_updL f n x j)) := by
  intro j u hj
  by_cases hjn : n = j
  · subst hjn
    by_cases hl : n < l0.length
    · rw [List.getElem?_set_self hl] at hj
      cases hj
      simpa [vp_updL] using hv
    · rw [List.getElem?_eq_none (by rw [List.length_set]; omega)] at hj
      cases hj
  · rw [List.getElem?_set_ne hjn] at hj
    have := hf j u hj
    simpa [vp_updL, Ne.symm hjn] using this
theorem zs_last (hx : p.tables.exec = Jvm.exec) (hb : c.code = cc) (hKs : ze_K dC dI dA s) (hai : (150, FieldType.long) ∈ ze_arr) (hdg : decode cc pc = .ok (.lastore, 1)) (hK : ze_KK p l e R s m args below meth c Q z0 dC dI dA sp xs A nL V kk) (hn : ze_at V nx (pc + 1)) (h : zo_last nx ca cb cd tl jp kk k cal mc ms ls st w g nc ns = true) (hH : ze_H z0 dC dI dA sp xs A s nL ls st w g ρ ws H locs la vs) : W p l e R s m args below meth c H locs nc ns Q (F0 m pc la vs) := by
  unfold zo_last at h
  split at h
  · obtain ⟨y1, r1, e1, V1, L1⟩ := hH.2.2.2.2.2.2.2.cons
    obtain ⟨y2, r2, e2, V2, L2⟩ := L1.cons
    obtain ⟨y3, r3, e3, V3, L3⟩ := L2.cons
    subst e1; subst e2; subst e3
    obtain ⟨z, ez⟩ := ze_longV V1
    subst ez
    obtain ⟨n, a, cl, e0, ey1, ey2, hn1, hn2, hk1, hw, hC, k9⟩ := zs_put hK hn h (hH.stk L3) V2 V3
    subst ey1; subst ey2
    obtain ⟨f, ef, hf⟩ := hC.longs (by omega) (by omega)
    rw [hk1] at ef
    subst ef
    refine va_last (D := (dC, dI)) hx hb (hKs.k1 hai) hH.2.2.2.1 hH.2.2.2.2.1 hH.2.2.2.2.2.1 _ 0 hw rfl (ze_vin hn1 hn2) hdg (fun H1 locs1 g1 g2 g3 => ?_)
    rw [ze_cln hn1] at g1 g2
    refine k9 _ (Or.inr (Or.inr (Or.inl ⟨(by show 150 ≤ 150; decide), (by show 150 < 200; decide), vp_updL f n _, ?_, ze_updL hf V1⟩))) H1 locs1 g1 g2 g3
    show _ = Sum.inl (_, (cl.2.set n _).length, _)
    rw [List.length_set]
  · cases h
theorem zs_aast (hx : p.tables.exec = Jvm.exec) (hb : c.code = cc) (hKs : ze_K dC dI dA s) (haf : ze_AF) (hcf : ze_CF) (hdg : decode cc pc = .ok (.aastore, 1)) (hK : ze_KK p l e R s m args below meth c Q z0 dC dI dA sp xs A nL V kk) (hn : ze_at V nx (pc + 1)) (h : zo_aast nx ca cb cd tl jp kk k cal mc ms ls st w g nc ns = true) (hH : ze_H z0 dC dI dA sp xs A s nL ls st w g ρ ws H locs la vs) : W p l e R s m args below meth c H locs nc ns Q (F0 m pc la vs) := by
  unfold zo_aast at h
  split at h
  · obtain ⟨y1, r1, e1, V1, L1⟩ := hH.2.2.2.2.2.2.2.cons
    obtain ⟨y2, r2, e2, V2, L2⟩ := L1.cons
    obtain ⟨y3, r3, e3, V3, L3⟩ := L2.cons
    subst e1; subst e2; subst e3
    obtain ⟨o, h1, h2⟩ := ze_g_spec h
    obtain ⟨h3, h4⟩ := ze_condf h2
    obtain ⟨r, hr1, hr2⟩ := haf _ (ze_mem_in _ _ h3)
    have hr3 := (hcf o.1 r.1 r.2.1 r.2.2 hr1).1
    obtain ⟨ao, eo, ey0, hwo, hCo⟩ := hH.2.2.1.ref h1 V1
    subst ey0
    obtain ⟨fs, efs, -⟩ := hCo.obj hr3
    subst efs
    obtain ⟨n, a, cl, e0, ey1, ey2, hn1, hn2, hk1, hw, hC, k9⟩ := zs_put hK hn h4 (hH.stk L3) V2 V3
    subst ey1; subst ey2
    have hk1 : cl.1 = 200 + o.1 := hk1
    obtain ⟨f, ef, hf⟩ := hC.refs (by omega)
    rw [hk1] at ef
    subst ef
    refine va_astq (D := (dC, dI)) hx hb (hKs.k1 hr2) hH.2.2.2.1 hH.2.2.2.2.1 hH.2.2.2.2.2.1 _ 0 _ o.1 hw rfl hwo hr1 (ze_vin hn1 hn2) hdg (fun H1 locs1 g1 g2 g3 => ?_)
    rw [ze_cln hn1] at g1 g2
    refine k9 _ (Or.inr (Or.inr (Or.inr ⟨by show 200 ≤ Nat.add 200 o.1; exact Nat.le_add_right _ _, va_up f n (some ao), ?_, ?_⟩))) H1 locs1 g1 g2 g3
    · show _ = Sum.inl (_, (cl.2.set n _).length, _)
      rw [List.length_set]
      rfl
    · intro j u hj
      have hj : (cl.2.set n _)[j]? = some u := hj
      by_cases hjn : n = j
      · subst hjn
        rw [List.getElem?_set_self hn2] at hj
        cases hj
        simpa [va_up, va_rf] using V1
      · rw [List.getElem?_set_ne hjn] at hj
        simpa [va_up, Ne.symm hjn] using hf j u hj
  · cases h
/-- a new cell -/
theorem zs_mk {c1 : EC} {n : Nat} (hK : ze_KK p l e R s m args below meth c Q z0 dC dI dA sp xs A nL V kk) (hn : ze_at V nx pc2) (h : zo_mk w c1 n nx mc ms kk ls st g nc ns = true) (hH : ze_H z0 dC dI dA sp xs A s nL ls st w g ρ ws H locs la vs) : nc + 1 ≤ mc ∧ ns + n ≤ ms ∧
    ∀ (q : Nat) (e1 : va_E), ze_C dA sp ρ (ws.map (·.1) ++ [q]) c1 e1 → ∀ (H1 : Heap), va_P (dC, dI) vwCl (ws ++ [(q, e1)]) H1 → va_D A (ws ++ [(q, e1)]) → va_S A s.heap H1 locs → W p l e R s m args below meth c H1 locs (nc + 1) (ns + n) Q (F0 m pc2 la (.ref q :: vs)) := by
  unfold zo_mk at h
  obtain ⟨h1, h⟩ := ze_condf h
  obtain ⟨h2, h⟩ := ze_condf h
  refine ⟨ze_ble' h1, ze_ble' h2, fun q e1 hC H1 g1 g2 g3 => ?_⟩
  obtain ⟨w', h3, h4, h5⟩ := ze_wp_spec h
  have em : (ws ++ [(q, e1)]).map (·.1) = ws.map (·.1) ++ [q] := by simp
  have hp : ws.map (·.1) <+: (ws ++ [(q, e1)]).map (·.1) := by rw [em]; exact List.prefix_append _ _
  obtain ⟨lv, hl, hL⟩ := hH.2.2.2.2.2.2.1
  refine hK _ _ _ _ _ _ _ h3 _ hn _ _ _ _ _ _ ⟨hH.1, ⟨hH.2.1.1, hH.2.1.2.1, hH.2.1.2.2.trans hp⟩, hH.2.2.1.push h4 h5 hC, g1, g2, g3, ⟨lv, hl, hL.mono (List.prefix_refl _) hp⟩, ⟨q, ?_, rfl⟩, hH.2.2.2.2.2.2.2.mono (List.prefix_refl _) hp⟩
  rw [em, hH.2.2.1.1]
  simp
theorem ze_rep {α : Type} {n j : Nat} {a b : α} (h : (List.replicate n a)[j]? = some b) : b = a := by
  rw [List.getElem?_replicate] at h
  split at h
  · exact (Option.some.inj h).symm
  · cases h
theorem zs_newi {atype : ArrayType} (hx : p.tables.exec = Jvm.exec) (hb : c.code = cc) (hR : R.cells = mc ∧ R.slots = ms) (hKs : ze_K dC dI dA s) (hA : ∀ q, s.heap.size ≤ q → A q) (hts : ∀ w ∈ zb_T, w.before args s = true) (har : (ca, newarray.typeOf atype) ∈ ze_arr) (hwd : Cond.arrayClass (newarray.typeOf atype) ∈ zb_T) (h1k : 100 ≤ ca) (h2k : ca < 150) (hdf : ze_df cb = eC 0) (hdv : defaultValue (newarray.typeOf atype) = .int 0) (hby : componentBytes (newarray.typeOf atype) ≤ 8) (hra : ∀ cA : ClassId, va_RA s cA (newarray.typeOf atype) → cA = dA ca)
    (hdg : decode cc pc = .ok (.newarray atype, 2)) (hK : ze_KK p l e R s m args below meth c Q z0 dC dI dA sp xs A nL V kk) (hn : ze_at V nx (pc + 2)) (h : zo_newa nx ca cb cd tl jp kk k cal mc ms ls st w g nc ns = true) (hH : ze_H z0 dC dI dA sp xs A s nL ls st w g ρ ws H locs la vs) : W p l e R s m args below meth c H locs nc ns Q (F0 m pc la vs) := by
  unfold zo_newa at h
  split at h
  · obtain ⟨y1, r1, e1, V1, L1⟩ := hH.2.2.2.2.2.2.2.cons
    subst e1
    obtain ⟨h0, h⟩ := ze_condf h
    have h0 := ze_ble' h0
    have ez : y1 = .int (nI _) := V1
    subst ez
    obtain ⟨q1, q2, k9⟩ := zs_mk hK hn h (hH.stk L1)
    refine va_newa (D := (dC, dI)) (tys := []) hx hb (hts _ hwd) rfl hKs.k0 hH.2.2.2.1 hH.2.2.2.2.1 hH.2.2.2.2.2.1 hA (a0 := (_, .inl (fun _ => 0))) (fun cA => by rw [vp_cell_i, hdv]) (nI_pos (by omega)) (ze_cln (by omega)) ?_ (by rw [hR.1]; exact q1) (by rw [hR.2]; exact q2) hdg (fun q cA H1 hK1 g1 g2 g3 => ?_)
    · refine Nat.le_trans (Nat.mul_le_mul h0 hby) (by decide)
    · have hcA : cA = dA ca := hra cA (hK1.2 0 _ rfl).2
      subst hcA
      refine k9 q _ (Or.inr (Or.inl ⟨h1k, h2k, fun _ => 0, ?_, fun j v hv => ?_⟩)) H1 g1 g2 g3
      · show _ = Sum.inl (_, (List.replicate _ _).length, _)
        rw [List.length_replicate]
      · rw [ze_rep hv, hdf]
        rfl
  · cases h
theorem zs_newl (hx : p.tables.exec = Jvm.exec) (hb : c.code = cc) (hR : R.cells = mc ∧ R.slots = ms) (hKs : ze_K dC dI dA s) (hA : ∀ q, s.heap.size ≤ q → A q) (hts : ∀ w ∈ zb_T, w.before args s = true) (hca : ca = 150) (hcb : cb = 3) (har : (150, FieldType.long) ∈ ze_arr) (hwd : Cond.arrayClass .long ∈ zb_T)
    (hdg : decode cc pc = .ok (.newarray .long, 2)) (hK : ze_KK p l e R s m args below meth c Q z0 dC dI dA sp xs A nL V kk) (hn : ze_at V nx (pc + 2)) (h : zo_newa nx ca cb cd tl jp kk k cal mc ms ls st w g nc ns = true) (hH : ze_H z0 dC dI dA sp xs A s nL ls st w g ρ ws H locs la vs) : W p l e R s m args below meth c H locs nc ns Q (F0 m pc la vs) := by
  subst hca; subst hcb
  unfold zo_newa at h
  split at h
  · obtain ⟨y1, r1, e1, V1, L1⟩ := hH.2.2.2.2.2.2.2.cons
    subst e1
    obtain ⟨h0, h⟩ := ze_condf h
    have h0 := ze_ble' h0
    have ez : y1 = .int (nI _) := V1
    subst ez
    obtain ⟨q1, q2, k9⟩ := zs_mk hK hn h (hH.stk L1)
    refine va_newa (D := (dC, dI)) (tys := []) (atype := .long) (ty := .long) hx hb (hts _ hwd) rfl hKs.k0 hH.2.2.2.1 hH.2.2.2.2.1 hH.2.2.2.2.2.1 hA (a0 := (_, .inr (.inl (fun _ => 0)))) (fun cA => by rw [vp_cell_l]; rfl) (nI_pos (by omega)) (ze_cln (by omega)) ?_ (by rw [hR.1]; exact q1) (by rw [hR.2]; exact q2) hdg (fun q cA H1 hK1 g1 g2 g3 => ?_)
    · show _ * 8 ≤ _
      omega
    · have hcA : cA = dA 150 := Option.some.inj ((show s.vm.findClass _ = some cA from (hK1.2 0 _ rfl).2).symm.trans (hKs.2.1 150 .long har).2)
      subst hcA
      refine k9 q _ (Or.inr (Or.inr (Or.inl ⟨(by show 150 ≤ 150; decide), (by show 150 < 200; decide), fun _ => 0, ?_, fun j v hv => ?_⟩))) H1 g1 g2 g3
      · show _ = Sum.inl (_, (List.replicate _ _).length, _)
        rw [List.length_replicate]
      · rw [ze_rep hv]
        rfl
  · cases h
theorem zs_newq {C : String} (hx : p.tables.exec = Jvm.exec) (hb : c.code = cc) (hown : s.vm.findClass own = some m.cls) (hR : R.cells = mc ∧ R.slots = ms) (hKs : ze_K dC dI dA s) (hA : ∀ q, s.heap.size ≤ q → A q) (hts : ∀ w ∈ zb_T, w.before args s = true) (hca : 200 ≤ ca) (hcb : cb = 2) (har : (ca, FieldType.object C) ∈ ze_arr) (hwd : Cond.classLink own idx C ∈ zb_T) (hao : C ∈ ze_ao)
    (hdg : decode cc pc = .ok (.anewarray idx, 3)) (hK : ze_KK p l e R s m args below meth c Q z0 dC dI dA sp xs A nL V kk) (hn : ze_at V nx (pc + 3)) (h : zo_newa nx ca cb cd tl jp kk k cal mc ms ls st w g nc ns = true) (hH : ze_H z0 dC dI dA sp xs A s nL ls st w g ρ ws H locs la vs) : W p l e R s m args below meth c H locs nc ns Q (F0 m pc la vs) := by
  subst hcb
  unfold zo_newa at h
  split at h
  · obtain ⟨y1, r1, e1, V1, L1⟩ := hH.2.2.2.2.2.2.2.cons
    subst e1
    obtain ⟨h0, h⟩ := ze_condf h
    have h0 := ze_ble' h0
    have ez : y1 = .int (nI _) := V1
    subst ez
    obtain ⟨q1, q2, k9⟩ := zs_mk hK hn h (hH.stk L1)
    refine va_newq (D := (dC, dI)) (tys := []) hx hb hown (hts _ hwd) (hKs.2.2.2 _ hao) hKs.k0 hH.2.2.2.1 hH.2.2.2.2.1 hH.2.2.2.2.2.1 hA (nI_pos (by omega)) (ze_cln (by omega)) (by omega) (by rw [hR.1]; exact q1) (by rw [hR.2]; exact q2) hdg (fun q cA H1 hK1 g1 g2 g3 => ?_)
    have hcA : cA = dA ca := by
      obtain ⟨kA, comp, -, -, -, f1⟩ := (hK1.2 0 _ rfl).2
      obtain ⟨kB, comp2, -, -, -, f2⟩ := (hKs.2.1 ca _ har).2
      exact Option.some.inj (f1.symm.trans f2)
    subst hcA
    refine k9 q _ (Or.inr (Or.inr (Or.inr ⟨hca, fun _ => none, ?_, fun j v hv => ?_⟩))) H1 g1 g2 g3
    · show _ = Sum.inl (_, (List.replicate _ _).length, _)
      rw [List.length_replicate]
    · rw [ze_rep hv]
      rfl
  · cases h
theorem zs_new {C : String} {T : u_T} {N : Nat} (hx : p.tables.exec = Jvm.exec) (hb : c.code = cc) (hown : s.vm.findClass own = some m.cls) (hR : R.cells = mc ∧ R.slots = ms) (hKs : ze_K dC dI dA s) (hA : ∀ q, s.heap.size ≤ q → A q) (hts : ∀ w ∈ zb_T, w.before args s = true) (hcf : ze_CF) (hc : vwCl[ca]? = some (C, T, N)) (hN : tl.length = N) (hdf : ∀ j, j < N → ∃ t ty, tl[j]? = some t ∧ parseFieldDescriptor (T j).2.2.1 = some ty ∧ ze_ty t ty) (hw1 : Cond.classLink own idx C ∈ zb_T) (hw2 : Cond.instantiable C N ∈ zb_T) (hw3 : Cond.initialized C ∈ zb_T)
    (hdg : decode cc pc = .ok (.new idx, 3)) (hK : ze_KK p l e R s m args below meth c Q z0 dC dI dA sp xs A nL V kk) (hn : ze_at V nx (pc + 3)) (h : zo_new nx ca cb cd tl jp kk k cal mc ms ls st w g nc ns = true) (hH : ze_H z0 dC dI dA sp xs A s nL ls st w g ρ ws H locs la vs) : W p l e R s m args below meth c H locs nc ns Q (F0 m pc la vs) := by
  unfold zo_new at h
  rw [ze_f_eq, hN] at h
  have hf := hcf ca C T N hc
  obtain ⟨ty0, hty0⟩ := hf.2.2.1
  obtain ⟨q1, q2, k9⟩ := zs_mk hK hn h hH
  have key : ∀ t ty, ze_ty t ty → ∀ (ad : List Nat), ze_V sp ρ ad (ze_df t) (defaultValue ty) := by
    intro t ty ht ad
    rcases ht with ⟨rfl, rfl⟩ | ⟨rfl, rfl⟩ | ⟨rfl, n, rfl⟩ | ⟨rfl, n, rfl⟩ | ⟨rfl, rfl⟩ | ⟨rfl, rfl⟩ <;> rfl
  have hfs : ∀ ad : List Nat, ze_L sp ρ ad (tl.map ze_df) ((List.range N).map (fun j => defaultValue (ty0 j))) := by
    intro ad
    have gen : ∀ (l1 : List EV) (l2 : List Value), l1.length = l2.length → (∀ (j : Nat) (a : EV) (b : Value), l1[j]? = some a → l2[j]? = some b → ze_V sp ρ ad a b) → ze_L sp ρ ad l1 l2 := by
      intro l1
      induction l1 with
      | nil => intro l2 h1 _; cases l2 with
        | nil => trivial
        | cons b l2 => simp at h1
      | cons a l1 ih => intro l2 h1 h2; cases l2 with
        | nil => simp at h1
        | cons b l2 => exact ⟨h2 0 a b rfl rfl, ih l2 (by simpa using h1) (fun j a b ha hb => h2 (j + 1) a b (by simpa using ha) (by simpa using hb))⟩
    refine gen _ _ (by simp [hN]) (fun j a b ha hb => ?_)
    rw [List.getElem?_map] at ha hb
    cases hj : tl[j]? with
    | none => rw [hj] at ha; cases ha
    | some t =>
      rw [hj] at ha
      cases ha
      have hjN : j < N := by rw [← hN]; exact (List.getElem?_eq_some_iff.mp hj).1
      rw [List.getElem?_range hjN] at hb
      cases hb
      obtain ⟨t', ty, ht1, ht2, ht3⟩ := hdf j hjN
      rw [hj] at ht1
      cases ht1
      rw [hty0 j hjN] at ht2
      cases ht2
      exact key _ _ ht3 ad
  refine va_new (D := (dC, dI)) (fs := (List.range N).map (fun j => defaultValue (ty0 j))) hx hb hts hf.2.1 ty0 hty0 hown (hts _ hw1) (hts _ hw2) (hts _ hw3) hKs.k0 hH.2.2.2.1 hH.2.2.2.2.1 hH.2.2.2.2.2.1 hA hc (fun j hj => ?_) (by rw [hR.1]; exact q1) (by rw [hR.2]; exact q2) hdg (fun q H1 g1 g2 g3 => ?_)
  · unfold vp_V
    rw [List.getD_eq_getElem?_getD, List.getElem?_map, List.getElem?_range hj]
    rfl
  · exact k9 q _ (Or.inl ⟨hf.1, _, rfl, hfs _⟩) H1 g1 g2 g3
end ZS4
end
section
/-! THE ENGINE, part 6: calls and ends -/
theorem ze_nest_sh {w : Cond} (h : w ∈ ze_nest) : (∃ a i b n d q, w = .fieldLinkNest a i b n d q) ∨ ∃ a i x q, w = .methodLinkNest a i x q := by
  rcases List.mem_append.mp h with h | h
  · obtain ⟨q, -, rfl⟩ := List.mem_map.mp h
    exact Or.inl ⟨_, _, _, _, _, _, rfl⟩
  · obtain ⟨q, -, rfl⟩ := List.mem_map.mp h
    exact Or.inr ⟨_, _, _, _, rfl⟩
theorem ze_K.vm {dC : Nat → ClassId} {dI : Nat → Nat → Nat} {dA : Nat → ClassId} {u U : State} (hv : u.vm = U.vm) (h : ze_K dC dI dA u) : ze_K dC dI dA U := by
  have ha : u.vm.Alike U.vm := by rw [hv]; exact Vm.Alike.refl _
  refine ⟨fun c q hq => u_Kn_moved ha (h.1 c q hq), fun kd ty hk => ⟨arrOfT_moved ha (h.2.1 kd ty hk).1, (h.2.1 kd ty hk).2.moved ha⟩, fun w hw => ?_, fun C hC => (h.2.2.2 C hC).moved ha⟩
  rcases ze_nest_sh hw with ⟨a, i, b, n, d, q, rfl⟩ | ⟨a, i, x, q, rfl⟩
  · exact va_Nw.same rfl hv (h.2.2.1 _ hw)
  · exact va_Nw.same rfl hv (h.2.2.1 _ hw)
theorem ze_K.warm {dC : Nat → ClassId} {dI : Nat → Nat → Nat} {dA : Nat → ClassId} {s U : State} (hW : s.WarmedH U.vm) (h : ze_K dC dI dA s) : ze_K dC dI dA U := by
  have ha : s.vm.Alike U.vm := hW.alike
  refine ⟨fun c q hq => u_Kn_moved ha (h.1 c q hq), fun kd ty hk => ⟨arrOfT_moved ha (h.2.1 kd ty hk).1, (h.2.1 kd ty hk).2.moved ha⟩, fun w hw => ?_, fun C hC => (h.2.2.2 C hC).moved ha⟩
  rcases ze_nest_sh hw with ⟨a, i, b, n, d, q, rfl⟩ | ⟨a, i, x, q, rfl⟩
  · exact va_Nw.warmF hW (h.2.2.1 _ hw)
  · exact va_Nw.warmM hW (h.2.2.1 _ hw)
def ze_OV (sp : Nat → Nat) (ρ : List Int32) (ad : List Nat) (r : Option EV) (v : Option Value) : Prop := match r, v with
  | none, none => True
  | some e, some x => ze_V sp ρ ad e x
  | none, some _ => False
  | some _, none => False
/-- a callee's end -/
def ze_Qc (dC : Nat → ClassId) (dI : Nat → Nat → Nat) (dA : Nat → ClassId) (sp : Nat → Nat) (A : Nat → Prop) (k : ERt) (ρ : List Int32) (ad : List Nat) : Array Value → State → Outcome → State → Prop := fun _ st oc t =>
  (∃ (r : Option EV) (w' : EW) (g' : EG) (ρ' : List Int32) (ws' : va_W) (v : Option Value), k r w' g' = true ∧ ρ <+: ρ' ∧ ad <+: ws'.map (·.1) ∧ ze_G g' ρ' ∧ ze_W dA sp ρ' w' ws' ∧ va_P (dC, dI) vwCl ws' t.heap ∧ va_D A ws' ∧ ze_OV sp ρ' (ws'.map (·.1)) r v ∧ oc = .returned v) ∧ va_F A st t
/-- a callee's start -/
def ze_Pc (dC : Nat → ClassId) (dI : Nat → Nat → Nat) (dA : Nat → ClassId) (sp : Nat → Nat) (xs : Nat → Int32) (A : Nat → Prop) (ws : va_W) : State → Prop := fun U =>
  va_P (dC, dI) vwCl ws U.heap ∧ ze_K dC dI dA U ∧ va_D A ws ∧ (∀ q, U.heap.size ≤ q → A q) ∧ ze_X sp xs A U
theorem ze_blind {dC : Nat → ClassId} {dI : Nat → Nat → Nat} {dA : Nat → ClassId} {sp : Nat → Nat} {xs : Nat → Int32} {A : Nat → Prop} {ws : va_W} {avs : List Value} : FrameBlind (va_Pc avs (ze_Pc dC dI dA sp xs A ws)) := by
  intro a U g mk q
  obtain ⟨q0, q1, q2, q3, q4, q5, q6, q7⟩ := q
  exact ⟨q0, q1, q2.vm (u := U) (U := U.calling g mk a) rfl, q3, q4, va_X.moved (u := U) (U := U.calling g mk a) (Vm.Alike.refl U.vm) q5, q6, q7⟩
theorem ze_tk_spec : ∀ (n : Nat) (st acc : List EV) (f : List EV → List EV → Bool), ze_tk n st acc f = true → ∃ pop rest, st = pop ++ rest ∧ pop.length = n ∧ f (pop.reverse ++ acc) rest = true := by
  intro n
  induction n with
  | zero => intro st acc f h; exact ⟨[], st, rfl, rfl, h⟩
  | succ n ih =>
    intro st acc f h
    cases st with
    | nil => exact absurd h (by intro q; cases q)
    | cons v r =>
      have h : ze_tk n r (v :: acc) f = true := h
      obtain ⟨pop, rest, h1, h2, h3⟩ := ih r (v :: acc) f h
      exact ⟨v :: pop, rest, by rw [h1]; rfl, by simp [h2], by simpa using h3⟩
theorem ze_L.split {sp : Nat → Nat} {ρ : List Int32} {ad : List Nat} : ∀ {l1 l2 : List EV} {vs : List Value}, ze_L sp ρ ad (l1 ++ l2) vs → ∃ v1 v2, vs = v1 ++ v2 ∧ ze_L sp ρ ad l1 v1 ∧ ze_L sp ρ ad l2 v2 := by
  intro l1
  induction l1 with
  | nil => intro l2 vs h; exact ⟨[], vs, rfl, trivial, h⟩
  | cons a l1 ih =>
    intro l2 vs h
    obtain ⟨y, ys, rfl, h1, h2⟩ := ze_L.cons h
    obtain ⟨v1, v2, rfl, h3, h4⟩ := ih h2
    exact ⟨y :: v1, v2, rfl, ⟨h1, h3⟩, h4⟩
theorem ze_L.app {sp : Nat → Nat} {ρ : List Int32} {ad : List Nat} : ∀ {l1 l2 : List EV} {v1 v2 : List Value}, ze_L sp ρ ad l1 v1 → ze_L sp ρ ad l2 v2 → ze_L sp ρ ad (l1 ++ l2) (v1 ++ v2) := by
  intro l1
  induction l1 with
  | nil => intro l2 v1 v2 h1 h2; rw [h1.nil]; exact h2
  | cons a l1 ih =>
    intro l2 v1 v2 h1 h2
    obtain ⟨y, ys, rfl, h3, h4⟩ := h1.cons
    exact ⟨h3, ih h4 h2⟩
theorem ze_L.rev {sp : Nat → Nat} {ρ : List Int32} {ad : List Nat} : ∀ {l : List EV} {vs : List Value}, ze_L sp ρ ad l vs → ze_L sp ρ ad l.reverse vs.reverse := by
  intro l
  induction l with
  | nil => intro vs h; rw [h.nil]; trivial
  | cons a l ih =>
    intro vs h
    obtain ⟨y, ys, rfl, h1, h2⟩ := h.cons
    rw [List.reverse_cons, List.reverse_cons]
    exact (ih h2).app ⟨h1, trivial⟩
theorem ze_cs_sum {sp : Nat → Nat} {ρ : List Int32} {ad : List Nat} : ∀ {l : List EV} {vs : List Value}, ze_L sp ρ ad l vs → (vs.map fun v => v.category).sum = ze_cs l := by
  intro l
  induction l with
  | nil => intro vs h; rw [h.nil]; rfl
  | cons a l ih =>
    intro vs h
    obtain ⟨y, ys, rfl, h1, h2⟩ := h.cons
    show y.category + (ys.map fun v => v.category).sum = ze_ct a + ze_cs l
    rw [ih h2, ze_cat h1]
section ZC
variable {p : Program} {l : Launch} {e : Env} {R : Room} {s : State} {m : MethodId} {args : Array Value} {below : List Frame} {meth : Method} {c : Code} {Q : State → Prop}
variable {z0 : List Int32 × List Nat} {dC : Nat → ClassId} {dI : Nat → Nat → Nat} {dA : Nat → ClassId} {sp : Nat → Nat} {xs : Nat → Int32} {A : Nat → Prop} {nL : Nat} {V : List ECE → Prop}
variable {kk : EKn} {k : ERt} {cal : ECal} {mc ms pc pc2 ca cb cd nc ns : Nat} {nx : List ECE} {jp : EJp} {tl : List Nat} {ls st : List EV} {w : EW} {g : EG} {ρ : List Int32} {ws : va_W} {H : Heap} {locs : List Loc} {la : Array Slot} {vs : List Value}
variable {cc : ByteArray} {own : String} {idx : Nat}
/-- the callee's start holds at the call -/
theorem ze_pre9 (hKs : ze_K dC dI dA s) (hsc : ze_X sp xs A s) (hA : ∀ q, s.heap.size ≤ q → A q) (hH : ze_H z0 dC dI dA sp xs A s nL ls st w g ρ ws H locs la vs) {avs : List Value} : ∀ U : State, U.heap = H → s.WarmedH U.vm → va_Pc avs (ze_Pc dC dI dA sp xs A ws) avs.toArray U := by
  intro U hU hW
  have hS := hH.2.2.2.2.2.1
  refine ⟨rfl, by rw [hU]; exact hH.2.2.2.1, hKs.warm hW, hH.2.2.2.2.1, fun q hq => hA q (Nat.le_trans hS.1 (by rw [← hU]; exact hq)), ?_, by rw [hU]; exact Nat.lt_of_lt_of_le hsc.2.1 hS.1, hsc.2.2⟩
  rw [hU]
  exact (hsc.1.kept (hS.2.1 _ hsc.2.1 hsc.2.2.1)).moved hW.alike
/-- behind a call -/
theorem zs_after {r9 : ERt} {cy sy : Nat} {rest : List EV} {vr : List Value} {av : Array Value} (hK : ze_KK p l e R s m args below meth c Q z0 dC dI dA sp xs A nL V kk) (hn : ze_at V nx (pc + 3)) (hH : ze_H z0 dC dI dA sp xs A s nL ls st w g ρ ws H locs la vs) (hrest : ze_L sp ρ (ws.map (·.1)) rest vr)
    (hk9 : ∀ r w' g', r9 r w' g' = true → kk nx ls (ze_pu r rest) w' g' (nc + cy) (ns + sy) = true)
    (hrun : va_Run p l e R s m args below meth c H locs nc ns cy sy (F0 m pc la vs) vr (ze_Qc dC dI dA sp A r9 ρ (ws.map (·.1)) av) A) : W p l e R s m args below meth c H locs nc ns Q (F0 m pc la vs) := by
  intro T hT X
  obtain ⟨v, st₀, t, T', L, h0, X', hL, e1, e2, ⟨⟨r, w', g', ρ', ws', v', hk, hρ, had, hG', hW', hP', hD', hOV, hoc⟩, hz, hkp⟩, hgo⟩ := hrun T hT X
  have hvv : v = v' := Outcome.returned.inj hoc
  subst hvv
  rw [h0] at hz hkp
  obtain ⟨hG, hX5, hW, hP, hD, hS, ⟨lv, hl, hLL⟩, hV⟩ := hH
  have hS' : va_S A s.heap T'.heap (locs ++ L) := ⟨Nat.le_trans hS.1 (by rw [e1]; exact hz), fun q h1 h2 => by rw [e1, hkp q (Nat.lt_of_lt_of_le h1 hS.1) h2]; exact hS.2.1 q h1 h2, fun q hq => by
      rcases List.mem_append.mp hq with h | h
      · exact hS.2.2 q h
      · exact hL q h⟩
  have hr2 := hrest.mono hρ had
  have hst : ze_L sp ρ' (ws'.map (·.1)) (ze_pu r rest) (v.toList ++ vr) := by
    match r, v, hOV with
    | none, none, _ => exact hr2
    | some e9, some x9, h9 => exact ⟨h9, hr2⟩
    | none, some _, h9 => exact absurd h9 (fun q => q)
    | some _, none, h9 => exact absurd h9 (fun q => q)
  obtain ⟨t2, a1, b1⟩ := hK _ _ _ _ _ _ _ (hk9 r w' g' hk) _ hn ρ' ws' T'.heap (locs ++ L) la (v.toList ++ vr) ⟨hG', ⟨fun j hj => ze_pre hρ (hX5.1 j hj), hX5.2.1.trans hρ, hX5.2.2.trans had⟩, hW', by rw [e1]; exact hP', hD', hS', ⟨lv, hl, hLL.mono hρ had⟩, hst⟩ T' rfl X'
  exact ⟨t2, hgo t2 a1, b1⟩
/-- a call: the receiver, the arguments, the contract -/
theorem zs_call {y nb cr cy sy : Nat} {yn : MethodName} {wsy : List Cond} {rmy : Room} (hKs : ze_K dC dI dA s) (hsc : ze_X sp xs A s) (hA : ∀ q, s.heap.size ≤ q → A q)
    (hcal : ∀ (av : List EV) (w : EW) (g : EG) (k' : ERt), cal y av w g k' = true → ∀ (ρ : List Int32) (ws : va_W) (avs : List Value), ze_G g ρ → (∀ j, j < 6 → ρ[j]? = some (xs j)) → ze_W dA sp ρ w ws → ze_L sp ρ (ws.map (·.1)) av avs → Met l yn wsy rmy (va_Pc avs (ze_Pc dC dI dA sp xs A ws)) (ze_Qc dC dI dA sp A k' ρ (ws.map (·.1))) cy sy A)
    (hK : ze_KK p l e R s m args below meth c Q z0 dC dI dA sp xs A nL V kk) (hn : ze_at V nx (pc + 3)) (h : zo_call y nb cr cy sy nx ca cb cd tl jp kk k cal mc ms ls st w g nc ns = true) (hH : ze_H z0 dC dI dA sp xs A s nL ls st w g ρ ws H locs la vs)
    (run : ∀ (avs vr : List Value) (k' : ERt), vs = avs.reverse ++ vr → avs.length = nb → (vr.map fun v => v.category).sum ≤ 8 → nc + cy ≤ mc → ns + sy ≤ ms → (∀ ci, cr = ci + 1 → ∃ (b : Nat) (As : List Value) (q : Nat) (fs : List Value), avs = Value.ref b :: As ∧ ws[q]? = some (b, (Sum.inr (ci, fs) : va_E))) →
      Met l yn wsy rmy (va_Pc avs (ze_Pc dC dI dA sp xs A ws)) (ze_Qc dC dI dA sp A k' ρ (ws.map (·.1))) cy sy A → (∀ U : State, U.heap = H → s.WarmedH U.vm → va_Pc avs (ze_Pc dC dI dA sp xs A ws) avs.toArray U) →
      va_Run p l e R s m args below meth c H locs nc ns cy sy (F0 m pc la vs) vr (ze_Qc dC dI dA sp A k' ρ (ws.map (·.1)) avs.toArray) A)
    (hcr : ∀ ci, cr = ci + 1 → ci < 100) : W p l e R s m args below meth c H locs nc ns Q (F0 m pc la vs) := by
  unfold zo_call at h
  obtain ⟨pop, rest, rfl, e2, hh⟩ := ze_tk_spec _ _ _ _ h
  rw [List.append_nil] at hh
  obtain ⟨h1, hh⟩ := ze_condf hh
  obtain ⟨h2, hh⟩ := ze_condf hh
  obtain ⟨h3, hh⟩ := ze_condf hh
  obtain ⟨h4, hh⟩ := ze_condf hh
  obtain ⟨v1, v2, e3, L1, L2⟩ := hH.2.2.2.2.2.2.2.split
  have hM := hcal _ _ _ _ hh ρ ws v1.reverse hH.1 hH.2.1.1 hH.2.2.1 L1.rev
  have hrn := run v1.reverse v2 _ (by rw [List.reverse_reverse]; exact e3) (by rw [List.length_reverse, ← L1.len]; exact e2) (by rw [ze_cs_sum L2]; exact ze_ble' h2) (ze_ble' h3) (ze_ble' h4) (fun ci hci => by
    subst hci
    rw [ze_rc_eq] at h1
    split at h1
    · rename_i q9 t9 e9
      have L9 := L1.rev
      rw [e9] at L9
      obtain ⟨y9, ys, e10, V9, -⟩ := L9.cons
      obtain ⟨cl, g1, g2⟩ := ze_g_spec h1
      obtain ⟨a, en, ex, hw, hC⟩ := hH.2.2.1.ref g1 V9
      have e11 := ze_beq g2
      obtain ⟨fs, ef, -⟩ := hC.obj (by rw [e11]; exact hcr ci rfl)
      rw [e11] at ef
      subst ef
      exact ⟨a, ys, _, fs, by rw [e10, ex], hw⟩
    · cases h1) hM (ze_pre9 hKs hsc hA hH)
  exact zs_after hK hn hH L2 (fun r w' g' q => q) hrn
/-- ends -/
theorem ze_end_ok {nc ns mc ms : Nat} {x : Bool} (h : ze_end nc ns mc ms x = true) : nc ≤ mc ∧ ns ≤ ms ∧ x = true := by
  unfold ze_end at h
  obtain ⟨h1, h⟩ := ze_condf h
  obtain ⟨h2, h⟩ := ze_condf h
  exact ⟨ze_ble' h1, ze_ble' h2, h⟩
theorem ze_Qc_of {s t : State} {r : Option EV} {v : Option Value} {ρ0 : List Int32} {ad0 : List Nat} {a0 : Array Value} (hH : ze_H z0 dC dI dA sp xs A s nL ls st w g ρ ws H locs la vs) (h1 : ρ0 <+: ρ) (h2 : ad0 <+: ws.map (·.1)) (hk : k r w g = true) (hv : ze_OV sp ρ (ws.map (·.1)) r v) (ht : t.heap = H) : ze_Qc dC dI dA sp A k ρ0 ad0 a0 s (.returned v) t :=
  ⟨⟨r, w, g, ρ, ws, v, hk, h1, h2, hH.1, hH.2.2.1, by rw [ht]; exact hH.2.2.2.1, hH.2.2.2.2.1, hv, rfl⟩, hH.2.2.2.2.2.1.F ht⟩
end ZC
end
section
/-! THE ENGINE, part 7: intervals of results, compares of longs, copies, switches -/
theorem zi_iv {sp : Nat → Nat} {g : EG} {ρ : List Int32} {ad : List Nat} {v : EV} {x : Int32} (hG : ze_G g ρ) (hv : ze_V sp ρ ad v (.int x)) : (zo_iv g v).1 ≤ ze_b x ∧ ze_b x ≤ (zo_iv g v).2 := by
  match v, hv with
  | .inl (.inl n), hv =>
    have e : x = nI n := Value.int.inj hv
    have e2 : zo_iv g (.inl (.inl n)) = (ze_z n, ze_z n) := rfl
    rw [e, e2, ze_z_eq]
    exact ⟨Nat.le_refl _, Nat.le_refl _⟩
  | .inl (.inr i), ⟨z, hz, e⟩ =>
    have e : x = z := Value.int.inj e
    subst e
    show (g.getD i (0, 4294967295)).1 ≤ _ ∧ _ ≤ (g.getD i (0, 4294967295)).2
    rw [List.getD_eq_getElem?_getD]
    cases h : g[i]? with
    | none => exact ⟨Nat.zero_le _, ze_b_top x⟩
    | some p => exact hG.2 i p x h hz
  | .inr u, hv => exact ⟨Nat.zero_le _, ze_b_top x⟩
theorem zi_c {sp : Nat → Nat} {ρ : List Int32} {ad : List Nat} {m : Nat} {y : Int32} (hv : ze_V sp ρ ad (.inl (.inl m)) (.int y)) : y = nI m := Value.int.inj hv
theorem zi_and {sp : Nat → Nat} {g : EG} {ρ : List Int32} {ad : List Nat} (v1 v2 : EV) (x y : Int32) (h1 : ze_V sp ρ ad v1 (.int x)) (h2 : ze_V sp ρ ad v2 (.int y)) : (zo_bnd g v1 v2).1 ≤ ze_b (x &&& y) ∧ ze_b (x &&& y) ≤ (zo_bnd g v1 v2).2 := by
  unfold zo_bnd
  split
  · rename_i m
    have e := zi_c h2
    cases hc : Nat.ble m 2147483647 with
    | false => exact ⟨Nat.zero_le _, ze_b_top _⟩
    | true =>
      have hm := ze_ble' hc
      have ht : (x &&& y).toBitVec.toNat ≤ m := by
        have e2 : (x &&& y).toBitVec = x.toBitVec &&& y.toBitVec := rfl
        rw [e2, BitVec.toNat_and, e, ze_tn]
        exact Nat.le_trans Nat.and_le_right (Nat.mod_le _ _)
      show 2147483648 ≤ ze_b (x &&& y) ∧ ze_b (x &&& y) ≤ 2147483648 + m
      unfold ze_b
      omega
  · exact ⟨Nat.zero_le _, ze_b_top _⟩
theorem zi_nn {x : Int32} (h : 2147483648 ≤ ze_b x) : x = nI (ze_b x - 2147483648) ∧ ze_b x - 2147483648 < 2147483648 := by
  have h2 := ze_b_top x
  refine ⟨?_, by omega⟩
  have h3 := ze_unb (x := x) (b := ze_b x) rfl
  have h4 : (ze_b x + 2147483648) % 4294967296 = ze_b x - 2147483648 := by omega
  rw [h4] at h3
  exact h3.symm
theorem zi_rem {sp : Nat → Nat} {g : EG} {ρ : List Int32} {ad : List Nat} (hG : ze_G g ρ) (v1 v2 : EV) (x y : Int32) (h1 : ze_V sp ρ ad v1 (.int x)) (h2 : ze_V sp ρ ad v2 (.int y)) : (zo_brem g v1 v2).1 ≤ ze_b (x - x / y * y) ∧ ze_b (x - x / y * y) ≤ (zo_brem g v1 v2).2 := by
  unfold zo_brem
  split
  · rename_i m
    have e := zi_c h2
    cases hc : (cond (Nat.ble 1 m) (Nat.ble m 1073741824) false) with
    | false => exact ⟨Nat.zero_le _, ze_b_top _⟩
    | true =>
      obtain ⟨c1, c2⟩ := ze_condf hc
      have c1 := ze_ble' c1
      have c2 := ze_ble' c2
      cases hd : Nat.ble 2147483648 (zo_iv g v1).1 with
      | false => exact ⟨Nat.zero_le _, ze_b_top _⟩
      | true =>
        have c3 := ze_ble' hd
        have c4 := zi_iv hG h1
        obtain ⟨e1, e2⟩ := zi_nn (x := x) (by omega)
        rw [e, e1, pk_rem (by omega) (by omega) (by omega), ze_b_nI]
        have hl := Nat.mod_lt (ze_b x - 2147483648) (show 0 < m by omega)
        show 2147483648 ≤ _ ∧ _ ≤ Nat.pred (2147483648 + m)
        rw [Nat.pred_eq_sub_one]
        omega
  · exact ⟨Nat.zero_le _, ze_b_top _⟩
theorem zi_ush {sp : Nat → Nat} {g : EG} {ρ : List Int32} {ad : List Nat} (v1 v2 : EV) (x y : Int32) (h1 : ze_V sp ρ ad v1 (.int x)) (h2 : ze_V sp ρ ad v2 (.int y)) : (zo_bush g v1 v2).1 ≤ ze_b ((x.toUInt32 >>> (y.toUInt32 &&& Int32.toUInt32 31)).toInt32) ∧ ze_b ((x.toUInt32 >>> (y.toUInt32 &&& Int32.toUInt32 31)).toInt32) ≤ (zo_bush g v1 v2).2 := by
  unfold zo_bush
  split
  · rename_i m
    have e := zi_c h2
    cases hc : Nat.beq m 16 with
    | false => exact ⟨Nat.zero_le _, ze_b_top _⟩
    | true =>
      have hm := ze_beq hc
      rw [e, hm]
      have h := pk_ushr x (nI 16) 16 (by decide +kernel)
      have hl := x.toBitVec.isLt
      show 2147483648 ≤ ze_b _ ∧ ze_b _ ≤ 2147549183
      unfold ze_b
      rw [h]
      omega
  · exact ⟨Nat.zero_le _, ze_b_top _⟩
theorem zi_sub {sp : Nat → Nat} {g : EG} {ρ : List Int32} {ad : List Nat} (hG : ze_G g ρ) (v1 v2 : EV) (x y : Int32) (h1 : ze_V sp ρ ad v1 (.int x)) (h2 : ze_V sp ρ ad v2 (.int y)) : (zo_bsub g v1 v2).1 ≤ ze_b (x - y) ∧ ze_b (x - y) ≤ (zo_bsub g v1 v2).2 := by
  unfold zo_bsub
  split
  · rename_i m
    have e := zi_c h2
    cases hc : (cond (Nat.ble m 1073741824) (Nat.ble m (zo_iv g v1).1) false) with
    | false => exact ⟨Nat.zero_le _, ze_b_top _⟩
    | true =>
      obtain ⟨c1, c2⟩ := ze_condf hc
      have c1 := ze_ble' c1
      have c2 := ze_ble' c2
      have c4 := zi_iv hG h1
      have ht : (x - y).toBitVec.toNat = (x.toBitVec.toNat + (4294967296 - m)) % 4294967296 := by
        have e2 : (x - y).toBitVec = x.toBitVec - y.toBitVec := rfl
        rw [e2, BitVec.toNat_sub, e, ze_tn]
        have : m % 4294967296 = m := by omega
        rw [this]
        omega
      have hx : ze_b x = (x.toBitVec.toNat + 2147483648) % 4294967296 := rfl
      have hl := x.toBitVec.isLt
      have key : ze_b (x - y) = ze_b x - m := by
        show ((x - y).toBitVec.toNat + 2147483648) % 4294967296 = _
        rw [ht]
        omega
      rw [key]
      show (zo_iv g v1).1 - m ≤ _ ∧ _ ≤ (zo_iv g v1).2 - m
      omega
  · exact ⟨Nat.zero_le _, ze_b_top _⟩
theorem zi_shr {sp : Nat → Nat} {g : EG} {ρ : List Int32} {ad : List Nat} (v1 v2 : EV) (x y : Int32) (h1 : ze_V sp ρ ad v1 (.int x)) (h2 : ze_V sp ρ ad v2 (.int y)) : (zo_bshr g v1 v2).1 ≤ ze_b (x >>> (y &&& 31)) ∧ ze_b (x >>> (y &&& 31)) ≤ (zo_bshr g v1 v2).2 := by
  unfold zo_bshr
  split
  · have e := zi_c h1
    have h := pk_shr x (y &&& 31) _ rfl
    have h0 : x.toInt = 0 := by rw [e, nI_0]; rfl
    rw [h0, Int.zero_shiftRight] at h
    have hb := ze_b_int (x >>> (y &&& 31))
    rw [h] at hb
    show 2147483648 ≤ _ ∧ _ ≤ 2147483648
    omega
  · exact ⟨Nat.zero_le _, ze_b_top _⟩
/-- a long that is an int -/
theorem zi_long (n : Nat) (h : (n + 2147483648) % 18446744073709551616 ≤ 4294967295) : lN n = (nI (n % 4294967296)).toInt64 := by
  apply Int64.toInt_inj.mp
  rw [Int32.toInt_toInt64]
  have e1 : (lN n).toInt = (BitVec.ofNat 64 n).toInt := rfl
  have e2 : (nI (n % 4294967296)).toInt = (BitVec.ofNat 32 (n % 4294967296)).toInt := rfl
  rw [e1, e2, BitVec.toInt_eq_toNat_cond, BitVec.toInt_eq_toNat_cond, BitVec.toNat_ofNat, BitVec.toNat_ofNat]
  split <;> split <;> omega
theorem zi_li {sp : Nat → Nat} {ρ : List Int32} {ad : List Nat} {ck : Nat → Bool} {cv : Nat → Nat} {v : Nat ⊕ Nat} {f : EV → Bool} {d : Bool} {X : Value} (hck : ∀ n, ck n = true → lN n = (nI (cv n)).toInt64) (h : ze_li ck cv v f d = true) (hv : ze_V sp ρ ad (.inr (.inl (.inr v))) X) : (∃ (x : Int32) (v2 : EV), X = .long x.toInt64 ∧ ze_V sp ρ ad v2 (.int x) ∧ f v2 = true) ∨ d = true := by
  cases v with
  | inl n =>
    have h : cond (ck n) (f (.inl (.inl (cv n)))) d = true := h
    have hv : X = .long (lN n) := hv
    rcases ze_cond h with ⟨c1, c2⟩ | ⟨_, c2⟩
    · refine Or.inl ⟨nI (cv n), _, ?_, ?_, c2⟩
      · rw [hv, hck n c1]
      · rfl
    · exact Or.inr c2
  | inr i =>
    obtain ⟨z, hz, e⟩ := hv
    exact Or.inl ⟨z, eU i, e, ⟨z, hz, rfl⟩, h⟩
theorem zi_lr : ∀ n, ze_lr n = true → lN n = (nI (ze_l32 n)).toInt64 := fun n h => by rw [ze_l32_eq]; exact zi_long n (ze_lr_eq h)
section ZM
variable {p : Program} {l : Launch} {e : Env} {R : Room} {s : State} {m : MethodId} {args : Array Value} {below : List Frame} {meth : Method} {c : Code} {Q : State → Prop}
variable {z0 : List Int32 × List Nat} {dC : Nat → ClassId} {dI : Nat → Nat → Nat} {dA : Nat → ClassId} {sp : Nat → Nat} {xs : Nat → Int32} {A : Nat → Prop} {nL : Nat} {V : List ECE → Prop}
variable {kk : EKn} {k : ERt} {cal : ECal} {mc ms pc pc2 ca cb cd nc ns : Nat} {nx : List ECE} {jp : EJp} {tl : List Nat} {ls st : List EV} {w : EW} {g : EG} {ρ : List Int32} {ws : va_W} {H : Heap} {locs : List Loc} {la : Array Slot} {vs : List Value}
variable {cc : ByteArray} {own : String} {idx : Nat}
theorem zi_lcc {x y : Nat ⊕ Nat} {rest : List EV} {vr : List Value} {X Y : Int64} (hK : ze_KK p l e R s m args below meth c Q z0 dC dI dA sp xs A nL V kk) (hn : ze_at V nx pc2) (hH : ze_H z0 dC dI dA sp xs A s nL ls rest w g ρ ws H locs la vr) (h : zo_lcc x y nx kk ls rest w g nc ns = true) (hx : ze_V sp ρ (ws.map (·.1)) (.inr (.inl (.inr x))) (.long X)) (hy : ze_V sp ρ (ws.map (·.1)) (.inr (.inl (.inr y))) (.long Y)) : W p l e R s m args below meth c H locs nc ns Q (F0 m pc2 la (.int (lg_cmp X Y) :: vr)) := by
  unfold zo_lcc at h
  split at h
  · rename_i n1 n2
    have ex : X = lN n1 := Value.long.inj hx
    have ey : Y = lN n2 := Value.long.inj hy
    rcases ze_cond h with ⟨c1, c2⟩ | ⟨c1, c2⟩
    · have c1 := of_decide_eq_true c1
      have e9 : lg_cmp X Y = nI 4294967295 := by
        unfold lg_cmp
        rw [ex, ey, if_neg (by intro q; exact absurd c1 (Int64.not_lt.mpr (Int64.le_of_lt q))), if_neg (by intro q; rw [q] at c1; exact Int64.lt_irrefl c1)]
        decide +kernel
      rw [e9]
      exact hK _ _ _ _ _ _ _ c2 _ hn _ _ _ _ _ _ (hH.stk ⟨rfl, hH.2.2.2.2.2.2.2⟩)
    · have c1 := of_decide_eq_false c1
      rcases ze_cond c2 with ⟨c3, c4⟩ | ⟨c3, c4⟩
      · have c3 := of_decide_eq_true c3
        have e9 : lg_cmp X Y = nI 1 := by
          unfold lg_cmp
          rw [ex, ey, if_pos c3]
          decide +kernel
        rw [e9]
        exact hK _ _ _ _ _ _ _ c4 _ hn _ _ _ _ _ _ (hH.stk ⟨rfl, hH.2.2.2.2.2.2.2⟩)
      · have c3 := of_decide_eq_false c3
        have e9 : lg_cmp X Y = nI 0 := by
          unfold lg_cmp
          rw [ex, ey, if_neg c3, if_pos (Int64.le_antisymm (Int64.not_lt.mp c3) (Int64.not_lt.mp c1))]
          decide +kernel
        rw [e9]
        exact hK _ _ _ _ _ _ _ c4 _ hn _ _ _ _ _ _ (hH.stk ⟨rfl, hH.2.2.2.2.2.2.2⟩)
  · cases h
theorem zi_l64 {x y : Int32} : x.toInt64 < y.toInt64 ↔ x < y := by
  rw [Int64.lt_iff_toInt_lt, Int32.toInt_toInt64, Int32.toInt_toInt64, Int32.lt_iff_toInt_lt]
theorem zs_lcmp (hx : p.tables.exec = Jvm.exec) (hb : c.code = cc) (hdg : decode cc pc = .ok (.lcmp, 1)) (hK : ze_KK p l e R s m args below meth c Q z0 dC dI dA sp xs A nL V kk) (hn : ze_at V nx (pc + 1)) (h : zo_lcmp nx ca cb cd tl jp kk k cal mc ms ls st w g nc ns = true) (hH : ze_H z0 dC dI dA sp xs A s nL ls st w g ρ ws H locs la vs) : W p l e R s m args below meth c H locs nc ns Q (F0 m pc la vs) := by
  unfold zo_lcmp at h
  split at h
  · rename_i y x rest
    obtain ⟨y2, r1, e1, V2, L1⟩ := hH.2.2.2.2.2.2.2.cons
    obtain ⟨y1, r2, e2, V1, L2⟩ := L1.cons
    subst e1; subst e2
    obtain ⟨X, eX⟩ := ze_longV V1
    obtain ⟨Y, eY⟩ := ze_longV V2
    subst eX; subst eY
    refine W.lcmp hx hb hdg ?_
    have hH2 := hH.stk L2
    have slow : zo_lcc x y nx kk ls rest w g nc ns = true → W p l e R s m args below meth c H locs nc ns Q (F0 m (pc + 1) la (.int (lg_cmp X Y) :: r2)) := fun q => zi_lcc hK hn hH2 q V1 V2
    rcases zi_li zi_lr h V1 with ⟨x9, vx, ex, hvx, hf⟩ | hd
    · rcases zi_li zi_lr hf V2 with ⟨y9, vy, ey, hvy, hf2⟩ | hd
      · have ex : X = x9.toInt64 := Value.long.inj ex
        have ey : Y = y9.toInt64 := Value.long.inj ey
        obtain ⟨x8, y8, q1, q2, q3, q4⟩ := ze_lt_spec hf2 hH.1 hvx hvy
        cases q1; cases q2
        by_cases hlt : x9 < y9
        · obtain ⟨g', hG, q⟩ := q3 hlt
          have e9 : lg_cmp X Y = nI 4294967295 := by
            unfold lg_cmp
            rw [ex, ey, if_neg (fun q => Int32.lt_irrefl (Int32.lt_trans hlt (zi_l64.mp q))), if_neg (fun q => by
              have h9 := zi_l64.mpr hlt
              rw [q] at h9
              exact Int64.lt_irrefl h9)]
            decide +kernel
          rw [e9]
          exact hK _ _ _ _ _ _ _ q _ hn _ _ _ _ _ _ ((hH2.gs hG).stk ⟨rfl, L2⟩)
        · obtain ⟨g', hG, q⟩ := q4 hlt
          obtain ⟨y7, x7, q5, q6, q7, q8⟩ := ze_lt_spec q hG hvy hvx
          cases q5; cases q6
          by_cases hlt2 : y9 < x9
          · obtain ⟨g2, hG2, q⟩ := q7 hlt2
            have e9 : lg_cmp X Y = nI 1 := by
              unfold lg_cmp
              rw [ex, ey, if_pos (zi_l64.mpr hlt2)]
              decide +kernel
            rw [e9]
            exact hK _ _ _ _ _ _ _ q _ hn _ _ _ _ _ _ ((hH2.gs hG2).stk ⟨rfl, L2⟩)
          · obtain ⟨g2, hG2, q⟩ := q8 hlt2
            have e9 : lg_cmp X Y = nI 0 := by
              unfold lg_cmp
              rw [ex, ey, if_neg (fun q => hlt2 (zi_l64.mp q)), if_pos (by rw [Int32.le_antisymm (Int32.not_lt.mp hlt2) (Int32.not_lt.mp hlt)])]
              decide +kernel
            rw [e9]
            exact hK _ _ _ _ _ _ _ q _ hn _ _ _ _ _ _ ((hH2.gs hG2).stk ⟨rfl, L2⟩)
      · exact slow hd
    · exact slow hd
  · cases h
theorem ze_cp_spec {s0 : List EV} : ∀ (n : Nat) (d : List EV) (i j : Nat) (f : List EV → Bool), ze_cp s0 d i j n f = true → ∃ l, f l = true ∧ l.length = d.length ∧ (0 < n → i + n ≤ s0.length ∧ j + n ≤ d.length) ∧ ∀ q : Nat, l[q]? = if j ≤ q ∧ q < j + n then s0[i + (q - j)]? else d[q]? := by
  intro n
  induction n with
  | zero => intro d i j f h; exact ⟨d, h, rfl, fun q => absurd q (Nat.lt_irrefl 0), fun q => by rw [if_neg (by omega)]⟩
  | succ n ih =>
    intro d i j f h
    have h : ze_n s0 i (fun v => ze_n d j (fun _ => ze_cp s0 (ze_s v d j) (Nat.succ i) (Nat.succ j) n f)) = true := h
    obtain ⟨v, h1, h2⟩ := ze_n_spec _ _ _ h
    obtain ⟨u, h3, h4⟩ := ze_n_spec _ _ _ h2
    rw [ze_s_eq] at h4
    obtain ⟨l, q1, q2, q3, q4⟩ := ih _ _ _ _ h4
    have hi := (List.getElem?_eq_some_iff.mp h1).1
    have hj := (List.getElem?_eq_some_iff.mp h3).1
    rw [List.length_set] at q2 q3
    refine ⟨l, q1, q2, fun _ => ?_, fun q => ?_⟩
    · by_cases hz : 0 < n
      · have := q3 hz
        omega
      · omega
    · rw [q4 q]
      by_cases hq : q = j
      · subst hq
        rw [if_neg (by omega), List.getElem?_set_self hj, if_pos (by omega), Nat.sub_self, Nat.add_zero, h1]
      · rw [List.getElem?_set_ne (Ne.symm hq)]
        by_cases hr : Nat.succ j ≤ q ∧ q < Nat.succ j + n
        · rw [if_pos hr, if_pos (by omega), show Nat.succ i + (q - Nat.succ j) = i + (q - j) by omega]
        · rw [if_neg hr, if_neg (by omega)]
theorem zs_mmax (hx : p.tables.exec = Jvm.exec) (hb : c.code = cc) (hml : c.maxLocals = nL) (hown : s.vm.findClass own = some m.cls) (hts : ∀ w ∈ zb_T, w.before args s = true) (hRR : R.cells = mc ∧ R.slots = ms) (hR : 1 ≤ R.frames ∧ 40 ≤ R.locals) (hw1 : Cond.methodLink own idx Lib.Math.max.name ∈ zb_T) (hw2 : Cond.static Lib.Math.max.name ∈ zb_T) (hw3 : Cond.initialized "java/lang/Math" ∈ zb_T) (hw4 : Cond.code Lib.Math.max.name Lib.Math.max.code 2 (some .int) ∈ zb_T)
    (hdg : decode cc pc = .ok (.invokestatic idx, 3)) (hK : ze_KK p l e R s m args below meth c Q z0 dC dI dA sp xs A nL V kk) (hn : ze_at V nx (pc + 3)) (h : zo_mm nx 0 cb cd tl jp kk k cal mc ms ls st w g nc ns = true) (hH : ze_H z0 dC dI dA sp xs A s nL ls st w g ρ ws H locs la vs) : W p l e R s m args below meth c H locs nc ns Q (F0 m pc la vs) := by
  match st, h, hH with
  | [], h, _ => exact absurd h (by intro q; cases q)
  | [_], h, _ => exact absurd h (by intro q; cases q)
  | v2 :: v1 :: rest, h, hH =>
    obtain ⟨c1, h⟩ := ze_condf (show cond (Nat.ble (ze_cs rest) 8) (cond (Nat.ble nc mc) (cond (Nat.ble ns ms) (ze_lt g v1 v2 (fun g => kk nx ls (v2 :: rest) w g nc ns) (fun g => kk nx ls (v1 :: rest) w g nc ns)) false) false) false = true from h)
    obtain ⟨c2, h⟩ := ze_condf h
    obtain ⟨c3, h⟩ := ze_condf h
    obtain ⟨y1, r1, e1, V1, L1⟩ := hH.2.2.2.2.2.2.2.cons
    obtain ⟨y2, r2, e2, V2, L2⟩ := L1.cons
    subst e1; subst e2
    obtain ⟨x, y, ex, ey, q1, q2⟩ := zc_lt_ok g v1 v2 _ _ _ _ h hH.1 V2 V1
    subst ex; subst ey
    obtain ⟨lv, hl, -⟩ := hH.2.2.2.2.2.2.1
    have hc8 : (r2.map fun v => v.category).sum ≤ 8 := by rw [ze_cs_sum L2]; exact ze_ble' c1
    refine va_mmax hx hb (hml.trans hl.1.symm) hown (hts _ hw1) (hts _ hw2) (hts _ hw3) (hts _ hw4) hR.1 (by omega) (by rw [hRR.1]; exact ze_ble' c2) (by rw [hRR.2]; exact ze_ble' c3) hdg ?_
    by_cases hc : x < y
    · rw [if_pos hc]
      obtain ⟨g', hG, q⟩ := q1 hc
      exact hK _ _ _ _ _ _ _ q _ hn _ _ _ _ _ _ ((hH.stk (st' := v2 :: rest) (vs' := .int y :: r2) ⟨V1, L2⟩).gs hG)
    · rw [if_neg hc]
      obtain ⟨g', hG, q⟩ := q2 hc
      exact hK _ _ _ _ _ _ _ q _ hn _ _ _ _ _ _ ((hH.stk (st' := v1 :: rest) (vs' := .int x :: r2) ⟨V2, L2⟩).gs hG)
theorem zs_mmin (hx : p.tables.exec = Jvm.exec) (hb : c.code = cc) (hml : c.maxLocals = nL) (hown : s.vm.findClass own = some m.cls) (hts : ∀ w ∈ zb_T, w.before args s = true) (hRR : R.cells = mc ∧ R.slots = ms) (hR : 1 ≤ R.frames ∧ 40 ≤ R.locals) (hw1 : Cond.methodLink own idx Lib.Math.min.name ∈ zb_T) (hw2 : Cond.static Lib.Math.min.name ∈ zb_T) (hw3 : Cond.initialized "java/lang/Math" ∈ zb_T) (hw4 : Cond.code Lib.Math.min.name Lib.Math.min.code 2 (some .int) ∈ zb_T)
    (hdg : decode cc pc = .ok (.invokestatic idx, 3)) (hK : ze_KK p l e R s m args below meth c Q z0 dC dI dA sp xs A nL V kk) (hn : ze_at V nx (pc + 3)) (h : zo_mm nx 1 cb cd tl jp kk k cal mc ms ls st w g nc ns = true) (hH : ze_H z0 dC dI dA sp xs A s nL ls st w g ρ ws H locs la vs) : W p l e R s m args below meth c H locs nc ns Q (F0 m pc la vs) := by
  match st, h, hH with
  | [], h, _ => exact absurd h (by intro q; cases q)
  | [_], h, _ => exact absurd h (by intro q; cases q)
  | v2 :: v1 :: rest, h, hH =>
    obtain ⟨c1, h⟩ := ze_condf (show cond (Nat.ble (ze_cs rest) 8) (cond (Nat.ble nc mc) (cond (Nat.ble ns ms) (ze_lt g v2 v1 (fun g => kk nx ls (v2 :: rest) w g nc ns) (fun g => kk nx ls (v1 :: rest) w g nc ns)) false) false) false = true from h)
    obtain ⟨c2, h⟩ := ze_condf h
    obtain ⟨c3, h⟩ := ze_condf h
    obtain ⟨y1, r1, e1, V1, L1⟩ := hH.2.2.2.2.2.2.2.cons
    obtain ⟨y2, r2, e2, V2, L2⟩ := L1.cons
    subst e1; subst e2
    obtain ⟨x, y, ex, ey, q1, q2⟩ := zc_gt_ok g v1 v2 _ _ _ _ (show zc_gt g v1 v2 _ _ = true from h) hH.1 V2 V1
    subst ex; subst ey
    obtain ⟨lv, hl, -⟩ := hH.2.2.2.2.2.2.1
    have hc8 : (r2.map fun v => v.category).sum ≤ 8 := by rw [ze_cs_sum L2]; exact ze_ble' c1
    refine va_mmin hx hb (hml.trans hl.1.symm) hown (hts _ hw1) (hts _ hw2) (hts _ hw3) (hts _ hw4) hR.1 (by omega) (by rw [hRR.1]; exact ze_ble' c2) (by rw [hRR.2]; exact ze_ble' c3) hdg ?_
    by_cases hc : y < x
    · rw [if_pos hc]
      obtain ⟨g', hG, q⟩ := q1 hc
      exact hK _ _ _ _ _ _ _ q _ hn _ _ _ _ _ _ ((hH.stk (st' := v2 :: rest) (vs' := .int y :: r2) ⟨V1, L2⟩).gs hG)
    · rw [if_neg hc]
      obtain ⟨g', hG, q⟩ := q2 hc
      exact hK _ _ _ _ _ _ _ q _ hn _ _ _ _ _ _ ((hH.stk (st' := v1 :: rest) (vs' := .int x :: r2) ⟨V2, L2⟩).gs hG)
theorem zs_copy (hx : p.tables.exec = Jvm.exec) (hb : c.code = cc) (hml : c.maxLocals = nL) (hown : s.vm.findClass own = some m.cls) (hKs : ze_K dC dI dA s) (hts : ∀ w ∈ zb_T, w.before args s = true) (hai : (100, FieldType.int) ∈ ze_arr) (hR : 1 ≤ R.frames ∧ 40 ≤ R.locals) (hw1 : Cond.methodLink own idx arraycopyName ∈ zb_T) (hw2 : Cond.native arraycopyName ∈ zb_T) (hw3 : Cond.static arraycopyName ∈ zb_T) (hw4 : Cond.initialized "java/lang/System" ∈ zb_T)
    (hdg : decode cc pc = .ok (.invokestatic idx, 3)) (hK : ze_KK p l e R s m args below meth c Q z0 dC dI dA sp xs A nL V kk) (hn : ze_at V nx (pc + 3)) (h : zo_stat nx ca cb cd [] jp kk k cal mc ms ls st w g nc ns = true) (hH : ze_H z0 dC dI dA sp xs A s nL ls st w g ρ ws H locs la vs) : W p l e R s m args below meth c H locs nc ns Q (F0 m pc la vs) := by
  have h : zo_copy nx ca cb cd [] jp kk k cal mc ms ls st w g nc ns = true := h
  unfold zo_copy at h
  split at h
  · rename_i n dp d p0 s0 rest x99
    obtain ⟨v1, r1, e1, V1, L1⟩ := hH.2.2.2.2.2.2.2.cons
    obtain ⟨v2, r2, e2, V2, L2⟩ := L1.cons
    obtain ⟨v3, r3, e3, V3, L3⟩ := L2.cons
    obtain ⟨v4, r4, e4, V4, L4⟩ := L3.cons
    obtain ⟨v5, r5, e5, V5, L5⟩ := L4.cons
    subst e1; subst e2; subst e3; subst e4; subst e5
    obtain ⟨h1, h⟩ := ze_condf h
    obtain ⟨h0, h1⟩ := ze_condf h1
    obtain ⟨h2, h⟩ := ze_condf h
    obtain ⟨h3, h⟩ := ze_condf h
    have h0 := ze_ble' h0
    have h1 := ze_ble' h1
    have h2 := ze_ble' h2
    have h3 := ze_ble' h3
    obtain ⟨h4, h⟩ := ze_condf h
    obtain ⟨cs, g1, h⟩ := ze_g_spec h
    obtain ⟨k1, h⟩ := ze_condf h
    obtain ⟨c2, g2, h⟩ := ze_g_spec h
    obtain ⟨k2, h⟩ := ze_condf h
    obtain ⟨l9, q1, q2, q3, q4⟩ := ze_cp_spec _ _ _ _ _ h
    have k1 := ze_beq k1
    have k2 := ze_beq k2
    obtain ⟨a5, e05, ex5, hw5, hC5⟩ := hH.2.2.1.ref g1 V5
    obtain ⟨a3, e03, ex3, hw3', hC3⟩ := hH.2.2.1.ref g2 V3
    obtain ⟨f5, ef5, hf5⟩ := hC5.ints (by omega) (by omega)
    obtain ⟨f3, ef3, hf3⟩ := hC3.ints (by omega) (by omega)
    rw [k1] at ef5
    rw [k2] at ef3
    subst ef5; subst ef3; subst ex5; subst ex3
    have z1 : v1 = .int (nI n) := V1
    have z2 : v2 = .int (nI dp) := V2
    have z4 : v4 = .int (nI p0) := V4
    subst z1; subst z2; subst z4
    · have hle := q3 (by omega)
      obtain ⟨lv, hl, hLL⟩ := hH.2.2.2.2.2.2.1
      refine va_copyi (D := (dC, dI)) hx hb (by rw [hml]; exact hl.1.symm) hown (hts _ hw1) (hts _ hw2) (hts _ hw3) (hts _ hw4) (hKs.k1 hai) hH.2.2.2.1 hH.2.2.2.2.1 hH.2.2.2.2.2.1 _ _ 0 0 hw5 hw3' rfl rfl rfl (nI_pos (by omega)) (nI_pos (by omega)) (nI_pos (by omega)) (by rw [ze_cln (by omega), ze_cln (by omega)]; exact hle.1) (by rw [ze_cln (by omega), ze_cln (by omega)]; exact hle.2) (fun _ _ => rfl) hR.1 ?_ hdg (fun H1 locs1 g1 g2 g3 => ?_)
      · rw [ze_cs_sum L5]
        have := ze_ble' h4
        show ze_cs rest + (7 + 11) ≤ R.locals
        omega
      · rw [ze_cln (by omega), ze_cln (by omega), ze_cln (by omega)] at g1 g2
        refine hK _ _ _ _ _ _ _ q1 _ hn _ _ _ _ _ _ (hH.put hw3' (c1 := (100, l9)) (Or.inr (Or.inl ⟨(by show 100 ≤ 100; decide), (by show 100 < 150; decide), va_cpy f5 f3 p0 dp n, ?_, fun j v hj => ?_⟩)) g1 g2 g3 L5)
        · show _ = Sum.inl (_, l9.length, _)
          rw [q2]
        · have hj : l9[j]? = some v := hj
          rw [q4 j] at hj
          unfold va_cpy
          by_cases hr : dp ≤ j ∧ j < dp + n
          · rw [if_pos hr] at hj ⊢
            exact hf5 _ _ hj
          · rw [if_neg hr] at hj ⊢
            exact hf3 _ _ hj
  · cases h
end ZM
end
section
/-! THE ENGINE, part 8: the kinds of calls -/
theorem zg_in {ws : List Cond} (h : ∀ w ∈ ws, w ∈ zb_T) : GoodIn zb_T ws := fun w hw => ⟨h w hw, good_of_word (zb_good w (h w hw)).2⟩
theorem zg_code {w0 : Cond} (h : w0 ∈ zb_T) : ∀ w ∈ w0 :: zb_T, w ∈ zb_T := fun w hw => (List.mem_cons.mp hw).elim (fun e => e ▸ h) (fun q => q)
/-- what the engine's rows say of a callee -/
def ze_rm (d cy sy : Nat) : Room := { frames := d, cells := cy, slots := sy, locals := 70 * d }
section ZI
variable {p : Program} {l : Launch} {e : Env} {R : Room} {s : State} {m : MethodId} {args : Array Value} {below : List Frame} {meth : Method} {c : Code} {Q : State → Prop}
variable {z0 : List Int32 × List Nat} {dC : Nat → ClassId} {dI : Nat → Nat → Nat} {dA : Nat → ClassId} {sp : Nat → Nat} {xs : Nat → Int32} {A : Nat → Prop} {nL : Nat} {V : List ECE → Prop}
variable {kk : EKn} {k : ERt} {cal : ECal} {mc ms pc pc2 ca cb cd nc ns : Nat} {nx : List ECE} {jp : EJp} {tl : List Nat} {ls st : List EV} {w : EW} {g : EG} {ρ : List Int32} {ws : va_W} {H : Heap} {locs : List Loc} {la : Array Slot} {vs : List Value}
variable {cc : ByteArray} {own : String} {idx : Nat}
variable {yn : MethodName} {yb : ByteArray} {yL cy sy d nb : Nat} {yr : Option FieldType}
/-- the callee's contract, as the engine gives it -/
def ze_Cal (l : Launch) (dC : Nat → ClassId) (dI : Nat → Nat → Nat) (dA : Nat → ClassId) (sp : Nat → Nat) (xs : Nat → Int32) (A : Nat → Prop) (cal : ECal) (y d : Nat) (yn : MethodName) (yb : ByteArray) (yL : Nat) (yr : Option FieldType) (cy sy : Nat) : Prop :=
  ∀ (av : List EV) (w : EW) (g : EG) (k' : ERt), cal y av w g k' = true → ∀ (ρ : List Int32) (ws : va_W) (avs : List Value), ze_G g ρ → (∀ j, j < 6 → ρ[j]? = some (xs j)) → ze_W dA sp ρ w ws → ze_L sp ρ (ws.map (·.1)) av avs → Met l yn (.code yn yb yL yr :: zb_T) (ze_rm d cy sy) (va_Pc avs (ze_Pc dC dI dA sp xs A ws)) (ze_Qc dC dI dA sp A k' ρ (ws.map (·.1))) cy sy A
theorem ze_room {yL d : Nat} (hd : d + 1 ≤ R.frames ∧ 70 * (d + 1) ≤ R.locals) (hL : yL ≤ 51) : (ze_rm d cy sy).frames + 1 ≤ R.frames ∧ 8 + (yL + 11) + (ze_rm d cy sy).locals ≤ R.locals := by
  show d + 1 ≤ R.frames ∧ 8 + (yL + 11) + 70 * d ≤ R.locals
  omega
theorem zs_invV {y ci : Nat} {T : u_T} {N : Nat} (hx : p.tables.exec = Jvm.exec) (hb : c.code = cc) (hml : c.maxLocals = nL) (hown : s.vm.findClass own = some m.cls) (hKs : ze_K dC dI dA s) (hsc : ze_X sp xs A s) (hA : ∀ q, s.heap.size ≤ q → A q) (hts : ∀ w ∈ zb_T, w.before args s = true) (hcf : ze_CF) (hR : R.cells = mc ∧ R.slots = ms) (hRd : d + 1 ≤ R.frames ∧ 70 * (d + 1) ≤ R.locals) (hcal : ze_Cal l dC dI dA sp xs A cal y d yn yb yL yr cy sy)
    (hci : vwCl[ci]? = some (yn.cls, T, N)) (hyL : yL ≤ 51) (hcode : Cond.code yn yb yL yr ∈ zb_T) (hins : Cond.instanceMethod yn ∈ zb_T) (hsel : Cond.selects yn.cls yn yn ∈ zb_T) (hini : Cond.initialized yn.cls ∈ zb_T) (hpar : yn.cls ≠ "java/lang/invoke/MethodHandle" ∧ yn.cls ≠ "java/lang/invoke/VarHandle" ∧ (parseMethodDescriptor yn.desc).map (fun d => d.parameters.length) = some nb)
    (hlk : Cond.methodLink own idx yn ∈ zb_T ∨ ∃ host, Cond.methodLinkNest own idx yn host ∈ ze_nest)
    (hdg : decode cc pc = .ok (.invokevirtual idx, 3)) (hK : ze_KK p l e R s m args below meth c Q z0 dC dI dA sp xs A nL V kk) (hn : ze_at V nx (pc + 3)) (h : zo_call y (nb + 1) (ci + 1) cy sy nx ca cb cd tl jp kk k cal mc ms ls st w g nc ns = true) (hH : ze_H z0 dC dI dA sp xs A s nL ls st w g ρ ws H locs la vs) : W p l e R s m args below meth c H locs nc ns Q (F0 m pc la vs) := by
  refine zs_call hKs hsc hA hcal hK hn h hH (fun avs vr k' e1 e2 e3 e4 e5 hrc hM hpre => ?_) (fun ci' hc => by cases hc; exact (hcf ci _ _ _ hci).1)
  obtain ⟨b, As, q, fs, e6, hq⟩ := hrc ci rfl
  subst e6
  have hlen : As.length = nb := by simpa using e2
  obtain ⟨lv, hl, -⟩ := hH.2.2.2.2.2.2.1
  have hst : vs = As.reverse ++ .ref b :: vr := by rw [e1]; simp
  have hrm := ze_room (cy := cy) (sy := sy) hRd hyL
  have hPv : PreV s H yn.cls b (va_Pc (.ref b :: As) (ze_Pc dC dI dA sp xs A ws)) As := ⟨ze_blind, va_recv hKs.k0 hH.2.2.2.1 hci hq, hpre⟩
  rcases hlk with hlk | ⟨host, hlk⟩
  · refine va_runV (As := As) (rest := vr) (C := yn.cls) ⟨hx, hb, hml, hown, hts⟩ hM (cwV nb hts (zg_in ?_) rfl rfl rfl ⟨rfl, hpar⟩ hrm) hPv rfl hlen hl.1 hst (lv_room e3) hdg ⟨by rw [hR.1]; exact e4, by rw [hR.2]; exact e5⟩
    intro w' hw'
    rcases List.mem_append.mp hw' with h9 | h9
    · simp only [List.mem_cons, List.not_mem_nil, or_false] at h9
      rcases h9 with rfl | rfl | rfl | rfl
      · exact hlk
      · exact hins
      · exact hsel
      · exact hini
    · exact zg_code hcode w' h9
  · exact va_runVN (As := As) (rest := vr) (C := yn.cls) ⟨hx, hb, hml, hown, hts⟩ hM ⟨va_cnB nb hts (zg_in (zg_code hcode)) rfl rfl rfl (hKs.2.2.1 _ hlk) (hts _ hini) hpar hrm, hts _ hins, hts _ hsel⟩ hPv rfl hlen hl.1 hst (lv_room e3) hdg ⟨by rw [hR.1]; exact e4, by rw [hR.2]; exact e5⟩
theorem zs_invS {y : Nat} (hx : p.tables.exec = Jvm.exec) (hb : c.code = cc) (hml : c.maxLocals = nL) (hown : s.vm.findClass own = some m.cls) (hKs : ze_K dC dI dA s) (hsc : ze_X sp xs A s) (hA : ∀ q, s.heap.size ≤ q → A q) (hts : ∀ w ∈ zb_T, w.before args s = true) (hR : R.cells = mc ∧ R.slots = ms) (hRd : d + 1 ≤ R.frames ∧ 70 * (d + 1) ≤ R.locals) (hcal : ze_Cal l dC dI dA sp xs A cal y d yn yb yL yr cy sy)
    (hyL : yL ≤ 51) (hcode : Cond.code yn yb yL yr ∈ zb_T) (hsta : Cond.static yn ∈ zb_T) (hini : Cond.initialized yn.cls ∈ zb_T) (hpar : yn.cls ≠ "java/lang/invoke/MethodHandle" ∧ yn.cls ≠ "java/lang/invoke/VarHandle" ∧ (parseMethodDescriptor yn.desc).map (fun d => d.parameters.length) = some nb)
    (hlk : Cond.methodLink own idx yn ∈ zb_T ∨ ∃ host, Cond.methodLinkNest own idx yn host ∈ ze_nest)
    (hdg : decode cc pc = .ok (.invokestatic idx, 3)) (hK : ze_KK p l e R s m args below meth c Q z0 dC dI dA sp xs A nL V kk) (hn : ze_at V nx (pc + 3)) (h : zo_call y nb 0 cy sy nx ca cb cd tl jp kk k cal mc ms ls st w g nc ns = true) (hH : ze_H z0 dC dI dA sp xs A s nL ls st w g ρ ws H locs la vs) : W p l e R s m args below meth c H locs nc ns Q (F0 m pc la vs) := by
  refine zs_call hKs hsc hA hcal hK hn h hH (fun avs vr k' e1 e2 e3 e4 e5 hrc hM hpre => ?_) (fun ci' hc => by cases hc)
  obtain ⟨lv, hl, -⟩ := hH.2.2.2.2.2.2.1
  have hrm := ze_room (cy := cy) (sy := sy) hRd hyL
  have hPs : PreS s H (va_Pc avs (ze_Pc dC dI dA sp xs A ws)) avs := ⟨ze_blind, hpre⟩
  rcases hlk with hlk | ⟨host, hlk⟩
  · exact va_runS (As := avs) (rest := vr) ⟨hx, hb, hml, hown, hts⟩ hM ⟨callB_of nb hts (zg_in (zg_code hcode)) rfl rfl rfl (hts _ hini) (hts _ hlk) hpar hrm, hts _ hsta⟩ hPs rfl e2 hl.1 e1 (lv_room e3) hdg ⟨by rw [hR.1]; exact e4, by rw [hR.2]; exact e5⟩
  · exact va_runSN (As := avs) (rest := vr) ⟨hx, hb, hml, hown, hts⟩ hM ⟨va_cnB nb hts (zg_in (zg_code hcode)) rfl rfl rfl (hKs.2.2.1 _ hlk) (hts _ hini) hpar hrm, hts _ hsta, trivial⟩ hPs rfl e2 hl.1 e1 (lv_room e3) hdg ⟨by rw [hR.1]; exact e4, by rw [hR.2]; exact e5⟩
theorem zs_invI {y : Nat} (hx : p.tables.exec = Jvm.exec) (hb : c.code = cc) (hml : c.maxLocals = nL) (hown : s.vm.findClass own = some m.cls) (hKs : ze_K dC dI dA s) (hsc : ze_X sp xs A s) (hA : ∀ q, s.heap.size ≤ q → A q) (hts : ∀ w ∈ zb_T, w.before args s = true) (hR : R.cells = mc ∧ R.slots = ms) (hRd : d + 1 ≤ R.frames ∧ 70 * (d + 1) ≤ R.locals) (hcal : ze_Cal l dC dI dA sp xs A cal y d yn yb yL none cy sy)
    (hyL : yL ≤ 51) (hcode : Cond.code yn yb yL none ∈ zb_T) (hins : Cond.instanceMethod yn ∈ zb_T) (hini : Cond.initialized yn.cls ∈ zb_T) (hnm : yn.name = "<init>") (hpar : yn.cls ≠ "java/lang/invoke/MethodHandle" ∧ yn.cls ≠ "java/lang/invoke/VarHandle" ∧ (parseMethodDescriptor yn.desc).map (fun d => d.parameters.length) = some nb)
    (hlk : Cond.methodLink own idx yn ∈ zb_T ∨ ∃ host, Cond.methodLinkNest own idx yn host ∈ ze_nest)
    (hdg : decode cc pc = .ok (.invokespecial idx, 3)) (hK : ze_KK p l e R s m args below meth c Q z0 dC dI dA sp xs A nL V kk) (hn : ze_at V nx (pc + 3)) (h : zo_call y (nb + 1) 0 cy sy nx ca cb cd tl jp kk k cal mc ms ls st w g nc ns = true) (hq0 : ∀ (pop rest : List EV), st = pop ++ rest → pop.length = nb + 1 → ∃ q, pop.reverse.head? = some (eR q)) (hH : ze_H z0 dC dI dA sp xs A s nL ls st w g ρ ws H locs la vs) : W p l e R s m args below meth c H locs nc ns Q (F0 m pc la vs) := by
  refine zs_call hKs hsc hA hcal hK hn h hH (fun avs vr k' e1 e2 e3 e4 e5 hrc hM hpre => ?_) (fun ci' hc => by cases hc)
  obtain ⟨lv, hl, -⟩ := hH.2.2.2.2.2.2.1
  have hrm := ze_room (cy := cy) (sy := sy) hRd hyL
  have hav : ∃ b As, avs = Value.ref b :: As := by
    have hV := hH.2.2.2.2.2.2.2
    obtain ⟨pop, rest, e7, e8⟩ : ∃ pop rest, st = pop ++ rest ∧ pop.length = nb + 1 := by
      refine ⟨st.take (nb + 1), st.drop (nb + 1), (List.take_append_drop _ _).symm, ?_⟩
      rw [List.length_take, hV.len, e1]
      simp
      omega
    obtain ⟨q, hq⟩ := hq0 pop rest e7 e8
    rw [e7] at hV
    obtain ⟨v1, v2, e9, M1, M2⟩ := hV.split
    have e10 : avs.reverse = v1 ∧ vr = v2 := by
      rw [e1] at e9
      exact List.append_inj e9 (by rw [List.length_reverse, ← M1.len, e2, e8])
    have M3 := M1.rev
    rw [← e10.1, List.reverse_reverse] at M3
    cases hp : pop.reverse with
    | nil => rw [hp] at hq; cases hq
    | cons a t =>
      rw [hp] at hq M3
      cases hq
      obtain ⟨y9, ys, e11, ⟨z, -, hz⟩, -⟩ := M3.cons
      exact ⟨z, ys, by rw [e11, hz]⟩
  obtain ⟨b, As, e6⟩ := hav
  subst e6
  have hlen : As.length = nb := by simpa using e2
  have hst : vs = As.reverse ++ .ref b :: vr := by rw [e1]; simp
  have hPs : PreS s H (va_Pc (.ref b :: As) (ze_Pc dC dI dA sp xs A ws)) (.ref b :: As) := ⟨ze_blind, hpre⟩
  rcases hlk with hlk | ⟨host, hlk⟩
  · exact va_runI (As := As) (rest := vr) ⟨hx, hb, hml, hown, hts⟩ hM ⟨callB_of nb hts (zg_in (zg_code hcode)) rfl rfl rfl (hts _ hini) (hts _ hlk) hpar hrm, hnm, hts _ hins⟩ hPs rfl hlen hl.1 hst (lv_room e3) hdg ⟨by rw [hR.1]; exact e4, by rw [hR.2]; exact e5⟩
  · exact va_runIN (As := As) (rest := vr) ⟨hx, hb, hml, hown, hts⟩ hM ⟨va_cnB nb hts (zg_in (zg_code hcode)) rfl rfl rfl (hKs.2.2.1 _ hlk) (hts _ hini) hpar hrm, hnm, hts _ hins⟩ hPs rfl hlen hl.1 hst (lv_room e3) hdg ⟨by rw [hR.1]; exact e4, by rw [hR.2]; exact e5⟩
theorem zs_objInit (hx : p.tables.exec = Jvm.exec) (hb : c.code = cc) (hml : c.maxLocals = nL) (hown : s.vm.findClass own = some m.cls) (hts : ∀ w ∈ zb_T, w.before args s = true) (hR : 1 ≤ R.frames ∧ 40 ≤ R.locals) (hw1 : Cond.methodLink own idx Lib.objectInit ∈ zb_T) (hw2 : Cond.instanceMethod Lib.objectInit ∈ zb_T) (hw3 : Cond.code Lib.objectInit ⟨#[0xb1]⟩ 1 none ∈ zb_T)
    (hdg : decode cc pc = .ok (.invokespecial idx, 3)) (hK : ze_KK p l e R s m args below meth c Q z0 dC dI dA sp xs A nL V kk) (hn : ze_at V nx (pc + 3)) (h : zl_ st (fun v rest => zv_r v (fun _ => cond (Nat.ble (ze_cs rest) 8) (kk nx ls rest w g nc ns) false)) = true) (hH : ze_H z0 dC dI dA sp xs A s nL ls st w g ρ ws H locs la vs) : W p l e R s m args below meth c H locs nc ns Q (F0 m pc la vs) := by
  rcases st with _ | ⟨v, rest⟩
  · cases h
  · rcases v with (n | i) | ((q | (n | u)) | x)
    · cases h
    · cases h
    · obtain ⟨h1, h2⟩ := ze_condf (show cond (Nat.ble (ze_cs rest) 8) (kk nx ls rest w g nc ns) false = true from h)
      obtain ⟨y1, r1, e1, ⟨a, ha, e2⟩, L1⟩ := hH.2.2.2.2.2.2.2.cons
      subst e1; subst e2
      obtain ⟨lv, hl, -⟩ := hH.2.2.2.2.2.2.1
      refine W.objInit hx hb hown (hts _ hw1) (hts _ hw2) (hts _ hw3) rfl (by rw [hml]; exact hl.1) rfl hdg hR.1 ?_ (W.eq (g2 := F0 m (pc + 3) la r1) rfl (hK _ _ _ _ _ _ _ h2 _ hn _ _ _ _ _ _ (hH.stk L1)))
      have := lv_room (m := m) (pc := pc) (ls := la) (rest := .ref a :: r1) (st := r1) (by rw [ze_cs_sum L1]; exact ze_ble' h1)
      omega
    · cases h
    · cases h
    · cases h
end ZI
end
section
/-! THE ENGINE, part 9: what a row of code must be; what a run of rows says -/
/-- own class, code, locals, answer's type, is it a constructor, the rows from each sixteenth on; pc a b c list; the rows behind -/
abbrev EKC : Type := Nat → ByteArray → Nat → Option FieldType → Bool → List (List ECE) → Nat → Nat → Nat → Nat → List Nat → List ECE → Bool
def zk_no : EKC := fun _ _ _ _ _ _ _ _ _ _ _ _ => true
def zk_d (cc : ByteArray) (pc : Nat) (i : Jvm.ClassFile.Instr) (len : Nat) : Bool := decide (decode cc pc = .ok (i, len))
def zk_n (r : List ECE) (pc : Nat) : Bool := match r with
  | [] => false
  | e :: _ => Nat.beq e.2.1 pc
/-- the rows at a target -/
def ze_drop : Nat → List ECE → Option (List ECE)
  | 0, cs => some cs
  | _ + 1, [] => none
  | n + 1, _ :: r => ze_drop n r
def ze_tgt (jt : List (List ECE)) (a : Nat) : Option (List ECE) := (jt[a / 16]?).bind (ze_drop (a % 16))
def zk_jm (jt : List (List ECE)) (pc : Nat) (off : Int) (a : Nat) : Bool := match ze_tgt jt a with
  | some (e :: _) => decide ((pc : Int) + off = (e.2.1 : Int))
  | _ => false
def zk_s (i : Jvm.ClassFile.Instr) : EKC := fun _ cc _ _ _ _ pc _ _ _ _ r => zk_d cc pc i 1 && zk_n r (pc + 1)
def zk_ic (n : Int) : EKC := fun _ cc _ _ _ _ pc a _ _ _ r => zk_d cc pc (.iconst n) 1 && zk_n r (pc + 1) && decide (Int32.ofInt n = nI a)
def zk_bi (n : Int) : EKC := fun _ cc _ _ _ _ pc a _ _ _ r => zk_d cc pc (.bipush n) 2 && zk_n r (pc + 2) && decide ((Int8.ofInt n).toInt32 = nI a)
def zk_si (n : Int) : EKC := fun _ cc _ _ _ _ pc a _ _ _ r => zk_d cc pc (.sipush n) 3 && zk_n r (pc + 3) && decide ((Int16.ofInt n).toInt32 = nI a)
def zk_lc (n : Fin 2) : EKC := fun _ cc _ _ _ _ pc a _ _ _ r => zk_d cc pc (.lconst n) 1 && zk_n r (pc + 1) && decide (Int64.ofNat n.val = lN a)
def zk_ld (n : Nat) : EKC := fun o cc _ _ _ _ pc a _ _ _ r => zk_d cc pc (.ldc n) 2 && zk_n r (pc + 2) && decide ((n, a) ∈ zl_k.getD o [])
def zk_ldw (n : Nat) : EKC := fun o cc _ _ _ _ pc a _ _ _ r => zk_d cc pc (.ldc_w n) 3 && zk_n r (pc + 3) && decide ((n, a) ∈ zl_k.getD o [])
def zk_ld2 (n : Nat) : EKC := fun o cc _ _ _ _ pc a _ _ _ r => zk_d cc pc (.ldc2_w n) 3 && zk_n r (pc + 3) && decide ((n, a) ∈ zl_kl.getD o [])
def zk_x (i : Jvm.ClassFile.Instr) (len n : Nat) : EKC := fun _ cc _ _ _ _ pc a _ _ _ r => zk_d cc pc i len && zk_n r (pc + len) && decide (n = a)
def zk_y (i : Jvm.ClassFile.Instr) (len n wd : Nat) : EKC := fun _ cc nL _ _ _ pc a _ _ _ r => zk_d cc pc i len && zk_n r (pc + len) && decide (n = a) && decide (a + wd ≤ nL)
def zk_ii (i : Nat) (n : Int) : EKC := fun _ cc nL _ _ _ pc a b _ _ r => zk_d cc pc (.iinc i n) 3 && zk_n r (pc + 3) && decide (i = a) && decide (a + 1 ≤ nL) && decide (Int32.ofInt n = nI b)
def zk_go (f : Int) : EKC := fun _ cc _ _ _ jt pc a _ _ _ _ => zk_d cc pc (.goto f) 3 && zk_jm jt pc f a
def zk_j (i : Jvm.ClassFile.Instr) (f : Int) : EKC := fun _ cc _ _ _ jt pc a _ _ _ r => zk_d cc pc i 3 && zk_n r (pc + 3) && zk_jm jt pc f a
def zk_de (cc : ByteArray) (pc : Nat) (i : Jvm.ClassFile.Instr) : Bool := match decode cc pc with
  | .ok q => decide (q.1 = i)
  | .error _ => false
def zk_tt (jt : List (List ECE)) (pc : Nat) : Int → List Int → List Nat → Bool
  | _, [], [] => true
  | lo, o :: os, z :: t :: ts => decide ((z : Int) = lo + 2147483648) && zk_jm jt pc o t && zk_tt jt pc (lo + 1) os ts
  | _, _, _ => false
def zk_ts (d lo hi : Int) (offs : Array Int) : EKC := fun _ cc _ _ _ jt pc a _ _ tl _ => zk_de cc pc (.tableswitch d lo hi offs) && zk_jm jt pc d a && decide (lo + (offs.toList.length : Int) = hi + 1) && zk_tt jt pc lo offs.toList tl
def zk_lt (jt : List (List ECE)) (pc : Nat) : List (Int × Int) → List Nat → Bool
  | [], [] => true
  | q :: ps, z :: t :: ts => decide ((z : Int) = q.1 + 2147483648) && zk_jm jt pc q.2 t && zk_lt jt pc ps ts
  | _, _ => false
def zk_ls (d : Int) (ps : Array (Int × Int)) : EKC := fun _ cc _ _ _ jt pc a _ _ tl _ => zk_de cc pc (.lookupswitch d ps) && zk_jm jt pc d a && (ps.toList.zip (ps.toList.drop 1)).all (fun (a, next) => a.1 < next.1) && zk_lt jt pc ps.toList tl
def zk_gf (n : Nat) : EKC := fun o cc _ _ _ _ pc a b _ _ r => zk_d cc pc (.getfield n) 3 && zk_n r (pc + 3) && decide ((n, a, b) ∈ zl_f.getD o [])
def zk_pf (n : Nat) : EKC := fun o cc _ _ ini _ pc a b c _ r => zk_d cc pc (.putfield n) 3 && zk_n r (pc + 3) && (decide ((n, a, b, c, 0) ∈ zl_p.getD o []) || (ini && decide ((n, a, b, c, 1) ∈ zl_p.getD o [])))
def zk_nw (n : Nat) : EKC := fun o cc _ _ _ _ pc a _ _ tl r => zk_d cc pc (.new n) 3 && zk_n r (pc + 3) && decide ((n, a, tl) ∈ zl_n.getD o [])
def zk_na (t : ArrayType) : EKC := fun _ cc _ _ _ _ pc a b _ _ r => zk_d cc pc (.newarray t) 2 && zk_n r (pc + 2) && (match t with
  | .int => decide (a = 100) && decide (b = 0)
  | .char => decide (a = 101) && decide (b = 0)
  | .boolean => decide (a = 104) && decide (b = 0)
  | .long => decide (a = 150) && decide (b = 3)
  | _ => false)
def zk_aa (n : Nat) : EKC := fun o cc _ _ _ _ pc a b _ _ r => zk_d cc pc (.anewarray n) 3 && zk_n r (pc + 3) && decide ((n, a) ∈ zl_a.getD o []) && decide (b = 2)
def zk_iv (n : Nat) : EKC := fun o cc _ _ _ _ pc a b c tl r => zk_d cc pc (.invokevirtual n) 3 && zk_n r (pc + 3) && decide ((n, a, b, c, tl) ∈ zl_v.getD o [])
def zk_is (n : Nat) : EKC := fun o cc _ _ _ _ pc a b c tl r => zk_d cc pc (.invokestatic n) 3 && zk_n r (pc + 3) && (decide ((n, a, b, c, tl) ∈ zl_s.getD o []) || (decide (tl = []) && decide (n ∈ zl_y.getD o [])) || (decide (tl = [0]) && decide ((n, a) ∈ zl_m.getD o [])))
def zk_ip (n : Nat) : EKC := fun o cc _ _ _ _ pc a b c tl r => zk_d cc pc (.invokespecial n) 3 && zk_n r (pc + 3) && (decide ((n, a, b, c, tl) ∈ zl_i.getD o []) || (decide (tl = []) && decide (n ∈ zl_o.getD o [])))
def zk_rt (rt : Option FieldType) (a : Nat) : Bool := match rt with
  | some .int => decide (a = 0)
  | some .boolean => decide (a = 1)
  | some .char => decide (a = 4)
  | _ => false
def zk_ir : EKC := fun _ cc _ rt _ _ pc a _ _ _ _ => zk_d cc pc .ireturn 1 && zk_rt rt a
def zk_lr : EKC := fun _ cc _ rt _ _ pc _ _ _ _ _ => zk_d cc pc .lreturn 1 && decide (rt = some .long)
def zk_ar : EKC := fun _ cc _ rt _ _ pc _ _ _ _ _ => zk_d cc pc .areturn 1 && (match rt with
  | some (.object _) => true
  | some (.array _) => true
  | _ => false)
def zk_vr : EKC := fun _ cc _ rt _ _ pc _ _ _ _ _ => zk_d cc pc .return_ 1 && decide (rt = none)
noncomputable def zk_do (i : Jvm.ClassFile.Instr) : EKC := Jvm.ClassFile.Instr.rec (motive := fun _ => EKC)
  (zk_s .aaload) (zk_s .aastore) (zk_s .aconst_null) (fun n => zk_x (.aload n) 2 n) (fun n => zk_x (.aload_n n) 1 n.val) (fun n => zk_aa n) zk_ar (zk_s .arraylength) (fun n => zk_y (.astore n) 2 n 1) (fun n => zk_y (.astore_n n) 1 n.val 1) zk_no (zk_s .baload) (zk_s .bastore) (fun n => zk_bi n) (zk_s .caload) (zk_s .castore) (fun _ => zk_no) zk_no zk_no zk_no zk_no zk_no zk_no (fun _ => zk_no) (fun _ => zk_no) zk_no (fun _ => zk_no) (fun _ => zk_no) zk_no zk_no zk_no zk_no (fun _ => zk_no) (fun _ => zk_no) zk_no (zk_s .dup) (zk_s .dup_x1) (zk_s .dup_x2) (zk_s .dup2) zk_no zk_no zk_no zk_no zk_no zk_no zk_no zk_no (fun _ => zk_no) (fun _ => zk_no) zk_no (fun _ => zk_no) (fun _ => zk_no) zk_no zk_no zk_no zk_no (fun _ => zk_no) (fun _ => zk_no) zk_no (fun n => zk_gf n) (fun _ => zk_no) (fun f => zk_go f) (fun _ => zk_no) (zk_s .i2b) (zk_s .i2c) zk_no zk_no (zk_s .i2l) (zk_s .i2s) (zk_s .iadd) (zk_s .iaload) (zk_s .iand) (zk_s .iastore) (fun n => zk_ic n) (zk_s .idiv) (fun _ _ => zk_no) (fun c f => zk_j (.if_icmp c f) f) (fun c f => zk_j (.ifCond c f) f) (fun f => zk_j (.ifnonnull f) f) (fun f => zk_j (.ifnull f) f) (fun i n => zk_ii i n) (fun n => zk_x (.iload n) 2 n) (fun n => zk_x (.iload_n n) 1 n.val) (zk_s .imul) (zk_s .ineg) (fun _ => zk_no) (fun _ => zk_no) (fun _ _ => zk_no) (fun n => zk_ip n) (fun n => zk_is n) (fun n => zk_iv n) (zk_s .ior) (zk_s .irem) zk_ir (zk_s .ishl) (zk_s .ishr) (fun n => zk_y (.istore n) 2 n 1) (fun n => zk_y (.istore_n n) 1 n.val 1) (zk_s .isub) (zk_s .iushr) (zk_s .ixor) (fun _ => zk_no) (fun _ => zk_no) zk_no zk_no (zk_s .l2i) (zk_s .ladd) (zk_s .laload) (zk_s .land) (zk_s .lastore) (zk_s .lcmp) (fun n => zk_lc n) (fun n => zk_ld n) (fun n => zk_ldw n) (fun n => zk_ld2 n) (zk_s .ldiv) (fun n => zk_x (.lload n) 2 n) (fun n => zk_x (.lload_n n) 1 n.val) (zk_s .lmul) zk_no (fun d ps => zk_ls d ps) (zk_s .lor) (zk_s .lrem) zk_lr (zk_s .lshl) (zk_s .lshr) (fun n => zk_y (.lstore n) 2 n 2) (fun n => zk_y (.lstore_n n) 1 n.val 2) (zk_s .lsub) zk_no zk_no zk_no zk_no (fun _ _ => zk_no) (fun n => zk_nw n) (fun t => zk_na t) zk_no (zk_s .pop) zk_no (fun n => zk_pf n) (fun _ => zk_no) (fun _ => zk_no) zk_vr zk_no zk_no (fun n => zk_si n) zk_no (fun d lo hi offs => zk_ts d lo hi offs) i
noncomputable def zk_code (o : Nat) (cc : ByteArray) (nL : Nat) (rt : Option FieldType) (ini : Bool) (jt : List (List ECE)) (cs : List ECE) : Bool := List.rec (motive := fun _ => Bool) true (fun e r ih => cond (zk_do e.1 o cc nL rt ini jt e.2.1 e.2.2.1 e.2.2.2.1 e.2.2.2.2.1 e.2.2.2.2.2 r) ih false) cs
end
section
/-! THE ENGINE, part 10: what the links say; a run of rows -/
def ZF_f : Prop := ∀ (o n a b : Nat), (n, a, b) ∈ zl_f.getD o [] → ∃ (C : String) (T : u_T) (N : Nat), vwCl[a]? = some (C, T, N) ∧ b < N ∧ ze_FL (zn o) n T b
def ZF_p : Prop := ∀ (o n a b c f : Nat), (n, a, b, c, f) ∈ zl_p.getD o [] → ∃ (C : String) (T : u_T) (N : Nat) (ty : FieldType), vwCl[a]? = some (C, T, N) ∧ b < N ∧ parseFieldDescriptor (T b).2.2.1 = some ty ∧ ze_ty c ty ∧ ((f = 0 ∧ (T b).2.2.2 = false ∧ ze_FL (zn o) n T b) ∨ (f = 1 ∧ (T b).2.2.2 = true ∧ (T b).1 = zn o ∧ Cond.fieldLink (zn o) n (T b).1 (T b).2.1 (T b).2.2.1 ∈ zb_T))
def ZF_n : Prop := ∀ (o n a : Nat) (tl : List Nat), (n, a, tl) ∈ zl_n.getD o [] → ∃ (C : String) (T : u_T) (N : Nat), vwCl[a]? = some (C, T, N) ∧ tl.length = N ∧ (∀ j, j < N → ∃ t ty, tl[j]? = some t ∧ parseFieldDescriptor (T j).2.2.1 = some ty ∧ ze_ty t ty) ∧ Cond.classLink (zn o) n C ∈ zb_T ∧ Cond.instantiable C N ∈ zb_T ∧ Cond.initialized C ∈ zb_T
def ZF_a : Prop := ∀ (o n a : Nat), (n, a) ∈ zl_a.getD o [] → a = 209 ∧ Cond.classLink (zn o) n "ConfettiMinutes$Town" ∈ zb_T
def ZF_k : Prop := ∀ (o n a : Nat), (n, a) ∈ zl_k.getD o [] → Jvm.Cond.constant (zn o) n (nI a) ∈ zb_T
def ZF_kl : Prop := ∀ (o n a : Nat), (n, a) ∈ zl_kl.getD o [] → Jvm.Cond.constantLong (zn o) n (lN a) ∈ zb_T
/-- a method that may be called -/
def ZF_q (q : ZMt) (nb : Nat) : Prop := q.2.2.1 ≤ 51 ∧ Cond.code q.1 q.2.1 q.2.2.1 q.2.2.2.1 ∈ zb_T ∧ Cond.initialized q.1.cls ∈ zb_T ∧ q.1.cls ≠ "java/lang/invoke/MethodHandle" ∧ q.1.cls ≠ "java/lang/invoke/VarHandle" ∧ (parseMethodDescriptor q.1.desc).map (fun d => d.parameters.length) = some nb
def ZF_l (o n : Nat) (yn : MethodName) : Prop := Cond.methodLink (zn o) n yn ∈ zb_T ∨ ∃ host, Cond.methodLinkNest (zn o) n yn host ∈ ze_nest
def ZF_v : Prop := ∀ (o n a b c : Nat) (tl : List Nat), (n, a, b, c, tl) ∈ zl_v.getD o [] → ∃ (q : ZMt) (ci : Nat) (T : u_T) (N nb : Nat), zm a = some q ∧ tl = [q.2.2.2.2.2.1, q.2.2.2.2.2.2] ∧ b = nb + 1 ∧ c = ci + 1 ∧ vwCl[ci]? = some (q.1.cls, T, N) ∧ ZF_q q nb ∧ Cond.instanceMethod q.1 ∈ zb_T ∧ Cond.selects q.1.cls q.1 q.1 ∈ zb_T ∧ ZF_l o n q.1
def ZF_s : Prop := ∀ (o n a b c : Nat) (tl : List Nat), (n, a, b, c, tl) ∈ zl_s.getD o [] → ∃ (q : ZMt), zm a = some q ∧ tl = [q.2.2.2.2.2.1, q.2.2.2.2.2.2] ∧ c = 0 ∧ ZF_q q b ∧ Cond.static q.1 ∈ zb_T ∧ ZF_l o n q.1
def ZF_i : Prop := ∀ (o n a b c : Nat) (tl : List Nat), (n, a, b, c, tl) ∈ zl_i.getD o [] → ∃ (q : ZMt) (nb : Nat), zm a = some q ∧ tl = [q.2.2.2.2.2.1, q.2.2.2.2.2.2] ∧ b = nb + 1 ∧ c = 0 ∧ ZF_q q nb ∧ q.2.2.2.1 = none ∧ q.1.name = "<init>" ∧ Cond.instanceMethod q.1 ∈ zb_T ∧ ZF_l o n q.1
def ZF_o : Prop := (∀ (o n : Nat), n ∈ zl_o.getD o [] → Cond.methodLink (zn o) n Lib.objectInit ∈ zb_T) ∧ Cond.instanceMethod Lib.objectInit ∈ zb_T ∧ Cond.code Lib.objectInit ⟨#[0xb1]⟩ 1 none ∈ zb_T
def ZF_y : Prop := (∀ (o n : Nat), n ∈ zl_y.getD o [] → Cond.methodLink (zn o) n arraycopyName ∈ zb_T) ∧ Cond.native arraycopyName ∈ zb_T ∧ Cond.static arraycopyName ∈ zb_T ∧ Cond.initialized "java/lang/System" ∈ zb_T
def ZF_r : Prop := Cond.arrayClass .int ∈ zb_T ∧ Cond.arrayClass .char ∈ zb_T ∧ Cond.arrayClass .boolean ∈ zb_T ∧ Cond.arrayClass .long ∈ zb_T
def ZF_m : Prop := (∀ (o n a : Nat), (n, a) ∈ zl_m.getD o [] → (a = 0 ∧ Cond.methodLink (zn o) n Lib.Math.max.name ∈ zb_T) ∨ (a = 1 ∧ Cond.methodLink (zn o) n Lib.Math.min.name ∈ zb_T)) ∧ Cond.static Lib.Math.max.name ∈ zb_T ∧ Cond.static Lib.Math.min.name ∈ zb_T ∧ Cond.initialized "java/lang/Math" ∈ zb_T ∧ Cond.code Lib.Math.max.name Lib.Math.max.code 2 (some .int) ∈ zb_T ∧ Cond.code Lib.Math.min.name Lib.Math.min.code 2 (some .int) ∈ zb_T
def ZF : Prop := ze_CF ∧ ze_AF ∧ ZF_f ∧ ZF_p ∧ ZF_n ∧ ZF_a ∧ ZF_k ∧ ZF_kl ∧ ZF_v ∧ ZF_s ∧ ZF_i ∧ ZF_o ∧ ZF_y ∧ ZF_r ∧ ZF_m
theorem ze_a0 : (100, FieldType.int) ∈ ze_arr := by decide +kernel
theorem ze_a1 : (101, FieldType.char) ∈ ze_arr := by decide +kernel
theorem ze_a4 : (104, FieldType.boolean) ∈ ze_arr := by decide +kernel
theorem ze_a5 : (150, FieldType.long) ∈ ze_arr := by decide +kernel
theorem ze_a9 : (209, FieldType.object "ConfettiMinutes$Town") ∈ ze_arr := by decide +kernel
theorem ze_aa : ∀ kd ∈ ze_ka, 100 ≤ kd ∧ ∃ ty, (kd, ty) ∈ ze_arr := by
  intro kd h
  have h : kd ∈ [100, 101, 104, 150, 209] := h
  simp only [List.mem_cons, List.not_mem_nil, or_false] at h
  rcases h with rfl | rfl | rfl | rfl | rfl
  · exact ⟨by decide, _, ze_a0⟩
  · exact ⟨by decide, _, ze_a1⟩
  · exact ⟨by decide, _, ze_a4⟩
  · exact ⟨by decide, _, ze_a5⟩
  · exact ⟨by decide, _, ze_a9⟩
theorem zk_and {a b : Bool} (h : (a && b) = true) : a = true ∧ b = true := by
  cases a <;> cases b <;> first | exact ⟨rfl, rfl⟩ | cases h
theorem zk_or {a b : Bool} (h : (a || b) = true) : a = true ∨ b = true := by
  cases a <;> cases b <;> first | exact Or.inl rfl | exact Or.inr rfl | cases h
theorem ze_dr_spec {f : List ECE → Bool} : ∀ (n : Nat) (cs : List ECE), ze_dr f n cs = true → ∃ r, ze_drop n cs = some r ∧ f r = true := by
  intro n
  induction n with
  | zero => intro cs h; exact ⟨cs, rfl, h⟩
  | succ n ih =>
    intro cs h
    cases cs with
    | nil => cases h
    | cons e r => exact ih r h
theorem ze_jp_spec {jt : List (List ECE)} {a : Nat} {f : List ECE → Bool} (h : ze_jp jt a f = true) : ∃ cs, ze_tgt jt a = some cs ∧ f cs = true := by
  obtain ⟨c0, h1, h2⟩ := ze_n_spec _ _ _ h
  obtain ⟨r, h3, h4⟩ := ze_dr_spec _ _ h2
  have h1 : jt[a / 16]? = some c0 := h1
  refine ⟨r, ?_, h4⟩
  unfold ze_tgt
  rw [h1]
  exact h3
section ZV
variable {o nL : Nat} {cc : ByteArray} {rt : Option FieldType} {ini : Bool} {jt : List (List ECE)}
theorem zk_tail {e9 : ECE} {r : List ECE} (h : zk_code o cc nL rt ini jt (e9 :: r) = true) : zk_do e9.1 o cc nL rt ini jt e9.2.1 e9.2.2.1 e9.2.2.2.1 e9.2.2.2.2.1 e9.2.2.2.2.2 r = true ∧ zk_code o cc nL rt ini jt r = true := ze_condf h
theorem zk_drop : ∀ (n : Nat) (cs r : List ECE), zk_code o cc nL rt ini jt cs = true → ze_drop n cs = some r → zk_code o cc nL rt ini jt r = true := by
  intro n
  induction n with
  | zero => intro cs r h e9; cases e9; exact h
  | succ n ih =>
    intro cs r h e9
    cases cs with
    | nil => cases e9
    | cons e8 t => exact ih t r (zk_tail h).2 e9
theorem zk_nx {r : List ECE} {pc : Nat} (hV : zk_code o cc nL rt ini jt r = true) (h : zk_n r pc = true) : ze_at (fun cs => zk_code o cc nL rt ini jt cs = true) r pc := by
  cases r with
  | nil => cases h
  | cons e9 t => exact ⟨hV, e9, t, rfl, ze_beq h⟩
theorem zk_to (hjt : ∀ cs ∈ jt, zk_code o cc nL rt ini jt cs = true) {a pc : Nat} {off : Int} (h : zk_jm jt pc off a = true) : ∃ tgt : Nat, (pc : Int) + off = (tgt : Int) ∧ ∀ f : List ECE → Bool, ze_jp jt a f = true → ∃ cs, f cs = true ∧ ze_at (fun cs => zk_code o cc nL rt ini jt cs = true) cs tgt := by
  unfold zk_jm at h
  split at h
  · rename_i e9 t9 ht
    refine ⟨e9.2.1, of_decide_eq_true h, fun f hf => ?_⟩
    obtain ⟨cs, h1, h2⟩ := ze_jp_spec hf
    have hcs : cs = e9 :: t9 := by rw [ht] at h1; exact (Option.some.inj h1).symm
    subst hcs
    refine ⟨_, h2, ?_, e9, t9, rfl, rfl⟩
    unfold ze_tgt at ht
    cases hj : jt[a / 16]? with
    | none => rw [hj] at ht; cases ht
    | some c0 =>
      rw [hj] at ht
      exact zk_drop _ c0 _ (hjt c0 (List.mem_of_getElem? hj)) ht
  · cases h
end ZV
theorem zk_dec {cc : ByteArray} {pc len : Nat} {i : Jvm.ClassFile.Instr} (h : zk_d cc pc i len = true) : decode cc pc = .ok (i, len) := of_decide_eq_true h
theorem zk_dex {cc : ByteArray} {pc : Nat} {i : Jvm.ClassFile.Instr} (h : zk_de cc pc i = true) : ∃ len, decode cc pc = .ok (i, len) := by
  unfold zk_de at h
  split at h
  · rename_i q hq
    have := of_decide_eq_true h
    subst this
    exact ⟨q.2, hq⟩
  · cases h
theorem zi_div0 {y0 : Nat} (h : Nat.beq (Nat.mod y0 4294967296) 0 = false) : ¬ nI y0 = 0 := by
  intro q
  have h2 := ze_nbeq h
  have h3 := ze_tn y0
  rw [q] at h3
  exact h2 (show y0 % 4294967296 = 0 by rw [← h3]; rfl)
theorem zi_ldiv0 {y0 : Nat} (h : Nat.beq (Nat.mod y0 18446744073709551616) 0 = false) : ¬ lN y0 = 0 := by
  intro q
  have h2 := ze_nbeq h
  have h3 : (lN y0).toBitVec.toNat = y0 % 18446744073709551616 := by
    show (BitVec.ofNat 64 y0).toNat = _
    rw [BitVec.toNat_ofNat]
  rw [q] at h3
  exact h2 (show y0 % 18446744073709551616 = 0 by rw [← h3]; rfl)
/-- a switch's target -/
theorem zk_ttok {o nL : Nat} {cc : ByteArray} {rt : Option FieldType} {ini : Bool} {jt : List (List ECE)} (hjt : ∀ cs ∈ jt, zk_code o cc nL rt ini jt cs = true) {pc a : Nat} {z : Nat} : ∀ (offs : List Int) (lo : Int) (tl : List Nat), zk_tt jt pc lo offs tl = true →
    ((z : Int) - 2147483648 < lo ∨ lo + offs.length ≤ (z : Int) - 2147483648 → ze_tg z a tl false 0 = a) ∧ (lo ≤ (z : Int) - 2147483648 → (z : Int) - 2147483648 < lo + offs.length → ∃ off, offs[((z : Int) - 2147483648 - lo).toNat]? = some off ∧ zk_jm jt pc off (ze_tg z a tl false 0) = true) := by
  intro offs
  induction offs with
  | nil =>
    intro lo tl h
    cases tl with
    | nil => exact ⟨fun _ => rfl, fun h1 h2 => by simp at h2; omega⟩
    | cons x t => cases h
  | cons f os ih =>
    intro lo tl h
    match tl, h with
    | [], h => cases h
    | [x], h => cases h
    | x :: t :: ts, h =>
      obtain ⟨h1, h3⟩ := zk_and (show (decide ((x : Int) = lo + 2147483648) && zk_jm jt pc f t && zk_tt jt pc (lo + 1) os ts) = true from h)
      obtain ⟨h1, h2⟩ := zk_and h1
      have h1 := of_decide_eq_true h1
      obtain ⟨i1, i2⟩ := ih (lo + 1) ts h3
      have et : ze_tg z a (x :: t :: ts) false 0 = cond (Nat.beq x z) t (ze_tg z a ts false 0) := rfl
      rw [et]
      cases hb : Nat.beq x z with
      | true =>
        have hb := ze_beq hb
        refine ⟨fun h9 => ?_, fun h8 h9 => ?_⟩
        · simp at h9; omega
        · refine ⟨f, ?_, h2⟩
          rw [show ((z : Int) - 2147483648 - lo).toNat = 0 by omega]
          rfl
      | false =>
        have hb := ze_nbeq hb
        refine ⟨fun h9 => i1 ?_, fun h8 h9 => ?_⟩
        · simp at h9; omega
        · obtain ⟨off, j1, j2⟩ := i2 (by omega) (by simp at h9; omega)
          refine ⟨off, ?_, j2⟩
          rw [show ((z : Int) - 2147483648 - lo).toNat = ((z : Int) - 2147483648 - (lo + 1)).toNat + 1 by omega]
          exact j1
theorem zk_ltok {jt : List (List ECE)} {pc a : Nat} {x : Int32} {d : Int} (hd : zk_jm jt pc d a = true) : ∀ (ps : List (Int × Int)) (tl : List Nat), zk_lt jt pc ps tl = true → zk_jm jt pc (Op.lookupswitch.offset ps d x.toInt) (ze_tg (ze_b x) a tl false 0) = true := by
  intro ps
  induction ps with
  | nil =>
    intro tl h
    cases tl with
    | nil => exact hd
    | cons y t => cases h
  | cons q ps ih =>
    intro tl h
    match tl, h with
    | [], h => cases h
    | [y], h => cases h
    | y :: t :: ts, h =>
      obtain ⟨h1, h3⟩ := zk_and (show (decide ((y : Int) = q.1 + 2147483648) && zk_jm jt pc q.2 t && zk_lt jt pc ps ts) = true from h)
      obtain ⟨h1, h2⟩ := zk_and h1
      have h1 := of_decide_eq_true h1
      have hb9 := ze_b_int x
      have et : ze_tg (ze_b x) a (y :: t :: ts) false 0 = cond (Nat.beq y (ze_b x)) t (ze_tg (ze_b x) a ts false 0) := rfl
      obtain ⟨qa, qo⟩ := q
      rw [et, Op.lookupswitch.offset_cons]
      cases hb : Nat.beq y (ze_b x) with
      | true =>
        have hb := ze_beq hb
        rw [if_pos (by show qa = x.toInt; have h1 : (y : Int) = qa + 2147483648 := h1; omega)]
        exact h2
      | false =>
        have hb := ze_nbeq hb
        rw [if_neg (by show ¬ qa = x.toInt; have h1 : (y : Int) = qa + 2147483648 := h1; omega)]
        exact ih ts h3
end
section
theorem ze_rr_spec : ∀ (n : Nat) (st pop rest : List EV), ze_rr n st = true → st = pop ++ rest → pop.length = n + 1 → ∃ q, pop.reverse.head? = some (eR q) := by
  intro n
  induction n with
  | zero =>
    intro st pop rest h e1 e2
    subst e1
    rcases pop with _ | ⟨v, t⟩
    · simp at e2
    rcases t with _ | ⟨v2, t⟩
    · rcases v with u | ((q | u) | x)
      · cases h
      · exact ⟨q, rfl⟩
      · cases h
      · cases h
    · simp at e2
  | succ n ih =>
    intro st pop rest h e1 e2
    subst e1
    rcases pop with _ | ⟨v, t⟩
    · simp at e2
    obtain ⟨q, hq⟩ := ih (t ++ rest) t rest h rfl (by simpa using e2)
    refine ⟨q, ?_⟩
    rw [List.reverse_cons]
    cases ht : t.reverse with
    | nil => rw [ht] at hq; cases hq
    | cons a b => rw [ht] at hq; exact hq
section ZZ
variable {p : Program} {l : Launch} {e : Env} {R : Room} {s : State} {m : MethodId} {args : Array Value} {below : List Frame} {meth : Method} {c : Code} {Q : State → Prop}
variable {z0 : List Int32 × List Nat} {dC : Nat → ClassId} {dI : Nat → Nat → Nat} {dA : Nat → ClassId} {sp : Nat → Nat} {xs : Nat → Int32} {A : Nat → Prop} {o nL d : Nat} {cc : ByteArray} {rt : Option FieldType} {ini : Bool} {jt : List (List ECE)}
variable {kk : EKn} {k : ERt} {cal : ECal} {mc ms pc ca cb cd nc ns : Nat} {r : List ECE} {tl : List Nat} {ls st : List EV} {w : EW} {g : EG} {ρ : List Int32} {ws : va_W} {H : Heap} {locs : List Loc} {la : Array Slot} {vs : List Value}
/-- what holds in a method while its rows run -/
def ze_Fx (p : Program) (l : Launch) (R : Room) (s : State) (m : MethodId) (args : Array Value) (meth : Method) (c : Code) (dC : Nat → ClassId) (dI : Nat → Nat → Nat) (dA : Nat → ClassId) (sp : Nat → Nat) (xs : Nat → Int32) (A : Nat → Prop) (o nL d : Nat) (cc : ByteArray) (rt : Option FieldType) (ini : Bool) (jt : List (List ECE)) (cal : ECal) (mc ms : Nat) : Prop :=
  ZF ∧ p.tables.exec = Jvm.exec ∧ c.code = cc ∧ c.maxLocals = nL ∧ s.vm.findClass (zn o) = some m.cls ∧ ze_K dC dI dA s ∧ ze_X sp xs A s ∧ (∀ q, s.heap.size ≤ q → A q) ∧ (∀ w ∈ zb_T, w.before args s = true) ∧ (R.cells = mc ∧ R.slots = ms) ∧ (d + 1 ≤ R.frames ∧ 70 * (d + 1) ≤ R.locals) ∧ (ini = true → meth.name = "<init>") ∧
  (∀ y q, zm y = some q → ze_Cal l dC dI dA sp xs A cal y d q.1 q.2.1 q.2.2.1 q.2.2.2.1 q.2.2.2.2.2.1 q.2.2.2.2.2.2) ∧ ∀ cs ∈ jt, zk_code o cc nL rt ini jt cs = true
/-- what holds at its ends -/
def ze_Re (p : Program) (l : Launch) (e : Env) (R : Room) (s : State) (m : MethodId) (args : Array Value) (below : List Frame) (meth : Method) (c : Code) (Q : State → Prop) (z0 : List Int32 × List Nat) (dC : Nat → ClassId) (dI : Nat → Nat → Nat) (dA : Nat → ClassId) (sp : Nat → Nat) (xs : Nat → Int32) (A : Nat → Prop) (nL : Nat) (cc : ByteArray) (rt : Option FieldType) (k : ERt) (mc ms : Nat) : Prop :=
  ∀ (pc nc ns : Nat) (ls st : List EV) (w : EW) (g : EG) (ρ : List Int32) (ws : va_W) (H : Heap) (locs : List Loc) (la : Array Slot) (vs : List Value), ze_H z0 dC dI dA sp xs A s nL ls st w g ρ ws H locs la vs → nc ≤ mc → ns ≤ ms →
    (∀ (u : Nat ⊕ Nat) (x : Int32) (ty : FieldType), st = [.inl u] → vs = [.int x] → k (some (.inl u)) w g = true → decode cc pc = .ok (.ireturn, 1) → rt = some ty → narrow ty (.int x) = .int x → W p l e R s m args below meth c H locs nc ns Q (F0 m pc la vs)) ∧
    (∀ (u : Nat ⊕ Nat) (x : Int64), st = [.inr (.inl (.inr u))] → vs = [.long x] → k (some (.inr (.inl (.inr u)))) w g = true → decode cc pc = .ok (.lreturn, 1) → rt = some .long → W p l e R s m args below meth c H locs nc ns Q (F0 m pc la vs)) ∧
    (∀ (u a : Nat) (ty : FieldType), st = [.inr (.inl (.inl u))] → vs = [.ref a] → k (some (.inr (.inl (.inl u)))) w g = true → decode cc pc = .ok (.areturn, 1) → rt = some ty → ((∃ n, ty = .object n) ∨ ∃ t, ty = .array t) → W p l e R s m args below meth c H locs nc ns Q (F0 m pc la vs)) ∧
    (st = [] → vs = [] → k none w g = true → decode cc pc = .ok (.return_, 1) → rt = none → W p l e R s m args below meth c H locs nc ns Q (F0 m pc la vs))

theorem zz_iadd  (hF : ze_Fx p l R s m args meth c dC dI dA sp xs A o nL d cc rt ini jt cal mc ms) (hK : ze_KK p l e R s m args below meth c Q z0 dC dI dA sp xs A nL (fun cs => zk_code o cc nL rt ini jt cs = true) kk) (hV : zk_code o cc nL rt ini jt r = true) (hH : ze_H z0 dC dI dA sp xs A s nL ls st w g ρ ws H locs la vs) (hr : zk_s .iadd o cc nL rt ini jt pc ca cb cd tl r = true) (h : zo_iadd r ca cb cd tl (ze_jp jt) kk k cal mc ms ls st w g nc ns = true) : W p l e R s m args below meth c H locs nc ns Q (F0 m pc la vs) := by
  obtain ⟨hZ, hx, hb, hml, hown, hKs, hsc, hA, hts, hR, hRd, hin, hcal, hjt⟩ := hF
  obtain ⟨h1, h2⟩ := zk_and hr
  have hd := zk_dec h1
  have hn := zk_nx hV h2
  exact zs_bin (fun x y => x + y) hK (fun a b => ze_add a b) (fun v1 v2 x y _ _ => zs_top v1 v2 _) hn h hH (fun x y rest _ k9 => lv_iadd hx hb hd k9)

theorem zz_isub  (hF : ze_Fx p l R s m args meth c dC dI dA sp xs A o nL d cc rt ini jt cal mc ms) (hK : ze_KK p l e R s m args below meth c Q z0 dC dI dA sp xs A nL (fun cs => zk_code o cc nL rt ini jt cs = true) kk) (hV : zk_code o cc nL rt ini jt r = true) (hH : ze_H z0 dC dI dA sp xs A s nL ls st w g ρ ws H locs la vs) (hr : zk_s .isub o cc nL rt ini jt pc ca cb cd tl r = true) (h : zo_isub r ca cb cd tl (ze_jp jt) kk k cal mc ms ls st w g nc ns = true) : W p l e R s m args below meth c H locs nc ns Q (F0 m pc la vs) := by
  obtain ⟨hZ, hx, hb, hml, hown, hKs, hsc, hA, hts, hR, hRd, hin, hcal, hjt⟩ := hF
  obtain ⟨h1, h2⟩ := zk_and hr
  have hd := zk_dec h1
  have hn := zk_nx hV h2
  exact zs_bin (fun x y => x - y) hK (fun a b => ze_sub a b) (fun v1 v2 x y a b => zi_sub hH.1 v1 v2 x y a b) hn h hH (fun x y rest _ k9 => lv_isub hx hb hd k9)

theorem zz_imul  (hF : ze_Fx p l R s m args meth c dC dI dA sp xs A o nL d cc rt ini jt cal mc ms) (hK : ze_KK p l e R s m args below meth c Q z0 dC dI dA sp xs A nL (fun cs => zk_code o cc nL rt ini jt cs = true) kk) (hV : zk_code o cc nL rt ini jt r = true) (hH : ze_H z0 dC dI dA sp xs A s nL ls st w g ρ ws H locs la vs) (hr : zk_s .imul o cc nL rt ini jt pc ca cb cd tl r = true) (h : zo_imul r ca cb cd tl (ze_jp jt) kk k cal mc ms ls st w g nc ns = true) : W p l e R s m args below meth c H locs nc ns Q (F0 m pc la vs) := by
  obtain ⟨hZ, hx, hb, hml, hown, hKs, hsc, hA, hts, hR, hRd, hin, hcal, hjt⟩ := hF
  obtain ⟨h1, h2⟩ := zk_and hr
  have hd := zk_dec h1
  have hn := zk_nx hV h2
  exact zs_bin (fun x y => x * y) hK (fun a b => ze_mul a b) (fun v1 v2 x y _ _ => zs_top v1 v2 _) hn h hH (fun x y rest _ k9 => lv_imul hx hb hd k9)

theorem zz_iand  (hF : ze_Fx p l R s m args meth c dC dI dA sp xs A o nL d cc rt ini jt cal mc ms) (hK : ze_KK p l e R s m args below meth c Q z0 dC dI dA sp xs A nL (fun cs => zk_code o cc nL rt ini jt cs = true) kk) (hV : zk_code o cc nL rt ini jt r = true) (hH : ze_H z0 dC dI dA sp xs A s nL ls st w g ρ ws H locs la vs) (hr : zk_s .iand o cc nL rt ini jt pc ca cb cd tl r = true) (h : zo_iand r ca cb cd tl (ze_jp jt) kk k cal mc ms ls st w g nc ns = true) : W p l e R s m args below meth c H locs nc ns Q (F0 m pc la vs) := by
  obtain ⟨hZ, hx, hb, hml, hown, hKs, hsc, hA, hts, hR, hRd, hin, hcal, hjt⟩ := hF
  obtain ⟨h1, h2⟩ := zk_and hr
  have hd := zk_dec h1
  have hn := zk_nx hV h2
  exact zs_bin (fun x y => x &&& y) hK (fun a b => zs_c2 (fun x y => x &&& y) a b) (fun v1 v2 x y a b => zi_and v1 v2 x y a b) hn h hH (fun x y rest _ k9 => lv_iand hx hb hd k9)

theorem zz_ior  (hF : ze_Fx p l R s m args meth c dC dI dA sp xs A o nL d cc rt ini jt cal mc ms) (hK : ze_KK p l e R s m args below meth c Q z0 dC dI dA sp xs A nL (fun cs => zk_code o cc nL rt ini jt cs = true) kk) (hV : zk_code o cc nL rt ini jt r = true) (hH : ze_H z0 dC dI dA sp xs A s nL ls st w g ρ ws H locs la vs) (hr : zk_s .ior o cc nL rt ini jt pc ca cb cd tl r = true) (h : zo_ior r ca cb cd tl (ze_jp jt) kk k cal mc ms ls st w g nc ns = true) : W p l e R s m args below meth c H locs nc ns Q (F0 m pc la vs) := by
  obtain ⟨hZ, hx, hb, hml, hown, hKs, hsc, hA, hts, hR, hRd, hin, hcal, hjt⟩ := hF
  obtain ⟨h1, h2⟩ := zk_and hr
  have hd := zk_dec h1
  have hn := zk_nx hV h2
  exact zs_bin (fun x y => x ||| y) hK (fun a b => zs_c2 (fun x y => x ||| y) a b) (fun v1 v2 x y _ _ => zs_top v1 v2 _) hn h hH (fun x y rest _ k9 => lv_ior hx hb hd k9)

theorem zz_ixor  (hF : ze_Fx p l R s m args meth c dC dI dA sp xs A o nL d cc rt ini jt cal mc ms) (hK : ze_KK p l e R s m args below meth c Q z0 dC dI dA sp xs A nL (fun cs => zk_code o cc nL rt ini jt cs = true) kk) (hV : zk_code o cc nL rt ini jt r = true) (hH : ze_H z0 dC dI dA sp xs A s nL ls st w g ρ ws H locs la vs) (hr : zk_s .ixor o cc nL rt ini jt pc ca cb cd tl r = true) (h : zo_ixor r ca cb cd tl (ze_jp jt) kk k cal mc ms ls st w g nc ns = true) : W p l e R s m args below meth c H locs nc ns Q (F0 m pc la vs) := by
  obtain ⟨hZ, hx, hb, hml, hown, hKs, hsc, hA, hts, hR, hRd, hin, hcal, hjt⟩ := hF
  obtain ⟨h1, h2⟩ := zk_and hr
  have hd := zk_dec h1
  have hn := zk_nx hV h2
  exact zs_bin (fun x y => x ^^^ y) hK (fun a b => zs_c2 (fun x y => x ^^^ y) a b) (fun v1 v2 x y _ _ => zs_top v1 v2 _) hn h hH (fun x y rest _ k9 => lv_ixor hx hb hd k9)

theorem zz_ishl  (hF : ze_Fx p l R s m args meth c dC dI dA sp xs A o nL d cc rt ini jt cal mc ms) (hK : ze_KK p l e R s m args below meth c Q z0 dC dI dA sp xs A nL (fun cs => zk_code o cc nL rt ini jt cs = true) kk) (hV : zk_code o cc nL rt ini jt r = true) (hH : ze_H z0 dC dI dA sp xs A s nL ls st w g ρ ws H locs la vs) (hr : zk_s .ishl o cc nL rt ini jt pc ca cb cd tl r = true) (h : zo_ishl r ca cb cd tl (ze_jp jt) kk k cal mc ms ls st w g nc ns = true) : W p l e R s m args below meth c H locs nc ns Q (F0 m pc la vs) := by
  obtain ⟨hZ, hx, hb, hml, hown, hKs, hsc, hA, hts, hR, hRd, hin, hcal, hjt⟩ := hF
  obtain ⟨h1, h2⟩ := zk_and hr
  have hd := zk_dec h1
  have hn := zk_nx hV h2
  exact zs_bin (fun x y => x <<< (y &&& 31)) hK (fun a b => zs_c2 (fun x y => x <<< (y &&& 31)) a b) (fun v1 v2 x y _ _ => zs_top v1 v2 _) hn h hH (fun x y rest _ k9 => lv_ishl hx hb hd k9)

theorem zz_ishr  (hF : ze_Fx p l R s m args meth c dC dI dA sp xs A o nL d cc rt ini jt cal mc ms) (hK : ze_KK p l e R s m args below meth c Q z0 dC dI dA sp xs A nL (fun cs => zk_code o cc nL rt ini jt cs = true) kk) (hV : zk_code o cc nL rt ini jt r = true) (hH : ze_H z0 dC dI dA sp xs A s nL ls st w g ρ ws H locs la vs) (hr : zk_s .ishr o cc nL rt ini jt pc ca cb cd tl r = true) (h : zo_ishr r ca cb cd tl (ze_jp jt) kk k cal mc ms ls st w g nc ns = true) : W p l e R s m args below meth c H locs nc ns Q (F0 m pc la vs) := by
  obtain ⟨hZ, hx, hb, hml, hown, hKs, hsc, hA, hts, hR, hRd, hin, hcal, hjt⟩ := hF
  obtain ⟨h1, h2⟩ := zk_and hr
  have hd := zk_dec h1
  have hn := zk_nx hV h2
  exact zs_bin (fun x y => x >>> (y &&& 31)) hK (fun a b => zs_c2 (fun x y => x >>> (y &&& 31)) a b) (fun v1 v2 x y a b => zi_shr v1 v2 x y a b) hn h hH (fun x y rest _ k9 => lv_ishr hx hb hd k9)

theorem zz_iushr  (hF : ze_Fx p l R s m args meth c dC dI dA sp xs A o nL d cc rt ini jt cal mc ms) (hK : ze_KK p l e R s m args below meth c Q z0 dC dI dA sp xs A nL (fun cs => zk_code o cc nL rt ini jt cs = true) kk) (hV : zk_code o cc nL rt ini jt r = true) (hH : ze_H z0 dC dI dA sp xs A s nL ls st w g ρ ws H locs la vs) (hr : zk_s .iushr o cc nL rt ini jt pc ca cb cd tl r = true) (h : zo_iushr r ca cb cd tl (ze_jp jt) kk k cal mc ms ls st w g nc ns = true) : W p l e R s m args below meth c H locs nc ns Q (F0 m pc la vs) := by
  obtain ⟨hZ, hx, hb, hml, hown, hKs, hsc, hA, hts, hR, hRd, hin, hcal, hjt⟩ := hF
  obtain ⟨h1, h2⟩ := zk_and hr
  have hd := zk_dec h1
  have hn := zk_nx hV h2
  exact zs_bin (fun x y => (x.toUInt32 >>> (y.toUInt32 &&& Int32.toUInt32 31)).toInt32) hK (fun a b => zs_c2 (fun x y => (x.toUInt32 >>> (y.toUInt32 &&& Int32.toUInt32 31)).toInt32) a b) (fun v1 v2 x y a b => zi_ush v1 v2 x y a b) hn h hH (fun x y rest _ k9 => lv_iushr hx hb hd rfl k9)

theorem zz_idiv  (hF : ze_Fx p l R s m args meth c dC dI dA sp xs A o nL d cc rt ini jt cal mc ms) (hK : ze_KK p l e R s m args below meth c Q z0 dC dI dA sp xs A nL (fun cs => zk_code o cc nL rt ini jt cs = true) kk) (hV : zk_code o cc nL rt ini jt r = true) (hH : ze_H z0 dC dI dA sp xs A s nL ls st w g ρ ws H locs la vs) (hr : zk_s .idiv o cc nL rt ini jt pc ca cb cd tl r = true) (h : zo_idiv r ca cb cd tl (ze_jp jt) kk k cal mc ms ls st w g nc ns = true) : W p l e R s m args below meth c H locs nc ns Q (F0 m pc la vs) := by
  obtain ⟨hZ, hx, hb, hml, hown, hKs, hsc, hA, hts, hR, hRd, hin, hcal, hjt⟩ := hF
  obtain ⟨h1, h2⟩ := zk_and hr
  have hd := zk_dec h1
  have hn := zk_nx hV h2
  rcases st with _ | ⟨v2, rest⟩
  · cases h
  · obtain ⟨y1, r1, e1, V1, -⟩ := hH.2.2.2.2.2.2.2.cons
    obtain ⟨x1, ex, hy⟩ := ze_rs_spec (show ze_rs g v2 _ _ = true from h) hH.1 V1
    rcases hy with ⟨y0, ey, hy⟩ | ⟨_, _, _, hy⟩
    · rcases ze_cond hy with ⟨_, q⟩ | ⟨q1, q2⟩
      · cases q
      · refine zs_bin (fun x y => x / y) hK (fun a b => zs_c2 (fun x y => x / y) a b) (fun v1 v2 x y _ _ => zs_top v1 v2 _) hn q2 hH (fun x y rest e9 k9 => lv_idiv hx hb hd ?_ k9)
        have e8 : y = x1 := by
          rw [e1] at e9
          have := (List.cons.inj e9).1
          rw [ex] at this
          exact (Value.int.inj this).symm
        rw [e8, ey]
        exact zi_div0 q1
    · cases hy

theorem zz_irem  (hF : ze_Fx p l R s m args meth c dC dI dA sp xs A o nL d cc rt ini jt cal mc ms) (hK : ze_KK p l e R s m args below meth c Q z0 dC dI dA sp xs A nL (fun cs => zk_code o cc nL rt ini jt cs = true) kk) (hV : zk_code o cc nL rt ini jt r = true) (hH : ze_H z0 dC dI dA sp xs A s nL ls st w g ρ ws H locs la vs) (hr : zk_s .irem o cc nL rt ini jt pc ca cb cd tl r = true) (h : zo_irem r ca cb cd tl (ze_jp jt) kk k cal mc ms ls st w g nc ns = true) : W p l e R s m args below meth c H locs nc ns Q (F0 m pc la vs) := by
  obtain ⟨hZ, hx, hb, hml, hown, hKs, hsc, hA, hts, hR, hRd, hin, hcal, hjt⟩ := hF
  obtain ⟨h1, h2⟩ := zk_and hr
  have hd := zk_dec h1
  have hn := zk_nx hV h2
  rcases st with _ | ⟨v2, rest⟩
  · cases h
  · obtain ⟨y1, r1, e1, V1, -⟩ := hH.2.2.2.2.2.2.2.cons
    obtain ⟨x1, ex, hy⟩ := ze_rs_spec (show ze_rs g v2 _ _ = true from h) hH.1 V1
    rcases hy with ⟨y0, ey, hy⟩ | ⟨_, _, _, hy⟩
    · rcases ze_cond hy with ⟨_, q⟩ | ⟨q1, q2⟩
      · cases q
      · refine zs_bin (fun x y => x - x / y * y) hK (fun a b => zs_c2 (fun x y => x - x / y * y) a b) (fun v1 v2 x y a b => zi_rem hH.1 v1 v2 x y a b) hn q2 hH (fun x y rest e9 k9 => lv_irem hx hb hd ?_ k9)
        have e8 : y = x1 := by
          rw [e1] at e9
          have := (List.cons.inj e9).1
          rw [ex] at this
          exact (Value.int.inj this).symm
        rw [e8, ey]
        exact zi_div0 q1
    · cases hy

theorem zz_ineg  (hF : ze_Fx p l R s m args meth c dC dI dA sp xs A o nL d cc rt ini jt cal mc ms) (hK : ze_KK p l e R s m args below meth c Q z0 dC dI dA sp xs A nL (fun cs => zk_code o cc nL rt ini jt cs = true) kk) (hV : zk_code o cc nL rt ini jt r = true) (hH : ze_H z0 dC dI dA sp xs A s nL ls st w g ρ ws H locs la vs) (hr : zk_s .ineg o cc nL rt ini jt pc ca cb cd tl r = true) (h : zo_ineg r ca cb cd tl (ze_jp jt) kk k cal mc ms ls st w g nc ns = true) : W p l e R s m args below meth c H locs nc ns Q (F0 m pc la vs) := by
  obtain ⟨hZ, hx, hb, hml, hown, hKs, hsc, hA, hts, hR, hRd, hin, hcal, hjt⟩ := hF
  obtain ⟨h1, h2⟩ := zk_and hr
  have hd := zk_dec h1
  have hn := zk_nx hV h2
  exact zs_un (fun x => -x) hK (fun a => (ze_e_eq _).symm) (fun x => ⟨Nat.zero_le _, ze_b_top _⟩) hn h hH (fun x rest k9 => lv_ineg hx hb hd k9)

theorem zz_i2b  (hF : ze_Fx p l R s m args meth c dC dI dA sp xs A o nL d cc rt ini jt cal mc ms) (hK : ze_KK p l e R s m args below meth c Q z0 dC dI dA sp xs A nL (fun cs => zk_code o cc nL rt ini jt cs = true) kk) (hV : zk_code o cc nL rt ini jt r = true) (hH : ze_H z0 dC dI dA sp xs A s nL ls st w g ρ ws H locs la vs) (hr : zk_s .i2b o cc nL rt ini jt pc ca cb cd tl r = true) (h : zo_i2b r ca cb cd tl (ze_jp jt) kk k cal mc ms ls st w g nc ns = true) : W p l e R s m args below meth c H locs nc ns Q (F0 m pc la vs) := by
  obtain ⟨hZ, hx, hb, hml, hown, hKs, hsc, hA, hts, hR, hRd, hin, hcal, hjt⟩ := hF
  obtain ⟨h1, h2⟩ := zk_and hr
  have hd := zk_dec h1
  have hn := zk_nx hV h2
  exact zs_un (fun x => x.toInt8.toInt32) hK (fun a => (ze_e_eq _).symm) (fun x => ⟨Nat.zero_le _, ze_b_top _⟩) hn h hH (fun x rest k9 => lv_i2b hx hb hd rfl k9)

theorem zz_i2s  (hF : ze_Fx p l R s m args meth c dC dI dA sp xs A o nL d cc rt ini jt cal mc ms) (hK : ze_KK p l e R s m args below meth c Q z0 dC dI dA sp xs A nL (fun cs => zk_code o cc nL rt ini jt cs = true) kk) (hV : zk_code o cc nL rt ini jt r = true) (hH : ze_H z0 dC dI dA sp xs A s nL ls st w g ρ ws H locs la vs) (hr : zk_s .i2s o cc nL rt ini jt pc ca cb cd tl r = true) (h : zo_i2s r ca cb cd tl (ze_jp jt) kk k cal mc ms ls st w g nc ns = true) : W p l e R s m args below meth c H locs nc ns Q (F0 m pc la vs) := by
  obtain ⟨hZ, hx, hb, hml, hown, hKs, hsc, hA, hts, hR, hRd, hin, hcal, hjt⟩ := hF
  obtain ⟨h1, h2⟩ := zk_and hr
  have hd := zk_dec h1
  have hn := zk_nx hV h2
  exact zs_un (fun x => x.toInt16.toInt32) hK (fun a => (ze_e_eq _).symm) (fun x => ⟨Nat.zero_le _, ze_b_top _⟩) hn h hH (fun x rest k9 => lv_i2s hx hb hd rfl k9)

theorem zz_i2c  (hF : ze_Fx p l R s m args meth c dC dI dA sp xs A o nL d cc rt ini jt cal mc ms) (hK : ze_KK p l e R s m args below meth c Q z0 dC dI dA sp xs A nL (fun cs => zk_code o cc nL rt ini jt cs = true) kk) (hV : zk_code o cc nL rt ini jt r = true) (hH : ze_H z0 dC dI dA sp xs A s nL ls st w g ρ ws H locs la vs) (hr : zk_s .i2c o cc nL rt ini jt pc ca cb cd tl r = true) (h : zo_i2c r ca cb cd tl (ze_jp jt) kk k cal mc ms ls st w g nc ns = true) : W p l e R s m args below meth c H locs nc ns Q (F0 m pc la vs) := by
  obtain ⟨hZ, hx, hb, hml, hown, hKs, hsc, hA, hts, hR, hRd, hin, hcal, hjt⟩ := hF
  obtain ⟨h1, h2⟩ := zk_and hr
  have hd := zk_dec h1
  have hn := zk_nx hV h2
  exact zs_un (fun x => (x.toUInt32 % 65536).toInt32) hK (fun a => (ze_e_eq _).symm) (fun x => ⟨Nat.zero_le _, ze_b_top _⟩) hn h hH (fun x rest k9 => lv_i2c hx hb hd rfl k9)

theorem zz_i2l  (hF : ze_Fx p l R s m args meth c dC dI dA sp xs A o nL d cc rt ini jt cal mc ms) (hK : ze_KK p l e R s m args below meth c Q z0 dC dI dA sp xs A nL (fun cs => zk_code o cc nL rt ini jt cs = true) kk) (hV : zk_code o cc nL rt ini jt r = true) (hH : ze_H z0 dC dI dA sp xs A s nL ls st w g ρ ws H locs la vs) (hr : zk_s .i2l o cc nL rt ini jt pc ca cb cd tl r = true) (h : zo_i2l r ca cb cd tl (ze_jp jt) kk k cal mc ms ls st w g nc ns = true) : W p l e R s m args below meth c H locs nc ns Q (F0 m pc la vs) := by
  obtain ⟨hZ, hx, hb, hml, hown, hKs, hsc, hA, hts, hR, hRd, hin, hcal, hjt⟩ := hF
  obtain ⟨h1, h2⟩ := zk_and hr
  have hd := zk_dec h1
  have hn := zk_nx hV h2
  exact zs_i2l hK hn h hH (fun x rest k9 => lv_i2l hx hb hd rfl k9)

theorem zz_l2i  (hF : ze_Fx p l R s m args meth c dC dI dA sp xs A o nL d cc rt ini jt cal mc ms) (hK : ze_KK p l e R s m args below meth c Q z0 dC dI dA sp xs A nL (fun cs => zk_code o cc nL rt ini jt cs = true) kk) (hV : zk_code o cc nL rt ini jt r = true) (hH : ze_H z0 dC dI dA sp xs A s nL ls st w g ρ ws H locs la vs) (hr : zk_s .l2i o cc nL rt ini jt pc ca cb cd tl r = true) (h : zo_l2i r ca cb cd tl (ze_jp jt) kk k cal mc ms ls st w g nc ns = true) : W p l e R s m args below meth c H locs nc ns Q (F0 m pc la vs) := by
  obtain ⟨hZ, hx, hb, hml, hown, hKs, hsc, hA, hts, hR, hRd, hin, hcal, hjt⟩ := hF
  obtain ⟨h1, h2⟩ := zk_and hr
  have hd := zk_dec h1
  have hn := zk_nx hV h2
  exact zs_l2i hK hn h hH (fun x rest k9 => lv_l2i hx hb hd rfl k9)

theorem zz_ladd  (hF : ze_Fx p l R s m args meth c dC dI dA sp xs A o nL d cc rt ini jt cal mc ms) (hK : ze_KK p l e R s m args below meth c Q z0 dC dI dA sp xs A nL (fun cs => zk_code o cc nL rt ini jt cs = true) kk) (hV : zk_code o cc nL rt ini jt r = true) (hH : ze_H z0 dC dI dA sp xs A s nL ls st w g ρ ws H locs la vs) (hr : zk_s .ladd o cc nL rt ini jt pc ca cb cd tl r = true) (h : zo_ladd r ca cb cd tl (ze_jp jt) kk k cal mc ms ls st w g nc ns = true) : W p l e R s m args below meth c H locs nc ns Q (F0 m pc la vs) := by
  obtain ⟨hZ, hx, hb, hml, hown, hKs, hsc, hA, hts, hR, hRd, hin, hcal, hjt⟩ := hF
  obtain ⟨h1, h2⟩ := zk_and hr
  have hd := zk_dec h1
  have hn := zk_nx hV h2
  exact zs_lb (fun x y => x + y) hK hn h hH (fun x y rest _ k9 => lv_ladd hx hb hd k9)

theorem zz_lsub  (hF : ze_Fx p l R s m args meth c dC dI dA sp xs A o nL d cc rt ini jt cal mc ms) (hK : ze_KK p l e R s m args below meth c Q z0 dC dI dA sp xs A nL (fun cs => zk_code o cc nL rt ini jt cs = true) kk) (hV : zk_code o cc nL rt ini jt r = true) (hH : ze_H z0 dC dI dA sp xs A s nL ls st w g ρ ws H locs la vs) (hr : zk_s .lsub o cc nL rt ini jt pc ca cb cd tl r = true) (h : zo_lsub r ca cb cd tl (ze_jp jt) kk k cal mc ms ls st w g nc ns = true) : W p l e R s m args below meth c H locs nc ns Q (F0 m pc la vs) := by
  obtain ⟨hZ, hx, hb, hml, hown, hKs, hsc, hA, hts, hR, hRd, hin, hcal, hjt⟩ := hF
  obtain ⟨h1, h2⟩ := zk_and hr
  have hd := zk_dec h1
  have hn := zk_nx hV h2
  exact zs_lb (fun x y => x - y) hK hn h hH (fun x y rest _ k9 => lv_lsub hx hb hd k9)

theorem zz_lmul  (hF : ze_Fx p l R s m args meth c dC dI dA sp xs A o nL d cc rt ini jt cal mc ms) (hK : ze_KK p l e R s m args below meth c Q z0 dC dI dA sp xs A nL (fun cs => zk_code o cc nL rt ini jt cs = true) kk) (hV : zk_code o cc nL rt ini jt r = true) (hH : ze_H z0 dC dI dA sp xs A s nL ls st w g ρ ws H locs la vs) (hr : zk_s .lmul o cc nL rt ini jt pc ca cb cd tl r = true) (h : zo_lmul r ca cb cd tl (ze_jp jt) kk k cal mc ms ls st w g nc ns = true) : W p l e R s m args below meth c H locs nc ns Q (F0 m pc la vs) := by
  obtain ⟨hZ, hx, hb, hml, hown, hKs, hsc, hA, hts, hR, hRd, hin, hcal, hjt⟩ := hF
  obtain ⟨h1, h2⟩ := zk_and hr
  have hd := zk_dec h1
  have hn := zk_nx hV h2
  exact zs_lb (fun x y => x * y) hK hn h hH (fun x y rest _ k9 => lv_lmul hx hb hd k9)

theorem zz_land  (hF : ze_Fx p l R s m args meth c dC dI dA sp xs A o nL d cc rt ini jt cal mc ms) (hK : ze_KK p l e R s m args below meth c Q z0 dC dI dA sp xs A nL (fun cs => zk_code o cc nL rt ini jt cs = true) kk) (hV : zk_code o cc nL rt ini jt r = true) (hH : ze_H z0 dC dI dA sp xs A s nL ls st w g ρ ws H locs la vs) (hr : zk_s .land o cc nL rt ini jt pc ca cb cd tl r = true) (h : zo_land r ca cb cd tl (ze_jp jt) kk k cal mc ms ls st w g nc ns = true) : W p l e R s m args below meth c H locs nc ns Q (F0 m pc la vs) := by
  obtain ⟨hZ, hx, hb, hml, hown, hKs, hsc, hA, hts, hR, hRd, hin, hcal, hjt⟩ := hF
  obtain ⟨h1, h2⟩ := zk_and hr
  have hd := zk_dec h1
  have hn := zk_nx hV h2
  exact zs_lb (fun x y => x &&& y) hK hn h hH (fun x y rest _ k9 => lv_land hx hb hd k9)

theorem zz_lor  (hF : ze_Fx p l R s m args meth c dC dI dA sp xs A o nL d cc rt ini jt cal mc ms) (hK : ze_KK p l e R s m args below meth c Q z0 dC dI dA sp xs A nL (fun cs => zk_code o cc nL rt ini jt cs = true) kk) (hV : zk_code o cc nL rt ini jt r = true) (hH : ze_H z0 dC dI dA sp xs A s nL ls st w g ρ ws H locs la vs) (hr : zk_s .lor o cc nL rt ini jt pc ca cb cd tl r = true) (h : zo_lor r ca cb cd tl (ze_jp jt) kk k cal mc ms ls st w g nc ns = true) : W p l e R s m args below meth c H locs nc ns Q (F0 m pc la vs) := by
  obtain ⟨hZ, hx, hb, hml, hown, hKs, hsc, hA, hts, hR, hRd, hin, hcal, hjt⟩ := hF
  obtain ⟨h1, h2⟩ := zk_and hr
  have hd := zk_dec h1
  have hn := zk_nx hV h2
  exact zs_lb (fun x y => x ||| y) hK hn h hH (fun x y rest _ k9 => lv_lor hx hb hd k9)

theorem zz_ldiv  (hF : ze_Fx p l R s m args meth c dC dI dA sp xs A o nL d cc rt ini jt cal mc ms) (hK : ze_KK p l e R s m args below meth c Q z0 dC dI dA sp xs A nL (fun cs => zk_code o cc nL rt ini jt cs = true) kk) (hV : zk_code o cc nL rt ini jt r = true) (hH : ze_H z0 dC dI dA sp xs A s nL ls st w g ρ ws H locs la vs) (hr : zk_s .ldiv o cc nL rt ini jt pc ca cb cd tl r = true) (h : zo_ldiv r ca cb cd tl (ze_jp jt) kk k cal mc ms ls st w g nc ns = true) : W p l e R s m args below meth c H locs nc ns Q (F0 m pc la vs) := by
  obtain ⟨hZ, hx, hb, hml, hown, hKs, hsc, hA, hts, hR, hRd, hin, hcal, hjt⟩ := hF
  obtain ⟨h1, h2⟩ := zk_and hr
  have hd := zk_dec h1
  have hn := zk_nx hV h2
  have h : (zo_ldv (zo_lb (fun x y => x / y))) r ca cb cd tl (ze_jp jt) kk k cal mc ms ls st w g nc ns = true := h
  unfold zo_ldv at h
  split at h
  · rename_i y0 rest0 hh0
    obtain ⟨y1, r1, e1, V1, -⟩ := hH.2.2.2.2.2.2.2.cons
    rcases ze_cond h with ⟨_, q⟩ | ⟨q1, q2⟩
    · cases q
    · refine zs_lb (fun x y => x / y) hK hn q2 hH (fun x y rest e9 k9 => lv_ldiv hx hb hd ?_ k9)
      have e8 : y = lN y0 := by
        rw [e1] at e9
        have := (List.cons.inj e9).1
        rw [show y1 = .long (lN y0) from V1] at this
        exact (Value.long.inj this).symm
      rw [e8]
      exact zi_ldiv0 q1
  · cases h

theorem zz_lrem  (hF : ze_Fx p l R s m args meth c dC dI dA sp xs A o nL d cc rt ini jt cal mc ms) (hK : ze_KK p l e R s m args below meth c Q z0 dC dI dA sp xs A nL (fun cs => zk_code o cc nL rt ini jt cs = true) kk) (hV : zk_code o cc nL rt ini jt r = true) (hH : ze_H z0 dC dI dA sp xs A s nL ls st w g ρ ws H locs la vs) (hr : zk_s .lrem o cc nL rt ini jt pc ca cb cd tl r = true) (h : zo_lrem r ca cb cd tl (ze_jp jt) kk k cal mc ms ls st w g nc ns = true) : W p l e R s m args below meth c H locs nc ns Q (F0 m pc la vs) := by
  obtain ⟨hZ, hx, hb, hml, hown, hKs, hsc, hA, hts, hR, hRd, hin, hcal, hjt⟩ := hF
  obtain ⟨h1, h2⟩ := zk_and hr
  have hd := zk_dec h1
  have hn := zk_nx hV h2
  have h : (zo_ldv (zo_lb (fun x y => x - x / y * y))) r ca cb cd tl (ze_jp jt) kk k cal mc ms ls st w g nc ns = true := h
  unfold zo_ldv at h
  split at h
  · rename_i y0 rest0 hh0
    obtain ⟨y1, r1, e1, V1, -⟩ := hH.2.2.2.2.2.2.2.cons
    rcases ze_cond h with ⟨_, q⟩ | ⟨q1, q2⟩
    · cases q
    · refine zs_lb (fun x y => x - x / y * y) hK hn q2 hH (fun x y rest e9 k9 => lv_lrem hx hb hd ?_ k9)
      have e8 : y = lN y0 := by
        rw [e1] at e9
        have := (List.cons.inj e9).1
        rw [show y1 = .long (lN y0) from V1] at this
        exact (Value.long.inj this).symm
      rw [e8]
      exact zi_ldiv0 q1
  · cases h

theorem zz_lshl  (hF : ze_Fx p l R s m args meth c dC dI dA sp xs A o nL d cc rt ini jt cal mc ms) (hK : ze_KK p l e R s m args below meth c Q z0 dC dI dA sp xs A nL (fun cs => zk_code o cc nL rt ini jt cs = true) kk) (hV : zk_code o cc nL rt ini jt r = true) (hH : ze_H z0 dC dI dA sp xs A s nL ls st w g ρ ws H locs la vs) (hr : zk_s .lshl o cc nL rt ini jt pc ca cb cd tl r = true) (h : zo_lshl r ca cb cd tl (ze_jp jt) kk k cal mc ms ls st w g nc ns = true) : W p l e R s m args below meth c H locs nc ns Q (F0 m pc la vs) := by
  obtain ⟨hZ, hx, hb, hml, hown, hKs, hsc, hA, hts, hR, hRd, hin, hcal, hjt⟩ := hF
  obtain ⟨h1, h2⟩ := zk_and hr
  have hd := zk_dec h1
  have hn := zk_nx hV h2
  exact zs_lsf (fun x y => x <<< (y.toInt64 &&& 63)) hK hn h hH (fun x y rest k9 => lv_lshl hx hb hd rfl k9)

theorem zz_lshr  (hF : ze_Fx p l R s m args meth c dC dI dA sp xs A o nL d cc rt ini jt cal mc ms) (hK : ze_KK p l e R s m args below meth c Q z0 dC dI dA sp xs A nL (fun cs => zk_code o cc nL rt ini jt cs = true) kk) (hV : zk_code o cc nL rt ini jt r = true) (hH : ze_H z0 dC dI dA sp xs A s nL ls st w g ρ ws H locs la vs) (hr : zk_s .lshr o cc nL rt ini jt pc ca cb cd tl r = true) (h : zo_lshr r ca cb cd tl (ze_jp jt) kk k cal mc ms ls st w g nc ns = true) : W p l e R s m args below meth c H locs nc ns Q (F0 m pc la vs) := by
  obtain ⟨hZ, hx, hb, hml, hown, hKs, hsc, hA, hts, hR, hRd, hin, hcal, hjt⟩ := hF
  obtain ⟨h1, h2⟩ := zk_and hr
  have hd := zk_dec h1
  have hn := zk_nx hV h2
  exact zs_lsf (fun x y => x >>> (y.toInt64 &&& 63)) hK hn h hH (fun x y rest k9 => lv_lshr hx hb hd rfl k9)

theorem zz_lcmp  (hF : ze_Fx p l R s m args meth c dC dI dA sp xs A o nL d cc rt ini jt cal mc ms) (hK : ze_KK p l e R s m args below meth c Q z0 dC dI dA sp xs A nL (fun cs => zk_code o cc nL rt ini jt cs = true) kk) (hV : zk_code o cc nL rt ini jt r = true) (hH : ze_H z0 dC dI dA sp xs A s nL ls st w g ρ ws H locs la vs) (hr : zk_s .lcmp o cc nL rt ini jt pc ca cb cd tl r = true) (h : zo_lcmp r ca cb cd tl (ze_jp jt) kk k cal mc ms ls st w g nc ns = true) : W p l e R s m args below meth c H locs nc ns Q (F0 m pc la vs) := by
  obtain ⟨hZ, hx, hb, hml, hown, hKs, hsc, hA, hts, hR, hRd, hin, hcal, hjt⟩ := hF
  obtain ⟨h1, h2⟩ := zk_and hr
  have hd := zk_dec h1
  have hn := zk_nx hV h2
  exact zs_lcmp hx hb hd hK hn h hH

theorem zz_dup  (hF : ze_Fx p l R s m args meth c dC dI dA sp xs A o nL d cc rt ini jt cal mc ms) (hK : ze_KK p l e R s m args below meth c Q z0 dC dI dA sp xs A nL (fun cs => zk_code o cc nL rt ini jt cs = true) kk) (hV : zk_code o cc nL rt ini jt r = true) (hH : ze_H z0 dC dI dA sp xs A s nL ls st w g ρ ws H locs la vs) (hr : zk_s .dup o cc nL rt ini jt pc ca cb cd tl r = true) (h : zo_dup r ca cb cd tl (ze_jp jt) kk k cal mc ms ls st w g nc ns = true) : W p l e R s m args below meth c H locs nc ns Q (F0 m pc la vs) := by
  obtain ⟨hZ, hx, hb, hml, hown, hKs, hsc, hA, hts, hR, hRd, hin, hcal, hjt⟩ := hF
  obtain ⟨h1, h2⟩ := zk_and hr
  have hd := zk_dec h1
  have hn := zk_nx hV h2
  exact zs_dup hK hn h hH (fun va rest q k9 => lv_dup hx hb hd q k9)

theorem zz_pop  (hF : ze_Fx p l R s m args meth c dC dI dA sp xs A o nL d cc rt ini jt cal mc ms) (hK : ze_KK p l e R s m args below meth c Q z0 dC dI dA sp xs A nL (fun cs => zk_code o cc nL rt ini jt cs = true) kk) (hV : zk_code o cc nL rt ini jt r = true) (hH : ze_H z0 dC dI dA sp xs A s nL ls st w g ρ ws H locs la vs) (hr : zk_s .pop o cc nL rt ini jt pc ca cb cd tl r = true) (h : zo_pop r ca cb cd tl (ze_jp jt) kk k cal mc ms ls st w g nc ns = true) : W p l e R s m args below meth c H locs nc ns Q (F0 m pc la vs) := by
  obtain ⟨hZ, hx, hb, hml, hown, hKs, hsc, hA, hts, hR, hRd, hin, hcal, hjt⟩ := hF
  obtain ⟨h1, h2⟩ := zk_and hr
  have hd := zk_dec h1
  have hn := zk_nx hV h2
  exact zs_pop hK hn h hH (fun va rest q k9 => lv_pop hx hb hd q k9)

theorem zz_dup_x1  (hF : ze_Fx p l R s m args meth c dC dI dA sp xs A o nL d cc rt ini jt cal mc ms) (hK : ze_KK p l e R s m args below meth c Q z0 dC dI dA sp xs A nL (fun cs => zk_code o cc nL rt ini jt cs = true) kk) (hV : zk_code o cc nL rt ini jt r = true) (hH : ze_H z0 dC dI dA sp xs A s nL ls st w g ρ ws H locs la vs) (hr : zk_s .dup_x1 o cc nL rt ini jt pc ca cb cd tl r = true) (h : zo_dup_x1 r ca cb cd tl (ze_jp jt) kk k cal mc ms ls st w g nc ns = true) : W p l e R s m args below meth c H locs nc ns Q (F0 m pc la vs) := by
  obtain ⟨hZ, hx, hb, hml, hown, hKs, hsc, hA, hts, hR, hRd, hin, hcal, hjt⟩ := hF
  obtain ⟨h1, h2⟩ := zk_and hr
  have hd := zk_dec h1
  have hn := zk_nx hV h2
  exact zs_dup_x1 hK hn h hH (fun va vb rest q1 q2 k9 => lv_dup_x1 hx hb hd q1 q2 k9)

theorem zz_dup_x2  (hF : ze_Fx p l R s m args meth c dC dI dA sp xs A o nL d cc rt ini jt cal mc ms) (hK : ze_KK p l e R s m args below meth c Q z0 dC dI dA sp xs A nL (fun cs => zk_code o cc nL rt ini jt cs = true) kk) (hV : zk_code o cc nL rt ini jt r = true) (hH : ze_H z0 dC dI dA sp xs A s nL ls st w g ρ ws H locs la vs) (hr : zk_s .dup_x2 o cc nL rt ini jt pc ca cb cd tl r = true) (h : zo_dup_x2 r ca cb cd tl (ze_jp jt) kk k cal mc ms ls st w g nc ns = true) : W p l e R s m args below meth c H locs nc ns Q (F0 m pc la vs) := by
  obtain ⟨hZ, hx, hb, hml, hown, hKs, hsc, hA, hts, hR, hRd, hin, hcal, hjt⟩ := hF
  obtain ⟨h1, h2⟩ := zk_and hr
  have hd := zk_dec h1
  have hn := zk_nx hV h2
  exact zs_dup_x2 hK hn h hH (fun va vb vd rest q1 q2 q3 k9 => lv_dup_x2 hx hb hd q1 q2 q3 k9)

theorem zz_dup2  (hF : ze_Fx p l R s m args meth c dC dI dA sp xs A o nL d cc rt ini jt cal mc ms) (hK : ze_KK p l e R s m args below meth c Q z0 dC dI dA sp xs A nL (fun cs => zk_code o cc nL rt ini jt cs = true) kk) (hV : zk_code o cc nL rt ini jt r = true) (hH : ze_H z0 dC dI dA sp xs A s nL ls st w g ρ ws H locs la vs) (hr : zk_s .dup2 o cc nL rt ini jt pc ca cb cd tl r = true) (h : zo_dup2 r ca cb cd tl (ze_jp jt) kk k cal mc ms ls st w g nc ns = true) : W p l e R s m args below meth c H locs nc ns Q (F0 m pc la vs) := by
  obtain ⟨hZ, hx, hb, hml, hown, hKs, hsc, hA, hts, hR, hRd, hin, hcal, hjt⟩ := hF
  obtain ⟨h1, h2⟩ := zk_and hr
  have hd := zk_dec h1
  have hn := zk_nx hV h2
  exact zs_dup2 hK hn h hH (fun va vb rest q1 q2 k9 => lv_dup2_11 hx hb hd q1 q2 k9)

theorem zz_aconst_null  (hF : ze_Fx p l R s m args meth c dC dI dA sp xs A o nL d cc rt ini jt cal mc ms) (hK : ze_KK p l e R s m args below meth c Q z0 dC dI dA sp xs A nL (fun cs => zk_code o cc nL rt ini jt cs = true) kk) (hV : zk_code o cc nL rt ini jt r = true) (hH : ze_H z0 dC dI dA sp xs A s nL ls st w g ρ ws H locs la vs) (hr : zk_s .aconst_null o cc nL rt ini jt pc ca cb cd tl r = true) (h : zo_null r ca cb cd tl (ze_jp jt) kk k cal mc ms ls st w g nc ns = true) : W p l e R s m args below meth c H locs nc ns Q (F0 m pc la vs) := by
  obtain ⟨hZ, hx, hb, hml, hown, hKs, hsc, hA, hts, hR, hRd, hin, hcal, hjt⟩ := hF
  obtain ⟨h1, h2⟩ := zk_and hr
  have hd := zk_dec h1
  have hn := zk_nx hV h2
  exact zs_null hK hn h hH (fun k9 => lv_null hx hb hd k9)

theorem zz_iaload  (hF : ze_Fx p l R s m args meth c dC dI dA sp xs A o nL d cc rt ini jt cal mc ms) (hK : ze_KK p l e R s m args below meth c Q z0 dC dI dA sp xs A nL (fun cs => zk_code o cc nL rt ini jt cs = true) kk) (hV : zk_code o cc nL rt ini jt r = true) (hH : ze_H z0 dC dI dA sp xs A s nL ls st w g ρ ws H locs la vs) (hr : zk_s .iaload o cc nL rt ini jt pc ca cb cd tl r = true) (h : zo_iald r ca cb cd tl (ze_jp jt) kk k cal mc ms ls st w g nc ns = true) : W p l e R s m args below meth c H locs nc ns Q (F0 m pc la vs) := by
  obtain ⟨hZ, hx, hb, hml, hown, hKs, hsc, hA, hts, hR, hRd, hin, hcal, hjt⟩ := hF
  obtain ⟨h1, h2⟩ := zk_and hr
  have hd := zk_dec h1
  have hn := zk_nx hV h2
  exact zs_iald hx hb hKs hsc ze_a0 hd hK hn h hH

theorem zz_caload  (hF : ze_Fx p l R s m args meth c dC dI dA sp xs A o nL d cc rt ini jt cal mc ms) (hK : ze_KK p l e R s m args below meth c Q z0 dC dI dA sp xs A nL (fun cs => zk_code o cc nL rt ini jt cs = true) kk) (hV : zk_code o cc nL rt ini jt r = true) (hH : ze_H z0 dC dI dA sp xs A s nL ls st w g ρ ws H locs la vs) (hr : zk_s .caload o cc nL rt ini jt pc ca cb cd tl r = true) (h : zo_ald 101 r ca cb cd tl (ze_jp jt) kk k cal mc ms ls st w g nc ns = true) : W p l e R s m args below meth c H locs nc ns Q (F0 m pc la vs) := by
  obtain ⟨hZ, hx, hb, hml, hown, hKs, hsc, hA, hts, hR, hRd, hin, hcal, hjt⟩ := hF
  obtain ⟨h1, h2⟩ := zk_and hr
  have hd := zk_dec h1
  have hn := zk_nx hV h2
  exact zs_ald (by decide) (by decide) hK hn h hH (fun q a n f i rest hw hin k9 => va_cald (D := (dC, dI)) hx hb (hKs.k1 ze_a1) hH.2.2.2.1 q 0 hw rfl hin hd k9)

theorem zz_baload  (hF : ze_Fx p l R s m args meth c dC dI dA sp xs A o nL d cc rt ini jt cal mc ms) (hK : ze_KK p l e R s m args below meth c Q z0 dC dI dA sp xs A nL (fun cs => zk_code o cc nL rt ini jt cs = true) kk) (hV : zk_code o cc nL rt ini jt r = true) (hH : ze_H z0 dC dI dA sp xs A s nL ls st w g ρ ws H locs la vs) (hr : zk_s .baload o cc nL rt ini jt pc ca cb cd tl r = true) (h : zo_ald 104 r ca cb cd tl (ze_jp jt) kk k cal mc ms ls st w g nc ns = true) : W p l e R s m args below meth c H locs nc ns Q (F0 m pc la vs) := by
  obtain ⟨hZ, hx, hb, hml, hown, hKs, hsc, hA, hts, hR, hRd, hin, hcal, hjt⟩ := hF
  obtain ⟨h1, h2⟩ := zk_and hr
  have hd := zk_dec h1
  have hn := zk_nx hV h2
  exact zs_ald (by decide) (by decide) hK hn h hH (fun q a n f i rest hw hin k9 => va_zald (D := (dC, dI)) hx hb (hKs.k1 ze_a4) hH.2.2.2.1 q 0 hw rfl hin hd k9)

theorem zz_laload  (hF : ze_Fx p l R s m args meth c dC dI dA sp xs A o nL d cc rt ini jt cal mc ms) (hK : ze_KK p l e R s m args below meth c Q z0 dC dI dA sp xs A nL (fun cs => zk_code o cc nL rt ini jt cs = true) kk) (hV : zk_code o cc nL rt ini jt r = true) (hH : ze_H z0 dC dI dA sp xs A s nL ls st w g ρ ws H locs la vs) (hr : zk_s .laload o cc nL rt ini jt pc ca cb cd tl r = true) (h : zo_ald 150 r ca cb cd tl (ze_jp jt) kk k cal mc ms ls st w g nc ns = true) : W p l e R s m args below meth c H locs nc ns Q (F0 m pc la vs) := by
  obtain ⟨hZ, hx, hb, hml, hown, hKs, hsc, hA, hts, hR, hRd, hin, hcal, hjt⟩ := hF
  obtain ⟨h1, h2⟩ := zk_and hr
  have hd := zk_dec h1
  have hn := zk_nx hV h2
  exact zs_lald hK hn h hH (fun q a n f i rest hw hin k9 => va_lald (D := (dC, dI)) hx hb (hKs.k1 ze_a5) hH.2.2.2.1 q 0 hw rfl hin hd k9)

theorem zz_aaload  (hF : ze_Fx p l R s m args meth c dC dI dA sp xs A o nL d cc rt ini jt cal mc ms) (hK : ze_KK p l e R s m args below meth c Q z0 dC dI dA sp xs A nL (fun cs => zk_code o cc nL rt ini jt cs = true) kk) (hV : zk_code o cc nL rt ini jt r = true) (hH : ze_H z0 dC dI dA sp xs A s nL ls st w g ρ ws H locs la vs) (hr : zk_s .aaload o cc nL rt ini jt pc ca cb cd tl r = true) (h : zo_aald r ca cb cd tl (ze_jp jt) kk k cal mc ms ls st w g nc ns = true) : W p l e R s m args below meth c H locs nc ns Q (F0 m pc la vs) := by
  obtain ⟨hZ, hx, hb, hml, hown, hKs, hsc, hA, hts, hR, hRd, hin, hcal, hjt⟩ := hF
  obtain ⟨h1, h2⟩ := zk_and hr
  have hd := zk_dec h1
  have hn := zk_nx hV h2
  exact zs_aald hx hb hKs hZ.2.1 hd hK hn h hH

theorem zz_iastore  (hF : ze_Fx p l R s m args meth c dC dI dA sp xs A o nL d cc rt ini jt cal mc ms) (hK : ze_KK p l e R s m args below meth c Q z0 dC dI dA sp xs A nL (fun cs => zk_code o cc nL rt ini jt cs = true) kk) (hV : zk_code o cc nL rt ini jt r = true) (hH : ze_H z0 dC dI dA sp xs A s nL ls st w g ρ ws H locs la vs) (hr : zk_s .iastore o cc nL rt ini jt pc ca cb cd tl r = true) (h : zo_iast r ca cb cd tl (ze_jp jt) kk k cal mc ms ls st w g nc ns = true) : W p l e R s m args below meth c H locs nc ns Q (F0 m pc la vs) := by
  obtain ⟨hZ, hx, hb, hml, hown, hKs, hsc, hA, hts, hR, hRd, hin, hcal, hjt⟩ := hF
  obtain ⟨h1, h2⟩ := zk_and hr
  have hd := zk_dec h1
  have hn := zk_nx hV h2
  exact zs_iast hx hb hKs ze_a0 hd hK hn h hH

theorem zz_castore  (hF : ze_Fx p l R s m args meth c dC dI dA sp xs A o nL d cc rt ini jt cal mc ms) (hK : ze_KK p l e R s m args below meth c Q z0 dC dI dA sp xs A nL (fun cs => zk_code o cc nL rt ini jt cs = true) kk) (hV : zk_code o cc nL rt ini jt r = true) (hH : ze_H z0 dC dI dA sp xs A s nL ls st w g ρ ws H locs la vs) (hr : zk_s .castore o cc nL rt ini jt pc ca cb cd tl r = true) (h : zo_cast r ca cb cd tl (ze_jp jt) kk k cal mc ms ls st w g nc ns = true) : W p l e R s m args below meth c H locs nc ns Q (F0 m pc la vs) := by
  obtain ⟨hZ, hx, hb, hml, hown, hKs, hsc, hA, hts, hR, hRd, hin, hcal, hjt⟩ := hF
  obtain ⟨h1, h2⟩ := zk_and hr
  have hd := zk_dec h1
  have hn := zk_nx hV h2
  exact zs_cast hx hb hKs ze_a1 hd hK hn h hH

theorem zz_bastore  (hF : ze_Fx p l R s m args meth c dC dI dA sp xs A o nL d cc rt ini jt cal mc ms) (hK : ze_KK p l e R s m args below meth c Q z0 dC dI dA sp xs A nL (fun cs => zk_code o cc nL rt ini jt cs = true) kk) (hV : zk_code o cc nL rt ini jt r = true) (hH : ze_H z0 dC dI dA sp xs A s nL ls st w g ρ ws H locs la vs) (hr : zk_s .bastore o cc nL rt ini jt pc ca cb cd tl r = true) (h : zo_bast r ca cb cd tl (ze_jp jt) kk k cal mc ms ls st w g nc ns = true) : W p l e R s m args below meth c H locs nc ns Q (F0 m pc la vs) := by
  obtain ⟨hZ, hx, hb, hml, hown, hKs, hsc, hA, hts, hR, hRd, hin, hcal, hjt⟩ := hF
  obtain ⟨h1, h2⟩ := zk_and hr
  have hd := zk_dec h1
  have hn := zk_nx hV h2
  exact zs_bast hx hb hKs ze_a4 hd hK hn h hH

theorem zz_lastore  (hF : ze_Fx p l R s m args meth c dC dI dA sp xs A o nL d cc rt ini jt cal mc ms) (hK : ze_KK p l e R s m args below meth c Q z0 dC dI dA sp xs A nL (fun cs => zk_code o cc nL rt ini jt cs = true) kk) (hV : zk_code o cc nL rt ini jt r = true) (hH : ze_H z0 dC dI dA sp xs A s nL ls st w g ρ ws H locs la vs) (hr : zk_s .lastore o cc nL rt ini jt pc ca cb cd tl r = true) (h : zo_last r ca cb cd tl (ze_jp jt) kk k cal mc ms ls st w g nc ns = true) : W p l e R s m args below meth c H locs nc ns Q (F0 m pc la vs) := by
  obtain ⟨hZ, hx, hb, hml, hown, hKs, hsc, hA, hts, hR, hRd, hin, hcal, hjt⟩ := hF
  obtain ⟨h1, h2⟩ := zk_and hr
  have hd := zk_dec h1
  have hn := zk_nx hV h2
  exact zs_last hx hb hKs ze_a5 hd hK hn h hH

theorem zz_aastore  (hF : ze_Fx p l R s m args meth c dC dI dA sp xs A o nL d cc rt ini jt cal mc ms) (hK : ze_KK p l e R s m args below meth c Q z0 dC dI dA sp xs A nL (fun cs => zk_code o cc nL rt ini jt cs = true) kk) (hV : zk_code o cc nL rt ini jt r = true) (hH : ze_H z0 dC dI dA sp xs A s nL ls st w g ρ ws H locs la vs) (hr : zk_s .aastore o cc nL rt ini jt pc ca cb cd tl r = true) (h : zo_aast r ca cb cd tl (ze_jp jt) kk k cal mc ms ls st w g nc ns = true) : W p l e R s m args below meth c H locs nc ns Q (F0 m pc la vs) := by
  obtain ⟨hZ, hx, hb, hml, hown, hKs, hsc, hA, hts, hR, hRd, hin, hcal, hjt⟩ := hF
  obtain ⟨h1, h2⟩ := zk_and hr
  have hd := zk_dec h1
  have hn := zk_nx hV h2
  exact zs_aast hx hb hKs hZ.2.1 hZ.1 hd hK hn h hH

theorem zz_arraylength  (hF : ze_Fx p l R s m args meth c dC dI dA sp xs A o nL d cc rt ini jt cal mc ms) (hK : ze_KK p l e R s m args below meth c Q z0 dC dI dA sp xs A nL (fun cs => zk_code o cc nL rt ini jt cs = true) kk) (hV : zk_code o cc nL rt ini jt r = true) (hH : ze_H z0 dC dI dA sp xs A s nL ls st w g ρ ws H locs la vs) (hr : zk_s .arraylength o cc nL rt ini jt pc ca cb cd tl r = true) (h : zo_alen r ca cb cd tl (ze_jp jt) kk k cal mc ms ls st w g nc ns = true) : W p l e R s m args below meth c H locs nc ns Q (F0 m pc la vs) := by
  obtain ⟨hZ, hx, hb, hml, hown, hKs, hsc, hA, hts, hR, hRd, hin, hcal, hjt⟩ := hF
  obtain ⟨h1, h2⟩ := zk_and hr
  have hd := zk_dec h1
  have hn := zk_nx hV h2
  exact zs_alen hx hb hKs hsc ze_aa hd hK hn h hH

theorem zz_iconst {n9 : Int} (hF : ze_Fx p l R s m args meth c dC dI dA sp xs A o nL d cc rt ini jt cal mc ms) (hK : ze_KK p l e R s m args below meth c Q z0 dC dI dA sp xs A nL (fun cs => zk_code o cc nL rt ini jt cs = true) kk) (hV : zk_code o cc nL rt ini jt r = true) (hH : ze_H z0 dC dI dA sp xs A s nL ls st w g ρ ws H locs la vs) (hr : zk_ic n9 o cc nL rt ini jt pc ca cb cd tl r = true) (h : zo_cst r ca cb cd tl (ze_jp jt) kk k cal mc ms ls st w g nc ns = true) : W p l e R s m args below meth c H locs nc ns Q (F0 m pc la vs) := by
  obtain ⟨hZ, hx, hb, hml, hown, hKs, hsc, hA, hts, hR, hRd, hin, hcal, hjt⟩ := hF
  obtain ⟨h1, h3⟩ := zk_and hr
  obtain ⟨h1, h2⟩ := zk_and h1
  have hd := zk_dec h1
  have hn := zk_nx hV h2
  have h3 := of_decide_eq_true h3
  exact zs_cst hK hn h hH (fun k9 => lv_iconst hx hb hd h3 k9)

theorem zz_bipush {n9 : Int} (hF : ze_Fx p l R s m args meth c dC dI dA sp xs A o nL d cc rt ini jt cal mc ms) (hK : ze_KK p l e R s m args below meth c Q z0 dC dI dA sp xs A nL (fun cs => zk_code o cc nL rt ini jt cs = true) kk) (hV : zk_code o cc nL rt ini jt r = true) (hH : ze_H z0 dC dI dA sp xs A s nL ls st w g ρ ws H locs la vs) (hr : zk_bi n9 o cc nL rt ini jt pc ca cb cd tl r = true) (h : zo_cst r ca cb cd tl (ze_jp jt) kk k cal mc ms ls st w g nc ns = true) : W p l e R s m args below meth c H locs nc ns Q (F0 m pc la vs) := by
  obtain ⟨hZ, hx, hb, hml, hown, hKs, hsc, hA, hts, hR, hRd, hin, hcal, hjt⟩ := hF
  obtain ⟨h1, h3⟩ := zk_and hr
  obtain ⟨h1, h2⟩ := zk_and h1
  have hd := zk_dec h1
  have hn := zk_nx hV h2
  have h3 := of_decide_eq_true h3
  exact zs_cst hK hn h hH (fun k9 => lv_bipush hx hb hd h3 k9)

theorem zz_sipush {n9 : Int} (hF : ze_Fx p l R s m args meth c dC dI dA sp xs A o nL d cc rt ini jt cal mc ms) (hK : ze_KK p l e R s m args below meth c Q z0 dC dI dA sp xs A nL (fun cs => zk_code o cc nL rt ini jt cs = true) kk) (hV : zk_code o cc nL rt ini jt r = true) (hH : ze_H z0 dC dI dA sp xs A s nL ls st w g ρ ws H locs la vs) (hr : zk_si n9 o cc nL rt ini jt pc ca cb cd tl r = true) (h : zo_cst r ca cb cd tl (ze_jp jt) kk k cal mc ms ls st w g nc ns = true) : W p l e R s m args below meth c H locs nc ns Q (F0 m pc la vs) := by
  obtain ⟨hZ, hx, hb, hml, hown, hKs, hsc, hA, hts, hR, hRd, hin, hcal, hjt⟩ := hF
  obtain ⟨h1, h3⟩ := zk_and hr
  obtain ⟨h1, h2⟩ := zk_and h1
  have hd := zk_dec h1
  have hn := zk_nx hV h2
  have h3 := of_decide_eq_true h3
  exact zs_cst hK hn h hH (fun k9 => lv_sipush hx hb hd h3 k9)

theorem zz_lconst {n9 : Fin 2} (hF : ze_Fx p l R s m args meth c dC dI dA sp xs A o nL d cc rt ini jt cal mc ms) (hK : ze_KK p l e R s m args below meth c Q z0 dC dI dA sp xs A nL (fun cs => zk_code o cc nL rt ini jt cs = true) kk) (hV : zk_code o cc nL rt ini jt r = true) (hH : ze_H z0 dC dI dA sp xs A s nL ls st w g ρ ws H locs la vs) (hr : zk_lc n9 o cc nL rt ini jt pc ca cb cd tl r = true) (h : zo_lcst r ca cb cd tl (ze_jp jt) kk k cal mc ms ls st w g nc ns = true) : W p l e R s m args below meth c H locs nc ns Q (F0 m pc la vs) := by
  obtain ⟨hZ, hx, hb, hml, hown, hKs, hsc, hA, hts, hR, hRd, hin, hcal, hjt⟩ := hF
  obtain ⟨h1, h3⟩ := zk_and hr
  obtain ⟨h1, h2⟩ := zk_and h1
  have hd := zk_dec h1
  have hn := zk_nx hV h2
  have h3 := of_decide_eq_true h3
  exact zs_lcst hK hn h hH (fun k9 => lv_lconst hx hb hd h3 k9)

theorem zz_ldc {n9 : Nat} (hF : ze_Fx p l R s m args meth c dC dI dA sp xs A o nL d cc rt ini jt cal mc ms) (hK : ze_KK p l e R s m args below meth c Q z0 dC dI dA sp xs A nL (fun cs => zk_code o cc nL rt ini jt cs = true) kk) (hV : zk_code o cc nL rt ini jt r = true) (hH : ze_H z0 dC dI dA sp xs A s nL ls st w g ρ ws H locs la vs) (hr : zk_ld n9 o cc nL rt ini jt pc ca cb cd tl r = true) (h : zo_cst r ca cb cd tl (ze_jp jt) kk k cal mc ms ls st w g nc ns = true) : W p l e R s m args below meth c H locs nc ns Q (F0 m pc la vs) := by
  obtain ⟨hZ, hx, hb, hml, hown, hKs, hsc, hA, hts, hR, hRd, hin, hcal, hjt⟩ := hF
  obtain ⟨h1, h3⟩ := zk_and hr
  obtain ⟨h1, h2⟩ := zk_and h1
  have hd := zk_dec h1
  have hn := zk_nx hV h2
  have h3 := of_decide_eq_true h3
  exact zs_cst hK hn h hH (fun k9 => lv_ldc hx hb hown (hts _ (hZ.2.2.2.2.2.2.1 o n9 ca h3)) hd k9)

theorem zz_ldc_w {n9 : Nat} (hF : ze_Fx p l R s m args meth c dC dI dA sp xs A o nL d cc rt ini jt cal mc ms) (hK : ze_KK p l e R s m args below meth c Q z0 dC dI dA sp xs A nL (fun cs => zk_code o cc nL rt ini jt cs = true) kk) (hV : zk_code o cc nL rt ini jt r = true) (hH : ze_H z0 dC dI dA sp xs A s nL ls st w g ρ ws H locs la vs) (hr : zk_ldw n9 o cc nL rt ini jt pc ca cb cd tl r = true) (h : zo_cst r ca cb cd tl (ze_jp jt) kk k cal mc ms ls st w g nc ns = true) : W p l e R s m args below meth c H locs nc ns Q (F0 m pc la vs) := by
  obtain ⟨hZ, hx, hb, hml, hown, hKs, hsc, hA, hts, hR, hRd, hin, hcal, hjt⟩ := hF
  obtain ⟨h1, h3⟩ := zk_and hr
  obtain ⟨h1, h2⟩ := zk_and h1
  have hd := zk_dec h1
  have hn := zk_nx hV h2
  have h3 := of_decide_eq_true h3
  exact zs_cst hK hn h hH (fun k9 => lv_ldcw hx hb hown (hts _ (hZ.2.2.2.2.2.2.1 o n9 ca h3)) hd k9)

theorem zz_ldc2_w {n9 : Nat} (hF : ze_Fx p l R s m args meth c dC dI dA sp xs A o nL d cc rt ini jt cal mc ms) (hK : ze_KK p l e R s m args below meth c Q z0 dC dI dA sp xs A nL (fun cs => zk_code o cc nL rt ini jt cs = true) kk) (hV : zk_code o cc nL rt ini jt r = true) (hH : ze_H z0 dC dI dA sp xs A s nL ls st w g ρ ws H locs la vs) (hr : zk_ld2 n9 o cc nL rt ini jt pc ca cb cd tl r = true) (h : zo_lcst r ca cb cd tl (ze_jp jt) kk k cal mc ms ls st w g nc ns = true) : W p l e R s m args below meth c H locs nc ns Q (F0 m pc la vs) := by
  obtain ⟨hZ, hx, hb, hml, hown, hKs, hsc, hA, hts, hR, hRd, hin, hcal, hjt⟩ := hF
  obtain ⟨h1, h3⟩ := zk_and hr
  obtain ⟨h1, h2⟩ := zk_and h1
  have hd := zk_dec h1
  have hn := zk_nx hV h2
  have h3 := of_decide_eq_true h3
  exact zs_lcst hK hn h hH (fun k9 => lv_ldc2 hx hb hown (hts _ (hZ.2.2.2.2.2.2.2.1 o n9 ca h3)) hd k9)

theorem zz_iload_n {n9 : Fin 4} (hF : ze_Fx p l R s m args meth c dC dI dA sp xs A o nL d cc rt ini jt cal mc ms) (hK : ze_KK p l e R s m args below meth c Q z0 dC dI dA sp xs A nL (fun cs => zk_code o cc nL rt ini jt cs = true) kk) (hV : zk_code o cc nL rt ini jt r = true) (hH : ze_H z0 dC dI dA sp xs A s nL ls st w g ρ ws H locs la vs) (hr : zk_x (.iload_n n9) 1 n9.val o cc nL rt ini jt pc ca cb cd tl r = true) (h : zo_iload r ca cb cd tl (ze_jp jt) kk k cal mc ms ls st w g nc ns = true) : W p l e R s m args below meth c H locs nc ns Q (F0 m pc la vs) := by
  obtain ⟨hZ, hx, hb, hml, hown, hKs, hsc, hA, hts, hR, hRd, hin, hcal, hjt⟩ := hF
  obtain ⟨h1, h3⟩ := zk_and hr
  obtain ⟨h1, h2⟩ := zk_and h1
  have hd := zk_dec h1
  have hn := zk_nx hV h2
  have h3 := of_decide_eq_true h3
  exact zs_iload hK hn h hH (fun x q k9 => lv_iload_n hx hb hd h3 q k9)

theorem zz_lload_n {n9 : Fin 4} (hF : ze_Fx p l R s m args meth c dC dI dA sp xs A o nL d cc rt ini jt cal mc ms) (hK : ze_KK p l e R s m args below meth c Q z0 dC dI dA sp xs A nL (fun cs => zk_code o cc nL rt ini jt cs = true) kk) (hV : zk_code o cc nL rt ini jt r = true) (hH : ze_H z0 dC dI dA sp xs A s nL ls st w g ρ ws H locs la vs) (hr : zk_x (.lload_n n9) 1 n9.val o cc nL rt ini jt pc ca cb cd tl r = true) (h : zo_lload r ca cb cd tl (ze_jp jt) kk k cal mc ms ls st w g nc ns = true) : W p l e R s m args below meth c H locs nc ns Q (F0 m pc la vs) := by
  obtain ⟨hZ, hx, hb, hml, hown, hKs, hsc, hA, hts, hR, hRd, hin, hcal, hjt⟩ := hF
  obtain ⟨h1, h3⟩ := zk_and hr
  obtain ⟨h1, h2⟩ := zk_and h1
  have hd := zk_dec h1
  have hn := zk_nx hV h2
  have h3 := of_decide_eq_true h3
  exact zs_lload hK hn h hH (fun x q k9 => lv_lload_n hx hb hd h3 q k9)

theorem zz_aload_n {n9 : Fin 4} (hF : ze_Fx p l R s m args meth c dC dI dA sp xs A o nL d cc rt ini jt cal mc ms) (hK : ze_KK p l e R s m args below meth c Q z0 dC dI dA sp xs A nL (fun cs => zk_code o cc nL rt ini jt cs = true) kk) (hV : zk_code o cc nL rt ini jt r = true) (hH : ze_H z0 dC dI dA sp xs A s nL ls st w g ρ ws H locs la vs) (hr : zk_x (.aload_n n9) 1 n9.val o cc nL rt ini jt pc ca cb cd tl r = true) (h : zo_aload r ca cb cd tl (ze_jp jt) kk k cal mc ms ls st w g nc ns = true) : W p l e R s m args below meth c H locs nc ns Q (F0 m pc la vs) := by
  obtain ⟨hZ, hx, hb, hml, hown, hKs, hsc, hA, hts, hR, hRd, hin, hcal, hjt⟩ := hF
  obtain ⟨h1, h3⟩ := zk_and hr
  obtain ⟨h1, h2⟩ := zk_and h1
  have hd := zk_dec h1
  have hn := zk_nx hV h2
  have h3 := of_decide_eq_true h3
  exact zs_aload hK hn h hH (fun x q k9 => lv_aload_n hx hb hd h3 q k9) (fun q k9 => lv_aload_nN hx hb hd h3 q k9)

theorem zz_iload {n9 : Nat} (hF : ze_Fx p l R s m args meth c dC dI dA sp xs A o nL d cc rt ini jt cal mc ms) (hK : ze_KK p l e R s m args below meth c Q z0 dC dI dA sp xs A nL (fun cs => zk_code o cc nL rt ini jt cs = true) kk) (hV : zk_code o cc nL rt ini jt r = true) (hH : ze_H z0 dC dI dA sp xs A s nL ls st w g ρ ws H locs la vs) (hr : zk_x (.iload n9) 2 n9 o cc nL rt ini jt pc ca cb cd tl r = true) (h : zo_iload r ca cb cd tl (ze_jp jt) kk k cal mc ms ls st w g nc ns = true) : W p l e R s m args below meth c H locs nc ns Q (F0 m pc la vs) := by
  obtain ⟨hZ, hx, hb, hml, hown, hKs, hsc, hA, hts, hR, hRd, hin, hcal, hjt⟩ := hF
  obtain ⟨h1, h3⟩ := zk_and hr
  obtain ⟨h1, h2⟩ := zk_and h1
  have hd := zk_dec h1
  have hn := zk_nx hV h2
  have h3 := of_decide_eq_true h3
  subst h3
  exact zs_iload hK hn h hH (fun x q k9 => lv_iload hx hb hd q k9)

theorem zz_lload {n9 : Nat} (hF : ze_Fx p l R s m args meth c dC dI dA sp xs A o nL d cc rt ini jt cal mc ms) (hK : ze_KK p l e R s m args below meth c Q z0 dC dI dA sp xs A nL (fun cs => zk_code o cc nL rt ini jt cs = true) kk) (hV : zk_code o cc nL rt ini jt r = true) (hH : ze_H z0 dC dI dA sp xs A s nL ls st w g ρ ws H locs la vs) (hr : zk_x (.lload n9) 2 n9 o cc nL rt ini jt pc ca cb cd tl r = true) (h : zo_lload r ca cb cd tl (ze_jp jt) kk k cal mc ms ls st w g nc ns = true) : W p l e R s m args below meth c H locs nc ns Q (F0 m pc la vs) := by
  obtain ⟨hZ, hx, hb, hml, hown, hKs, hsc, hA, hts, hR, hRd, hin, hcal, hjt⟩ := hF
  obtain ⟨h1, h3⟩ := zk_and hr
  obtain ⟨h1, h2⟩ := zk_and h1
  have hd := zk_dec h1
  have hn := zk_nx hV h2
  have h3 := of_decide_eq_true h3
  subst h3
  exact zs_lload hK hn h hH (fun x q k9 => lv_lload hx hb hd q k9)

theorem zz_aload {n9 : Nat} (hF : ze_Fx p l R s m args meth c dC dI dA sp xs A o nL d cc rt ini jt cal mc ms) (hK : ze_KK p l e R s m args below meth c Q z0 dC dI dA sp xs A nL (fun cs => zk_code o cc nL rt ini jt cs = true) kk) (hV : zk_code o cc nL rt ini jt r = true) (hH : ze_H z0 dC dI dA sp xs A s nL ls st w g ρ ws H locs la vs) (hr : zk_x (.aload n9) 2 n9 o cc nL rt ini jt pc ca cb cd tl r = true) (h : zo_aload r ca cb cd tl (ze_jp jt) kk k cal mc ms ls st w g nc ns = true) : W p l e R s m args below meth c H locs nc ns Q (F0 m pc la vs) := by
  obtain ⟨hZ, hx, hb, hml, hown, hKs, hsc, hA, hts, hR, hRd, hin, hcal, hjt⟩ := hF
  obtain ⟨h1, h3⟩ := zk_and hr
  obtain ⟨h1, h2⟩ := zk_and h1
  have hd := zk_dec h1
  have hn := zk_nx hV h2
  have h3 := of_decide_eq_true h3
  subst h3
  exact zs_aload hK hn h hH (fun x q k9 => lv_aload hx hb hd q k9) (fun q k9 => lv_aloadN hx hb hd q k9)

theorem zz_istore_n {n9 : Fin 4} (hF : ze_Fx p l R s m args meth c dC dI dA sp xs A o nL d cc rt ini jt cal mc ms) (hK : ze_KK p l e R s m args below meth c Q z0 dC dI dA sp xs A nL (fun cs => zk_code o cc nL rt ini jt cs = true) kk) (hV : zk_code o cc nL rt ini jt r = true) (hH : ze_H z0 dC dI dA sp xs A s nL ls st w g ρ ws H locs la vs) (hr : zk_y (.istore_n n9) 1 n9.val 1 o cc nL rt ini jt pc ca cb cd tl r = true) (h : zo_istore r ca cb cd tl (ze_jp jt) kk k cal mc ms ls st w g nc ns = true) : W p l e R s m args below meth c H locs nc ns Q (F0 m pc la vs) := by
  obtain ⟨hZ, hx, hb, hml, hown, hKs, hsc, hA, hts, hR, hRd, hin, hcal, hjt⟩ := hF
  obtain ⟨h1, h4⟩ := zk_and hr
  obtain ⟨h1, h3⟩ := zk_and h1
  obtain ⟨h1, h2⟩ := zk_and h1
  have hd := zk_dec h1
  have hn := zk_nx hV h2
  have h3 := of_decide_eq_true h3
  have h4 := of_decide_eq_true h4
  exact zs_istore hK hn h hH (fun x rest lv q k9 => lv_istore_n hx hb hd h3 q (by omega) rfl k9)

theorem zz_istore {n9 : Nat} (hF : ze_Fx p l R s m args meth c dC dI dA sp xs A o nL d cc rt ini jt cal mc ms) (hK : ze_KK p l e R s m args below meth c Q z0 dC dI dA sp xs A nL (fun cs => zk_code o cc nL rt ini jt cs = true) kk) (hV : zk_code o cc nL rt ini jt r = true) (hH : ze_H z0 dC dI dA sp xs A s nL ls st w g ρ ws H locs la vs) (hr : zk_y (.istore n9) 2 n9 1 o cc nL rt ini jt pc ca cb cd tl r = true) (h : zo_istore r ca cb cd tl (ze_jp jt) kk k cal mc ms ls st w g nc ns = true) : W p l e R s m args below meth c H locs nc ns Q (F0 m pc la vs) := by
  obtain ⟨hZ, hx, hb, hml, hown, hKs, hsc, hA, hts, hR, hRd, hin, hcal, hjt⟩ := hF
  obtain ⟨h1, h4⟩ := zk_and hr
  obtain ⟨h1, h3⟩ := zk_and h1
  obtain ⟨h1, h2⟩ := zk_and h1
  have hd := zk_dec h1
  have hn := zk_nx hV h2
  have h3 := of_decide_eq_true h3
  have h4 := of_decide_eq_true h4
  subst h3
  exact zs_istore hK hn h hH (fun x rest lv q k9 => lv_istore hx hb hd q (by omega) rfl k9)

theorem zz_astore_n {n9 : Fin 4} (hF : ze_Fx p l R s m args meth c dC dI dA sp xs A o nL d cc rt ini jt cal mc ms) (hK : ze_KK p l e R s m args below meth c Q z0 dC dI dA sp xs A nL (fun cs => zk_code o cc nL rt ini jt cs = true) kk) (hV : zk_code o cc nL rt ini jt r = true) (hH : ze_H z0 dC dI dA sp xs A s nL ls st w g ρ ws H locs la vs) (hr : zk_y (.astore_n n9) 1 n9.val 1 o cc nL rt ini jt pc ca cb cd tl r = true) (h : zo_astore r ca cb cd tl (ze_jp jt) kk k cal mc ms ls st w g nc ns = true) : W p l e R s m args below meth c H locs nc ns Q (F0 m pc la vs) := by
  obtain ⟨hZ, hx, hb, hml, hown, hKs, hsc, hA, hts, hR, hRd, hin, hcal, hjt⟩ := hF
  obtain ⟨h1, h4⟩ := zk_and hr
  obtain ⟨h1, h3⟩ := zk_and h1
  obtain ⟨h1, h2⟩ := zk_and h1
  have hd := zk_dec h1
  have hn := zk_nx hV h2
  have h3 := of_decide_eq_true h3
  have h4 := of_decide_eq_true h4
  exact zs_astore hK hn h hH (fun x rest lv q k9 => lv_astore_n hx hb hd h3 q (by omega) rfl k9) (fun rest lv q k9 => lv_astore_nN hx hb hd h3 q (by omega) rfl k9)

theorem zz_astore {n9 : Nat} (hF : ze_Fx p l R s m args meth c dC dI dA sp xs A o nL d cc rt ini jt cal mc ms) (hK : ze_KK p l e R s m args below meth c Q z0 dC dI dA sp xs A nL (fun cs => zk_code o cc nL rt ini jt cs = true) kk) (hV : zk_code o cc nL rt ini jt r = true) (hH : ze_H z0 dC dI dA sp xs A s nL ls st w g ρ ws H locs la vs) (hr : zk_y (.astore n9) 2 n9 1 o cc nL rt ini jt pc ca cb cd tl r = true) (h : zo_astore r ca cb cd tl (ze_jp jt) kk k cal mc ms ls st w g nc ns = true) : W p l e R s m args below meth c H locs nc ns Q (F0 m pc la vs) := by
  obtain ⟨hZ, hx, hb, hml, hown, hKs, hsc, hA, hts, hR, hRd, hin, hcal, hjt⟩ := hF
  obtain ⟨h1, h4⟩ := zk_and hr
  obtain ⟨h1, h3⟩ := zk_and h1
  obtain ⟨h1, h2⟩ := zk_and h1
  have hd := zk_dec h1
  have hn := zk_nx hV h2
  have h3 := of_decide_eq_true h3
  have h4 := of_decide_eq_true h4
  subst h3
  exact zs_astore hK hn h hH (fun x rest lv q k9 => lv_astore hx hb hd q (by omega) rfl k9) (fun rest lv q k9 => lv_astoreN hx hb hd q (by omega) rfl k9)

theorem zz_lstore_n {n9 : Fin 4} (hF : ze_Fx p l R s m args meth c dC dI dA sp xs A o nL d cc rt ini jt cal mc ms) (hK : ze_KK p l e R s m args below meth c Q z0 dC dI dA sp xs A nL (fun cs => zk_code o cc nL rt ini jt cs = true) kk) (hV : zk_code o cc nL rt ini jt r = true) (hH : ze_H z0 dC dI dA sp xs A s nL ls st w g ρ ws H locs la vs) (hr : zk_y (.lstore_n n9) 1 n9.val 2 o cc nL rt ini jt pc ca cb cd tl r = true) (h : zo_lstore r ca cb cd tl (ze_jp jt) kk k cal mc ms ls st w g nc ns = true) : W p l e R s m args below meth c H locs nc ns Q (F0 m pc la vs) := by
  obtain ⟨hZ, hx, hb, hml, hown, hKs, hsc, hA, hts, hR, hRd, hin, hcal, hjt⟩ := hF
  obtain ⟨h1, h4⟩ := zk_and hr
  obtain ⟨h1, h3⟩ := zk_and h1
  obtain ⟨h1, h2⟩ := zk_and h1
  have hd := zk_dec h1
  have hn := zk_nx hV h2
  have h3 := of_decide_eq_true h3
  have h4 := of_decide_eq_true h4
  exact zs_lstore hK hn h hH (fun x rest lv q k9 => lv_lstore_n hx hb hd h3 q (by omega) rfl k9)

theorem zz_lstore {n9 : Nat} (hF : ze_Fx p l R s m args meth c dC dI dA sp xs A o nL d cc rt ini jt cal mc ms) (hK : ze_KK p l e R s m args below meth c Q z0 dC dI dA sp xs A nL (fun cs => zk_code o cc nL rt ini jt cs = true) kk) (hV : zk_code o cc nL rt ini jt r = true) (hH : ze_H z0 dC dI dA sp xs A s nL ls st w g ρ ws H locs la vs) (hr : zk_y (.lstore n9) 2 n9 2 o cc nL rt ini jt pc ca cb cd tl r = true) (h : zo_lstore r ca cb cd tl (ze_jp jt) kk k cal mc ms ls st w g nc ns = true) : W p l e R s m args below meth c H locs nc ns Q (F0 m pc la vs) := by
  obtain ⟨hZ, hx, hb, hml, hown, hKs, hsc, hA, hts, hR, hRd, hin, hcal, hjt⟩ := hF
  obtain ⟨h1, h4⟩ := zk_and hr
  obtain ⟨h1, h3⟩ := zk_and h1
  obtain ⟨h1, h2⟩ := zk_and h1
  have hd := zk_dec h1
  have hn := zk_nx hV h2
  have h3 := of_decide_eq_true h3
  have h4 := of_decide_eq_true h4
  subst h3
  exact zs_lstore hK hn h hH (fun x rest lv q k9 => lv_lstore hx hb hd q (by omega) rfl k9)

theorem zz_iinc {i9 : Nat} {n9 : Int} (hF : ze_Fx p l R s m args meth c dC dI dA sp xs A o nL d cc rt ini jt cal mc ms) (hK : ze_KK p l e R s m args below meth c Q z0 dC dI dA sp xs A nL (fun cs => zk_code o cc nL rt ini jt cs = true) kk) (hV : zk_code o cc nL rt ini jt r = true) (hH : ze_H z0 dC dI dA sp xs A s nL ls st w g ρ ws H locs la vs) (hr : zk_ii i9 n9 o cc nL rt ini jt pc ca cb cd tl r = true) (h : zo_iinc r ca cb cd tl (ze_jp jt) kk k cal mc ms ls st w g nc ns = true) : W p l e R s m args below meth c H locs nc ns Q (F0 m pc la vs) := by
  obtain ⟨hZ, hx, hb, hml, hown, hKs, hsc, hA, hts, hR, hRd, hin, hcal, hjt⟩ := hF
  obtain ⟨h1, h5⟩ := zk_and hr
  obtain ⟨h1, h4⟩ := zk_and h1
  obtain ⟨h1, h3⟩ := zk_and h1
  obtain ⟨h1, h2⟩ := zk_and h1
  have hd := zk_dec h1
  have hn := zk_nx hV h2
  have h3 := of_decide_eq_true h3
  have h4 := of_decide_eq_true h4
  have h5 := of_decide_eq_true h5
  subst h3
  exact zs_iinc hK hn h hH (fun x lv j q1 q2 k9 => lv_iinc hx hb hd q1 q2 (by rw [h5]) (by omega) rfl k9)

theorem zz_goto {f9 : Int} (hF : ze_Fx p l R s m args meth c dC dI dA sp xs A o nL d cc rt ini jt cal mc ms) (hK : ze_KK p l e R s m args below meth c Q z0 dC dI dA sp xs A nL (fun cs => zk_code o cc nL rt ini jt cs = true) kk) (hV : zk_code o cc nL rt ini jt r = true) (hH : ze_H z0 dC dI dA sp xs A s nL ls st w g ρ ws H locs la vs) (hr : zk_go f9 o cc nL rt ini jt pc ca cb cd tl r = true) (h : zo_goto r ca cb cd tl (ze_jp jt) kk k cal mc ms ls st w g nc ns = true) : W p l e R s m args below meth c H locs nc ns Q (F0 m pc la vs) := by
  obtain ⟨hZ, hx, hb, hml, hown, hKs, hsc, hA, hts, hR, hRd, hin, hcal, hjt⟩ := hF
  obtain ⟨h1, h2⟩ := zk_and hr
  have hd := zk_dec h1
  obtain ⟨tgt, ht1, ht2⟩ := zk_to hjt h2
  obtain ⟨cs9, q9, h9⟩ := ht2 _ h
  exact lv_goto hx hb hd ht1 (hK _ _ _ _ _ _ _ q9 _ h9 _ _ _ _ _ _ hH)

theorem zz_if_eq {f9 : Int} (hF : ze_Fx p l R s m args meth c dC dI dA sp xs A o nL d cc rt ini jt cal mc ms) (hK : ze_KK p l e R s m args below meth c Q z0 dC dI dA sp xs A nL (fun cs => zk_code o cc nL rt ini jt cs = true) kk) (hV : zk_code o cc nL rt ini jt r = true) (hH : ze_H z0 dC dI dA sp xs A s nL ls st w g ρ ws H locs la vs) (hr : zk_j (.ifCond .eq f9) f9 o cc nL rt ini jt pc ca cb cd tl r = true) (h : zo_b1 zc_eq r ca cb cd tl (ze_jp jt) kk k cal mc ms ls st w g nc ns = true) : W p l e R s m args below meth c H locs nc ns Q (F0 m pc la vs) := by
  obtain ⟨hZ, hx, hb, hml, hown, hKs, hsc, hA, hts, hR, hRd, hin, hcal, hjt⟩ := hF
  obtain ⟨h1, h3⟩ := zk_and hr
  obtain ⟨h1, h2⟩ := zk_and h1
  have hd := zk_dec h1
  have hn := zk_nx hV h2
  obtain ⟨tgt, ht1, ht2⟩ := zk_to hjt h3
  exact zs_b1 zc_eq_ok hK hn ht2 h hH (fun x rest kt kf => lv_if_eq hx hb hd ht1 kt kf)

theorem zz_icmp_eq {f9 : Int} (hF : ze_Fx p l R s m args meth c dC dI dA sp xs A o nL d cc rt ini jt cal mc ms) (hK : ze_KK p l e R s m args below meth c Q z0 dC dI dA sp xs A nL (fun cs => zk_code o cc nL rt ini jt cs = true) kk) (hV : zk_code o cc nL rt ini jt r = true) (hH : ze_H z0 dC dI dA sp xs A s nL ls st w g ρ ws H locs la vs) (hr : zk_j (.if_icmp .eq f9) f9 o cc nL rt ini jt pc ca cb cd tl r = true) (h : zo_b2 zc_eq r ca cb cd tl (ze_jp jt) kk k cal mc ms ls st w g nc ns = true) : W p l e R s m args below meth c H locs nc ns Q (F0 m pc la vs) := by
  obtain ⟨hZ, hx, hb, hml, hown, hKs, hsc, hA, hts, hR, hRd, hin, hcal, hjt⟩ := hF
  obtain ⟨h1, h3⟩ := zk_and hr
  obtain ⟨h1, h2⟩ := zk_and h1
  have hd := zk_dec h1
  have hn := zk_nx hV h2
  obtain ⟨tgt, ht1, ht2⟩ := zk_to hjt h3
  exact zs_b2 zc_eq_ok hK hn ht2 h hH (fun x y rest kt kf => lv_icmp_eq hx hb hd ht1 kt kf)

theorem zz_if_ne {f9 : Int} (hF : ze_Fx p l R s m args meth c dC dI dA sp xs A o nL d cc rt ini jt cal mc ms) (hK : ze_KK p l e R s m args below meth c Q z0 dC dI dA sp xs A nL (fun cs => zk_code o cc nL rt ini jt cs = true) kk) (hV : zk_code o cc nL rt ini jt r = true) (hH : ze_H z0 dC dI dA sp xs A s nL ls st w g ρ ws H locs la vs) (hr : zk_j (.ifCond .ne f9) f9 o cc nL rt ini jt pc ca cb cd tl r = true) (h : zo_b1 zc_ne r ca cb cd tl (ze_jp jt) kk k cal mc ms ls st w g nc ns = true) : W p l e R s m args below meth c H locs nc ns Q (F0 m pc la vs) := by
  obtain ⟨hZ, hx, hb, hml, hown, hKs, hsc, hA, hts, hR, hRd, hin, hcal, hjt⟩ := hF
  obtain ⟨h1, h3⟩ := zk_and hr
  obtain ⟨h1, h2⟩ := zk_and h1
  have hd := zk_dec h1
  have hn := zk_nx hV h2
  obtain ⟨tgt, ht1, ht2⟩ := zk_to hjt h3
  exact zs_b1 zc_ne_ok hK hn ht2 h hH (fun x rest kt kf => lv_if_ne hx hb hd ht1 kt kf)

theorem zz_icmp_ne {f9 : Int} (hF : ze_Fx p l R s m args meth c dC dI dA sp xs A o nL d cc rt ini jt cal mc ms) (hK : ze_KK p l e R s m args below meth c Q z0 dC dI dA sp xs A nL (fun cs => zk_code o cc nL rt ini jt cs = true) kk) (hV : zk_code o cc nL rt ini jt r = true) (hH : ze_H z0 dC dI dA sp xs A s nL ls st w g ρ ws H locs la vs) (hr : zk_j (.if_icmp .ne f9) f9 o cc nL rt ini jt pc ca cb cd tl r = true) (h : zo_b2 zc_ne r ca cb cd tl (ze_jp jt) kk k cal mc ms ls st w g nc ns = true) : W p l e R s m args below meth c H locs nc ns Q (F0 m pc la vs) := by
  obtain ⟨hZ, hx, hb, hml, hown, hKs, hsc, hA, hts, hR, hRd, hin, hcal, hjt⟩ := hF
  obtain ⟨h1, h3⟩ := zk_and hr
  obtain ⟨h1, h2⟩ := zk_and h1
  have hd := zk_dec h1
  have hn := zk_nx hV h2
  obtain ⟨tgt, ht1, ht2⟩ := zk_to hjt h3
  exact zs_b2 zc_ne_ok hK hn ht2 h hH (fun x y rest kt kf => lv_icmp_ne hx hb hd ht1 kt kf)

theorem zz_if_lt {f9 : Int} (hF : ze_Fx p l R s m args meth c dC dI dA sp xs A o nL d cc rt ini jt cal mc ms) (hK : ze_KK p l e R s m args below meth c Q z0 dC dI dA sp xs A nL (fun cs => zk_code o cc nL rt ini jt cs = true) kk) (hV : zk_code o cc nL rt ini jt r = true) (hH : ze_H z0 dC dI dA sp xs A s nL ls st w g ρ ws H locs la vs) (hr : zk_j (.ifCond .lt f9) f9 o cc nL rt ini jt pc ca cb cd tl r = true) (h : zo_b1 zc_lt r ca cb cd tl (ze_jp jt) kk k cal mc ms ls st w g nc ns = true) : W p l e R s m args below meth c H locs nc ns Q (F0 m pc la vs) := by
  obtain ⟨hZ, hx, hb, hml, hown, hKs, hsc, hA, hts, hR, hRd, hin, hcal, hjt⟩ := hF
  obtain ⟨h1, h3⟩ := zk_and hr
  obtain ⟨h1, h2⟩ := zk_and h1
  have hd := zk_dec h1
  have hn := zk_nx hV h2
  obtain ⟨tgt, ht1, ht2⟩ := zk_to hjt h3
  exact zs_b1 zc_lt_ok hK hn ht2 h hH (fun x rest kt kf => lv_if_lt hx hb hd ht1 kt kf)

theorem zz_icmp_lt {f9 : Int} (hF : ze_Fx p l R s m args meth c dC dI dA sp xs A o nL d cc rt ini jt cal mc ms) (hK : ze_KK p l e R s m args below meth c Q z0 dC dI dA sp xs A nL (fun cs => zk_code o cc nL rt ini jt cs = true) kk) (hV : zk_code o cc nL rt ini jt r = true) (hH : ze_H z0 dC dI dA sp xs A s nL ls st w g ρ ws H locs la vs) (hr : zk_j (.if_icmp .lt f9) f9 o cc nL rt ini jt pc ca cb cd tl r = true) (h : zo_b2 zc_lt r ca cb cd tl (ze_jp jt) kk k cal mc ms ls st w g nc ns = true) : W p l e R s m args below meth c H locs nc ns Q (F0 m pc la vs) := by
  obtain ⟨hZ, hx, hb, hml, hown, hKs, hsc, hA, hts, hR, hRd, hin, hcal, hjt⟩ := hF
  obtain ⟨h1, h3⟩ := zk_and hr
  obtain ⟨h1, h2⟩ := zk_and h1
  have hd := zk_dec h1
  have hn := zk_nx hV h2
  obtain ⟨tgt, ht1, ht2⟩ := zk_to hjt h3
  exact zs_b2 zc_lt_ok hK hn ht2 h hH (fun x y rest kt kf => lv_icmp_lt hx hb hd ht1 kt kf)

theorem zz_if_ge {f9 : Int} (hF : ze_Fx p l R s m args meth c dC dI dA sp xs A o nL d cc rt ini jt cal mc ms) (hK : ze_KK p l e R s m args below meth c Q z0 dC dI dA sp xs A nL (fun cs => zk_code o cc nL rt ini jt cs = true) kk) (hV : zk_code o cc nL rt ini jt r = true) (hH : ze_H z0 dC dI dA sp xs A s nL ls st w g ρ ws H locs la vs) (hr : zk_j (.ifCond .ge f9) f9 o cc nL rt ini jt pc ca cb cd tl r = true) (h : zo_b1 zc_ge r ca cb cd tl (ze_jp jt) kk k cal mc ms ls st w g nc ns = true) : W p l e R s m args below meth c H locs nc ns Q (F0 m pc la vs) := by
  obtain ⟨hZ, hx, hb, hml, hown, hKs, hsc, hA, hts, hR, hRd, hin, hcal, hjt⟩ := hF
  obtain ⟨h1, h3⟩ := zk_and hr
  obtain ⟨h1, h2⟩ := zk_and h1
  have hd := zk_dec h1
  have hn := zk_nx hV h2
  obtain ⟨tgt, ht1, ht2⟩ := zk_to hjt h3
  exact zs_b1 zc_ge_ok hK hn ht2 h hH (fun x rest kt kf => lv_if_ge hx hb hd ht1 kt kf)

theorem zz_icmp_ge {f9 : Int} (hF : ze_Fx p l R s m args meth c dC dI dA sp xs A o nL d cc rt ini jt cal mc ms) (hK : ze_KK p l e R s m args below meth c Q z0 dC dI dA sp xs A nL (fun cs => zk_code o cc nL rt ini jt cs = true) kk) (hV : zk_code o cc nL rt ini jt r = true) (hH : ze_H z0 dC dI dA sp xs A s nL ls st w g ρ ws H locs la vs) (hr : zk_j (.if_icmp .ge f9) f9 o cc nL rt ini jt pc ca cb cd tl r = true) (h : zo_b2 zc_ge r ca cb cd tl (ze_jp jt) kk k cal mc ms ls st w g nc ns = true) : W p l e R s m args below meth c H locs nc ns Q (F0 m pc la vs) := by
  obtain ⟨hZ, hx, hb, hml, hown, hKs, hsc, hA, hts, hR, hRd, hin, hcal, hjt⟩ := hF
  obtain ⟨h1, h3⟩ := zk_and hr
  obtain ⟨h1, h2⟩ := zk_and h1
  have hd := zk_dec h1
  have hn := zk_nx hV h2
  obtain ⟨tgt, ht1, ht2⟩ := zk_to hjt h3
  exact zs_b2 zc_ge_ok hK hn ht2 h hH (fun x y rest kt kf => lv_icmp_ge hx hb hd ht1 kt kf)

theorem zz_if_gt {f9 : Int} (hF : ze_Fx p l R s m args meth c dC dI dA sp xs A o nL d cc rt ini jt cal mc ms) (hK : ze_KK p l e R s m args below meth c Q z0 dC dI dA sp xs A nL (fun cs => zk_code o cc nL rt ini jt cs = true) kk) (hV : zk_code o cc nL rt ini jt r = true) (hH : ze_H z0 dC dI dA sp xs A s nL ls st w g ρ ws H locs la vs) (hr : zk_j (.ifCond .gt f9) f9 o cc nL rt ini jt pc ca cb cd tl r = true) (h : zo_b1 zc_gt r ca cb cd tl (ze_jp jt) kk k cal mc ms ls st w g nc ns = true) : W p l e R s m args below meth c H locs nc ns Q (F0 m pc la vs) := by
  obtain ⟨hZ, hx, hb, hml, hown, hKs, hsc, hA, hts, hR, hRd, hin, hcal, hjt⟩ := hF
  obtain ⟨h1, h3⟩ := zk_and hr
  obtain ⟨h1, h2⟩ := zk_and h1
  have hd := zk_dec h1
  have hn := zk_nx hV h2
  obtain ⟨tgt, ht1, ht2⟩ := zk_to hjt h3
  exact zs_b1 zc_gt_ok hK hn ht2 h hH (fun x rest kt kf => lv_if_gt hx hb hd ht1 kt kf)

theorem zz_icmp_gt {f9 : Int} (hF : ze_Fx p l R s m args meth c dC dI dA sp xs A o nL d cc rt ini jt cal mc ms) (hK : ze_KK p l e R s m args below meth c Q z0 dC dI dA sp xs A nL (fun cs => zk_code o cc nL rt ini jt cs = true) kk) (hV : zk_code o cc nL rt ini jt r = true) (hH : ze_H z0 dC dI dA sp xs A s nL ls st w g ρ ws H locs la vs) (hr : zk_j (.if_icmp .gt f9) f9 o cc nL rt ini jt pc ca cb cd tl r = true) (h : zo_b2 zc_gt r ca cb cd tl (ze_jp jt) kk k cal mc ms ls st w g nc ns = true) : W p l e R s m args below meth c H locs nc ns Q (F0 m pc la vs) := by
  obtain ⟨hZ, hx, hb, hml, hown, hKs, hsc, hA, hts, hR, hRd, hin, hcal, hjt⟩ := hF
  obtain ⟨h1, h3⟩ := zk_and hr
  obtain ⟨h1, h2⟩ := zk_and h1
  have hd := zk_dec h1
  have hn := zk_nx hV h2
  obtain ⟨tgt, ht1, ht2⟩ := zk_to hjt h3
  exact zs_b2 zc_gt_ok hK hn ht2 h hH (fun x y rest kt kf => lv_icmp_gt hx hb hd ht1 kt kf)

theorem zz_if_le {f9 : Int} (hF : ze_Fx p l R s m args meth c dC dI dA sp xs A o nL d cc rt ini jt cal mc ms) (hK : ze_KK p l e R s m args below meth c Q z0 dC dI dA sp xs A nL (fun cs => zk_code o cc nL rt ini jt cs = true) kk) (hV : zk_code o cc nL rt ini jt r = true) (hH : ze_H z0 dC dI dA sp xs A s nL ls st w g ρ ws H locs la vs) (hr : zk_j (.ifCond .le f9) f9 o cc nL rt ini jt pc ca cb cd tl r = true) (h : zo_b1 zc_le r ca cb cd tl (ze_jp jt) kk k cal mc ms ls st w g nc ns = true) : W p l e R s m args below meth c H locs nc ns Q (F0 m pc la vs) := by
  obtain ⟨hZ, hx, hb, hml, hown, hKs, hsc, hA, hts, hR, hRd, hin, hcal, hjt⟩ := hF
  obtain ⟨h1, h3⟩ := zk_and hr
  obtain ⟨h1, h2⟩ := zk_and h1
  have hd := zk_dec h1
  have hn := zk_nx hV h2
  obtain ⟨tgt, ht1, ht2⟩ := zk_to hjt h3
  exact zs_b1 zc_le_ok hK hn ht2 h hH (fun x rest kt kf => lv_if_le hx hb hd ht1 kt kf)

theorem zz_icmp_le {f9 : Int} (hF : ze_Fx p l R s m args meth c dC dI dA sp xs A o nL d cc rt ini jt cal mc ms) (hK : ze_KK p l e R s m args below meth c Q z0 dC dI dA sp xs A nL (fun cs => zk_code o cc nL rt ini jt cs = true) kk) (hV : zk_code o cc nL rt ini jt r = true) (hH : ze_H z0 dC dI dA sp xs A s nL ls st w g ρ ws H locs la vs) (hr : zk_j (.if_icmp .le f9) f9 o cc nL rt ini jt pc ca cb cd tl r = true) (h : zo_b2 zc_le r ca cb cd tl (ze_jp jt) kk k cal mc ms ls st w g nc ns = true) : W p l e R s m args below meth c H locs nc ns Q (F0 m pc la vs) := by
  obtain ⟨hZ, hx, hb, hml, hown, hKs, hsc, hA, hts, hR, hRd, hin, hcal, hjt⟩ := hF
  obtain ⟨h1, h3⟩ := zk_and hr
  obtain ⟨h1, h2⟩ := zk_and h1
  have hd := zk_dec h1
  have hn := zk_nx hV h2
  obtain ⟨tgt, ht1, ht2⟩ := zk_to hjt h3
  exact zs_b2 zc_le_ok hK hn ht2 h hH (fun x y rest kt kf => lv_icmp_le hx hb hd ht1 kt kf)

theorem zz_ifnull {f9 : Int} (hF : ze_Fx p l R s m args meth c dC dI dA sp xs A o nL d cc rt ini jt cal mc ms) (hK : ze_KK p l e R s m args below meth c Q z0 dC dI dA sp xs A nL (fun cs => zk_code o cc nL rt ini jt cs = true) kk) (hV : zk_code o cc nL rt ini jt r = true) (hH : ze_H z0 dC dI dA sp xs A s nL ls st w g ρ ws H locs la vs) (hr : zk_j (.ifnull f9) f9 o cc nL rt ini jt pc ca cb cd tl r = true) (h : zo_ifnull r ca cb cd tl (ze_jp jt) kk k cal mc ms ls st w g nc ns = true) : W p l e R s m args below meth c H locs nc ns Q (F0 m pc la vs) := by
  obtain ⟨hZ, hx, hb, hml, hown, hKs, hsc, hA, hts, hR, hRd, hin, hcal, hjt⟩ := hF
  obtain ⟨h1, h3⟩ := zk_and hr
  obtain ⟨h1, h2⟩ := zk_and h1
  have hd := zk_dec h1
  have hn := zk_nx hV h2
  obtain ⟨tgt, ht1, ht2⟩ := zk_to hjt h3
  exact zs_ifnull hK hn ht2 h hH (fun x rest k9 => lv_ifnull hx hb hd k9) (fun rest k9 => lv_ifnullN hx hb hd ht1 k9)

theorem zz_ifnonnull {f9 : Int} (hF : ze_Fx p l R s m args meth c dC dI dA sp xs A o nL d cc rt ini jt cal mc ms) (hK : ze_KK p l e R s m args below meth c Q z0 dC dI dA sp xs A nL (fun cs => zk_code o cc nL rt ini jt cs = true) kk) (hV : zk_code o cc nL rt ini jt r = true) (hH : ze_H z0 dC dI dA sp xs A s nL ls st w g ρ ws H locs la vs) (hr : zk_j (.ifnonnull f9) f9 o cc nL rt ini jt pc ca cb cd tl r = true) (h : zo_ifnonnull r ca cb cd tl (ze_jp jt) kk k cal mc ms ls st w g nc ns = true) : W p l e R s m args below meth c H locs nc ns Q (F0 m pc la vs) := by
  obtain ⟨hZ, hx, hb, hml, hown, hKs, hsc, hA, hts, hR, hRd, hin, hcal, hjt⟩ := hF
  obtain ⟨h1, h3⟩ := zk_and hr
  obtain ⟨h1, h2⟩ := zk_and h1
  have hd := zk_dec h1
  have hn := zk_nx hV h2
  obtain ⟨tgt, ht1, ht2⟩ := zk_to hjt h3
  exact zs_ifnonnull hK hn ht2 h hH (fun x rest k9 => lv_ifnonnull hx hb hd ht1 k9) (fun rest k9 => lv_ifnonnullN hx hb hd k9)

theorem zz_tableswitch {d9 lo hi : Int} {offs : Array Int} (hF : ze_Fx p l R s m args meth c dC dI dA sp xs A o nL d cc rt ini jt cal mc ms) (hK : ze_KK p l e R s m args below meth c Q z0 dC dI dA sp xs A nL (fun cs => zk_code o cc nL rt ini jt cs = true) kk) (hV : zk_code o cc nL rt ini jt r = true) (hH : ze_H z0 dC dI dA sp xs A s nL ls st w g ρ ws H locs la vs) (hr : zk_ts d9 lo hi offs o cc nL rt ini jt pc ca cb cd tl r = true) (h : zo_sw r ca cb cd tl (ze_jp jt) kk k cal mc ms ls st w g nc ns = true) : W p l e R s m args below meth c H locs nc ns Q (F0 m pc la vs) := by
  obtain ⟨hZ, hx, hb, hml, hown, hKs, hsc, hA, hts, hR, hRd, hin, hcal, hjt⟩ := hF
  obtain ⟨h1, h4⟩ := zk_and hr
  obtain ⟨h1, h3⟩ := zk_and h1
  obtain ⟨h1, h2⟩ := zk_and h1
  obtain ⟨len, hd⟩ := zk_dex h1
  have h3 := of_decide_eq_true h3
  refine zs_sw hK h hH (fun x rest => ?_)
  have e7 : (ze_b x : Int) - 2147483648 = x.toInt := by
    have := ze_b_int x
    omega
  obtain ⟨k1, k2⟩ := zk_ttok (a := ca) (z := ze_b x) hjt offs.toList lo tl h4
  rw [e7] at k1 k2
  by_cases hi9 : x.toInt < lo ∨ hi < x.toInt
  · obtain ⟨tgt, ht1, ht2⟩ := zk_to hjt h2
    refine ⟨tgt, ?_, fun k9 => lv_tableOut hx hb hd hi9 ht1 k9⟩
    rw [k1 (by omega)]
    exact ht2
  · obtain ⟨off, j1, j2⟩ := k2 (by omega) (by omega)
    obtain ⟨tgt, ht1, ht2⟩ := zk_to hjt j2
    refine ⟨tgt, ht2, fun k9 => lv_tableIn hx hb hd (by omega) (by omega) (off := off) ?_ ht1 k9⟩
    rw [← Array.getElem?_toList]
    exact j1

theorem zz_lookupswitch {d9 : Int} {ps : Array (Int × Int)} (hF : ze_Fx p l R s m args meth c dC dI dA sp xs A o nL d cc rt ini jt cal mc ms) (hK : ze_KK p l e R s m args below meth c Q z0 dC dI dA sp xs A nL (fun cs => zk_code o cc nL rt ini jt cs = true) kk) (hV : zk_code o cc nL rt ini jt r = true) (hH : ze_H z0 dC dI dA sp xs A s nL ls st w g ρ ws H locs la vs) (hr : zk_ls d9 ps o cc nL rt ini jt pc ca cb cd tl r = true) (h : zo_sw r ca cb cd tl (ze_jp jt) kk k cal mc ms ls st w g nc ns = true) : W p l e R s m args below meth c H locs nc ns Q (F0 m pc la vs) := by
  obtain ⟨hZ, hx, hb, hml, hown, hKs, hsc, hA, hts, hR, hRd, hin, hcal, hjt⟩ := hF
  obtain ⟨h1, h4⟩ := zk_and hr
  obtain ⟨h1, h3⟩ := zk_and h1
  obtain ⟨h1, h2⟩ := zk_and h1
  obtain ⟨len, hd⟩ := zk_dex h1
  refine zs_sw hK h hH (fun x rest => ?_)
  obtain ⟨tgt, ht1, ht2⟩ := zk_to hjt (zk_ltok (x := x) h2 ps.toList tl h4)
  exact ⟨tgt, ht2, fun k9 => lv_lookup hx hb hd h3 rfl ht1 k9⟩

theorem zz_getfield {n9 : Nat} (hF : ze_Fx p l R s m args meth c dC dI dA sp xs A o nL d cc rt ini jt cal mc ms) (hK : ze_KK p l e R s m args below meth c Q z0 dC dI dA sp xs A nL (fun cs => zk_code o cc nL rt ini jt cs = true) kk) (hV : zk_code o cc nL rt ini jt r = true) (hH : ze_H z0 dC dI dA sp xs A s nL ls st w g ρ ws H locs la vs) (hr : zk_gf n9 o cc nL rt ini jt pc ca cb cd tl r = true) (h : zo_getf r ca cb cd tl (ze_jp jt) kk k cal mc ms ls st w g nc ns = true) : W p l e R s m args below meth c H locs nc ns Q (F0 m pc la vs) := by
  obtain ⟨hZ, hx, hb, hml, hown, hKs, hsc, hA, hts, hR, hRd, hin, hcal, hjt⟩ := hF
  obtain ⟨h1, h3⟩ := zk_and hr
  obtain ⟨h1, h2⟩ := zk_and h1
  have hd := zk_dec h1
  have hn := zk_nx hV h2
  have h3 := of_decide_eq_true h3
  obtain ⟨C, T, N, q1, q2, q3⟩ := hZ.2.2.1 o n9 ca cb h3
  exact zs_getf hx hb hown hKs hts hZ.1 hK q1 q2 q3 hd hn h hH

theorem zz_putfield {n9 : Nat} (hF : ze_Fx p l R s m args meth c dC dI dA sp xs A o nL d cc rt ini jt cal mc ms) (hK : ze_KK p l e R s m args below meth c Q z0 dC dI dA sp xs A nL (fun cs => zk_code o cc nL rt ini jt cs = true) kk) (hV : zk_code o cc nL rt ini jt r = true) (hH : ze_H z0 dC dI dA sp xs A s nL ls st w g ρ ws H locs la vs) (hr : zk_pf n9 o cc nL rt ini jt pc ca cb cd tl r = true) (h : zo_putf r ca cb cd tl (ze_jp jt) kk k cal mc ms ls st w g nc ns = true) : W p l e R s m args below meth c H locs nc ns Q (F0 m pc la vs) := by
  obtain ⟨hZ, hx, hb, hml, hown, hKs, hsc, hA, hts, hR, hRd, hin, hcal, hjt⟩ := hF
  obtain ⟨h1, h3⟩ := zk_and hr
  obtain ⟨h1, h2⟩ := zk_and h1
  have hd := zk_dec h1
  have hn := zk_nx hV h2
  rcases zk_or h3 with h3 | h3
  · have h3 := of_decide_eq_true h3
    obtain ⟨C, T, N, ty, q1, q2, q3, q4, q5⟩ := hZ.2.2.2.1 o n9 ca cb cd 0 h3
    rcases q5 with ⟨-, q5, q6⟩ | ⟨q5, -⟩
    · exact zs_putf hx hb hown hKs hts hZ.1 hK q1 q2 q3 q4 (Or.inl ⟨q5, q6⟩) hd hn h hH
    · cases q5
  · obtain ⟨h5, h3⟩ := zk_and h3
    have h3 := of_decide_eq_true h3
    obtain ⟨C, T, N, ty, q1, q2, q3, q4, q5⟩ := hZ.2.2.2.1 o n9 ca cb cd 1 h3
    rcases q5 with ⟨q5, -⟩ | ⟨-, q5, q6, q7⟩
    · cases q5
    · exact zs_putf hx hb hown hKs hts hZ.1 hK q1 q2 q3 q4 (Or.inr ⟨q5, hin h5, q6, q7⟩) hd hn h hH

theorem zz_new {n9 : Nat} (hF : ze_Fx p l R s m args meth c dC dI dA sp xs A o nL d cc rt ini jt cal mc ms) (hK : ze_KK p l e R s m args below meth c Q z0 dC dI dA sp xs A nL (fun cs => zk_code o cc nL rt ini jt cs = true) kk) (hV : zk_code o cc nL rt ini jt r = true) (hH : ze_H z0 dC dI dA sp xs A s nL ls st w g ρ ws H locs la vs) (hr : zk_nw n9 o cc nL rt ini jt pc ca cb cd tl r = true) (h : zo_new r ca cb cd tl (ze_jp jt) kk k cal mc ms ls st w g nc ns = true) : W p l e R s m args below meth c H locs nc ns Q (F0 m pc la vs) := by
  obtain ⟨hZ, hx, hb, hml, hown, hKs, hsc, hA, hts, hR, hRd, hin, hcal, hjt⟩ := hF
  obtain ⟨h1, h3⟩ := zk_and hr
  obtain ⟨h1, h2⟩ := zk_and h1
  have hd := zk_dec h1
  have hn := zk_nx hV h2
  have h3 := of_decide_eq_true h3
  obtain ⟨C, T, N, q1, q2, q3, q4, q5, q6⟩ := hZ.2.2.2.2.1 o n9 ca tl h3
  exact zs_new hx hb hown hR hKs hA hts hZ.1 q1 q2 q3 q4 q5 q6 hd hK hn h hH

theorem zz_newarray {t9 : ArrayType} (hF : ze_Fx p l R s m args meth c dC dI dA sp xs A o nL d cc rt ini jt cal mc ms) (hK : ze_KK p l e R s m args below meth c Q z0 dC dI dA sp xs A nL (fun cs => zk_code o cc nL rt ini jt cs = true) kk) (hV : zk_code o cc nL rt ini jt r = true) (hH : ze_H z0 dC dI dA sp xs A s nL ls st w g ρ ws H locs la vs) (hr : zk_na t9 o cc nL rt ini jt pc ca cb cd tl r = true) (h : zo_newa r ca cb cd tl (ze_jp jt) kk k cal mc ms ls st w g nc ns = true) : W p l e R s m args below meth c H locs nc ns Q (F0 m pc la vs) := by
  obtain ⟨hZ, hx, hb, hml, hown, hKs, hsc, hA, hts, hR, hRd, hin, hcal, hjt⟩ := hF
  obtain ⟨h1, h3⟩ := zk_and hr
  obtain ⟨h1, h2⟩ := zk_and h1
  have hd := zk_dec h1
  have hn := zk_nx hV h2
  obtain ⟨w1, w2, w3, w4⟩ := hZ.2.2.2.2.2.2.2.2.2.2.2.2.2.1
  cases t9 with
  | int =>
    obtain ⟨h4, h5⟩ := zk_and h3
    have h4 := of_decide_eq_true h4
    have h5 := of_decide_eq_true h5
    subst h4; subst h5
    exact zs_newi (atype := .int) hx hb hR hKs hA hts ze_a0 w1 (by decide) (by decide) rfl rfl (by decide) (fun cA q => Option.some.inj ((show s.vm.findClass _ = some cA from q).symm.trans (hKs.2.1 100 .int ze_a0).2)) hd hK hn h hH
  | char =>
    obtain ⟨h4, h5⟩ := zk_and h3
    have h4 := of_decide_eq_true h4
    have h5 := of_decide_eq_true h5
    subst h4; subst h5
    exact zs_newi (atype := .char) hx hb hR hKs hA hts ze_a1 w2 (by decide) (by decide) rfl rfl (by decide) (fun cA q => Option.some.inj ((show s.vm.findClass _ = some cA from q).symm.trans (hKs.2.1 101 .char ze_a1).2)) hd hK hn h hH
  | boolean =>
    obtain ⟨h4, h5⟩ := zk_and h3
    have h4 := of_decide_eq_true h4
    have h5 := of_decide_eq_true h5
    subst h4; subst h5
    exact zs_newi (atype := .boolean) hx hb hR hKs hA hts ze_a4 w3 (by decide) (by decide) rfl rfl (by decide) (fun cA q => Option.some.inj ((show s.vm.findClass _ = some cA from q).symm.trans (hKs.2.1 104 .boolean ze_a4).2)) hd hK hn h hH
  | long =>
    obtain ⟨h4, h5⟩ := zk_and h3
    exact zs_newl hx hb hR hKs hA hts (of_decide_eq_true h4) (of_decide_eq_true h5) ze_a5 w4 hd hK hn h hH
  | float => cases h3
  | double => cases h3
  | byte => cases h3
  | short => cases h3

theorem zz_anewarray {n9 : Nat} (hF : ze_Fx p l R s m args meth c dC dI dA sp xs A o nL d cc rt ini jt cal mc ms) (hK : ze_KK p l e R s m args below meth c Q z0 dC dI dA sp xs A nL (fun cs => zk_code o cc nL rt ini jt cs = true) kk) (hV : zk_code o cc nL rt ini jt r = true) (hH : ze_H z0 dC dI dA sp xs A s nL ls st w g ρ ws H locs la vs) (hr : zk_aa n9 o cc nL rt ini jt pc ca cb cd tl r = true) (h : zo_newa r ca cb cd tl (ze_jp jt) kk k cal mc ms ls st w g nc ns = true) : W p l e R s m args below meth c H locs nc ns Q (F0 m pc la vs) := by
  obtain ⟨hZ, hx, hb, hml, hown, hKs, hsc, hA, hts, hR, hRd, hin, hcal, hjt⟩ := hF
  obtain ⟨h1, h4⟩ := zk_and hr
  obtain ⟨h1, h3⟩ := zk_and h1
  obtain ⟨h1, h2⟩ := zk_and h1
  have hd := zk_dec h1
  have hn := zk_nx hV h2
  have h3 := of_decide_eq_true h3
  have h4 := of_decide_eq_true h4
  obtain ⟨q1, q2⟩ := hZ.2.2.2.2.2.1 o n9 ca h3
  subst q1
  exact zs_newq hx hb hown hR hKs hA hts (by decide) h4 ze_a9 q2 (by decide) hd hK hn h hH

theorem zz_invokevirtual {n9 : Nat} (hF : ze_Fx p l R s m args meth c dC dI dA sp xs A o nL d cc rt ini jt cal mc ms) (hK : ze_KK p l e R s m args below meth c Q z0 dC dI dA sp xs A nL (fun cs => zk_code o cc nL rt ini jt cs = true) kk) (hV : zk_code o cc nL rt ini jt r = true) (hH : ze_H z0 dC dI dA sp xs A s nL ls st w g ρ ws H locs la vs) (hr : zk_iv n9 o cc nL rt ini jt pc ca cb cd tl r = true) (h : zo_inv r ca cb cd tl (ze_jp jt) kk k cal mc ms ls st w g nc ns = true) : W p l e R s m args below meth c H locs nc ns Q (F0 m pc la vs) := by
  obtain ⟨hZ, hx, hb, hml, hown, hKs, hsc, hA, hts, hR, hRd, hin, hcal, hjt⟩ := hF
  obtain ⟨h1, h3⟩ := zk_and hr
  obtain ⟨h1, h2⟩ := zk_and h1
  have hd := zk_dec h1
  have hn := zk_nx hV h2
  have h3 := of_decide_eq_true h3
  obtain ⟨q, ci, T, N, nb, q1, q2, q3, q4, q5, ⟨q6, q7, q8, q9⟩, q10, q11, q12⟩ := hZ.2.2.2.2.2.2.2.2.1 o n9 ca cb cd tl h3
  subst q2; subst q3; subst q4
  exact zs_invV (tl := []) (jp := ze_jp jt) (ca := 0) (cb := 0) (cd := 0) (k := k) hx hb hml hown hKs hsc hA hts hZ.1 hR hRd (hcal ca q q1) q5 q6 q7 q10 q11 q8 q9 q12 hd hK hn h hH

theorem zz_invokestatic {n9 : Nat} (hF : ze_Fx p l R s m args meth c dC dI dA sp xs A o nL d cc rt ini jt cal mc ms) (hK : ze_KK p l e R s m args below meth c Q z0 dC dI dA sp xs A nL (fun cs => zk_code o cc nL rt ini jt cs = true) kk) (hV : zk_code o cc nL rt ini jt r = true) (hH : ze_H z0 dC dI dA sp xs A s nL ls st w g ρ ws H locs la vs) (hr : zk_is n9 o cc nL rt ini jt pc ca cb cd tl r = true) (h : zo_stat r ca cb cd tl (ze_jp jt) kk k cal mc ms ls st w g nc ns = true) : W p l e R s m args below meth c H locs nc ns Q (F0 m pc la vs) := by
  obtain ⟨hZ, hx, hb, hml, hown, hKs, hsc, hA, hts, hR, hRd, hin, hcal, hjt⟩ := hF
  obtain ⟨h1, h3⟩ := zk_and hr
  obtain ⟨h1, h2⟩ := zk_and h1
  have hd := zk_dec h1
  have hn := zk_nx hV h2
  rcases zk_or h3 with h3 | h3
  rcases zk_or h3 with h3 | h3
  · have h3 := of_decide_eq_true h3
    obtain ⟨q, q1, q2, q4, ⟨q6, q7, q8, q9⟩, q10, q12⟩ := hZ.2.2.2.2.2.2.2.2.2.1 o n9 ca cb cd tl h3
    subst q2; subst q4
    exact zs_invS (tl := []) (jp := ze_jp jt) (ca := 0) (cb := 0) (cd := 0) (k := k) hx hb hml hown hKs hsc hA hts hR hRd (hcal ca q q1) q6 q7 q10 q8 q9 q12 hd hK hn h hH
  · obtain ⟨h4, h5⟩ := zk_and h3
    have h4 := of_decide_eq_true h4
    have h5 := of_decide_eq_true h5
    subst h4
    obtain ⟨w1, w2, w3, w4⟩ := hZ.2.2.2.2.2.2.2.2.2.2.2.2.1
    exact zs_copy hx hb hml hown hKs hts ze_a0 ⟨by omega, by omega⟩ (w1 o n9 h5) w2 w3 w4 hd hK hn h hH
  · obtain ⟨h4, h5⟩ := zk_and h3
    have h4 := of_decide_eq_true h4
    have h5 := of_decide_eq_true h5
    subst h4
    obtain ⟨w1, w2, w3, w4, w5, w6⟩ := hZ.2.2.2.2.2.2.2.2.2.2.2.2.2.2
    rcases w1 o n9 ca h5 with ⟨e9, w1⟩ | ⟨e9, w1⟩
    · subst e9
      exact zs_mmax (tl := [0]) (jp := ze_jp jt) (cb := cb) (cd := cd) (k := k) hx hb hml hown hts hR ⟨by omega, by omega⟩ w1 w2 w4 w5 hd hK hn (show zo_mm r 0 cb cd [0] (ze_jp jt) kk k cal mc ms ls st w g nc ns = true from h) hH
    · subst e9
      exact zs_mmin (tl := [0]) (jp := ze_jp jt) (cb := cb) (cd := cd) (k := k) hx hb hml hown hts hR ⟨by omega, by omega⟩ w1 w3 w4 w6 hd hK hn (show zo_mm r 1 cb cd [0] (ze_jp jt) kk k cal mc ms ls st w g nc ns = true from h) hH

theorem zz_invokespecial {n9 : Nat} (hF : ze_Fx p l R s m args meth c dC dI dA sp xs A o nL d cc rt ini jt cal mc ms) (hK : ze_KK p l e R s m args below meth c Q z0 dC dI dA sp xs A nL (fun cs => zk_code o cc nL rt ini jt cs = true) kk) (hV : zk_code o cc nL rt ini jt r = true) (hH : ze_H z0 dC dI dA sp xs A s nL ls st w g ρ ws H locs la vs) (hr : zk_ip n9 o cc nL rt ini jt pc ca cb cd tl r = true) (h : zo_spec r ca cb cd tl (ze_jp jt) kk k cal mc ms ls st w g nc ns = true) : W p l e R s m args below meth c H locs nc ns Q (F0 m pc la vs) := by
  obtain ⟨hZ, hx, hb, hml, hown, hKs, hsc, hA, hts, hR, hRd, hin, hcal, hjt⟩ := hF
  obtain ⟨h1, h3⟩ := zk_and hr
  obtain ⟨h1, h2⟩ := zk_and h1
  have hd := zk_dec h1
  have hn := zk_nx hV h2
  rcases zk_or h3 with h3 | h3
  · have h3 := of_decide_eq_true h3
    obtain ⟨q, nb, q1, q2, q3, q4, ⟨q6, q7, q8, q9⟩, q13, q14, q10, q12⟩ := hZ.2.2.2.2.2.2.2.2.2.2.1 o n9 ca cb cd tl h3
    subst q2; subst q3; subst q4
    obtain ⟨h5, h6⟩ := ze_condf (show cond (ze_rr nb st) (zo_call ca (nb + 1) 0 q.2.2.2.2.2.1 q.2.2.2.2.2.2 r ca (nb + 1) 0 [q.2.2.2.2.2.1, q.2.2.2.2.2.2] (ze_jp jt) kk k cal mc ms ls st w g nc ns) false = true from h)
    have hc9 := hcal ca q q1
    rw [q13] at hc9 q7
    exact zs_invI (tl := []) (jp := ze_jp jt) (ca := 0) (cb := 0) (cd := 0) (k := k) hx hb hml hown hKs hsc hA hts hR hRd hc9 q6 q7 q10 q8 q14 q9 q12 hd hK hn h6 (fun pop rest e1 e2 => ze_rr_spec nb st pop rest h5 e1 e2) hH
  · obtain ⟨h4, h5⟩ := zk_and h3
    have h4 := of_decide_eq_true h4
    have h5 := of_decide_eq_true h5
    subst h4
    obtain ⟨w1, w2, w3⟩ := hZ.2.2.2.2.2.2.2.2.2.2.2.1
    exact zs_objInit hx hb hml hown hts ⟨by omega, by omega⟩ (w1 o n9 h5) w2 w3 hd hK hn h hH

theorem zz_ireturn  (hE : ze_Re p l e R s m args below meth c Q z0 dC dI dA sp xs A nL cc rt k mc ms) (hF : ze_Fx p l R s m args meth c dC dI dA sp xs A o nL d cc rt ini jt cal mc ms) (hK : ze_KK p l e R s m args below meth c Q z0 dC dI dA sp xs A nL (fun cs => zk_code o cc nL rt ini jt cs = true) kk) (hV : zk_code o cc nL rt ini jt r = true) (hH : ze_H z0 dC dI dA sp xs A s nL ls st w g ρ ws H locs la vs) (hr : zk_ir o cc nL rt ini jt pc ca cb cd tl r = true) (h : zo_ireturn r ca cb cd tl (ze_jp jt) kk k cal mc ms ls st w g nc ns = true) : W p l e R s m args below meth c H locs nc ns Q (F0 m pc la vs) := by
  obtain ⟨hZ, hx, hb, hml, hown, hKs, hsc, hA, hts, hR, hRd, hin, hcal, hjt⟩ := hF
  obtain ⟨h1, h2⟩ := zk_and hr
  have hd := zk_dec h1
  rcases st with _ | ⟨v, t⟩
  · cases h
  rcases t with _ | ⟨v2, t⟩
  · rcases v with u | u
    · obtain ⟨c1, c2⟩ := ze_condf (show cond (ze_tc ca (.inl u)) (ze_end nc ns mc ms (k (some (.inl u)) w g)) false = true from h)
      obtain ⟨c3, c4, c5⟩ := ze_end_ok c2
      obtain ⟨y1, r1, e1, V1, L1⟩ := hH.2.2.2.2.2.2.2.cons
      rw [L1.nil] at e1
      obtain ⟨z, ez⟩ := ze_intV V1
      subst ez
      have hty : ∃ ty, rt = some ty ∧ ze_ty ca ty := by
        unfold zk_rt at h2
        split at h2
        · exact ⟨_, rfl, Or.inl ⟨of_decide_eq_true h2, rfl⟩⟩
        · exact ⟨_, rfl, Or.inr (Or.inl ⟨of_decide_eq_true h2, rfl⟩)⟩
        · exact ⟨_, rfl, Or.inr (Or.inr (Or.inr (Or.inr (Or.inr ⟨of_decide_eq_true h2, rfl⟩))))⟩
        · cases h2
      obtain ⟨ty, hr1, hr2⟩ := hty
      exact (hE pc nc ns ls _ w g ρ ws H locs la vs hH c3 c4).1 u z ty rfl e1 c5 hd hr1 (ze_fit hr2 c1 V1).1
    · cases h
  · cases h

theorem zz_lreturn  (hE : ze_Re p l e R s m args below meth c Q z0 dC dI dA sp xs A nL cc rt k mc ms) (hF : ze_Fx p l R s m args meth c dC dI dA sp xs A o nL d cc rt ini jt cal mc ms) (hK : ze_KK p l e R s m args below meth c Q z0 dC dI dA sp xs A nL (fun cs => zk_code o cc nL rt ini jt cs = true) kk) (hV : zk_code o cc nL rt ini jt r = true) (hH : ze_H z0 dC dI dA sp xs A s nL ls st w g ρ ws H locs la vs) (hr : zk_lr o cc nL rt ini jt pc ca cb cd tl r = true) (h : zo_lreturn r ca cb cd tl (ze_jp jt) kk k cal mc ms ls st w g nc ns = true) : W p l e R s m args below meth c H locs nc ns Q (F0 m pc la vs) := by
  obtain ⟨hZ, hx, hb, hml, hown, hKs, hsc, hA, hts, hR, hRd, hin, hcal, hjt⟩ := hF
  obtain ⟨h1, h2⟩ := zk_and hr
  have hd := zk_dec h1
  have h2 := of_decide_eq_true h2
  rcases st with _ | ⟨v, t⟩
  · cases h
  rcases t with _ | ⟨v2, t⟩
  · rcases v with u | ((q | u) | x)
    · cases h
    · cases h
    · obtain ⟨c3, c4, c5⟩ := ze_end_ok (show ze_end nc ns mc ms (k (some (.inr (.inl (.inr u)))) w g) = true from h)
      obtain ⟨y1, r1, e1, V1, L1⟩ := hH.2.2.2.2.2.2.2.cons
      rw [L1.nil] at e1
      obtain ⟨z, ez⟩ := ze_longV V1
      subst ez
      exact (hE pc nc ns ls _ w g ρ ws H locs la vs hH c3 c4).2.1 u z rfl e1 c5 hd h2
    · cases h
  · cases h

theorem zz_areturn  (hE : ze_Re p l e R s m args below meth c Q z0 dC dI dA sp xs A nL cc rt k mc ms) (hF : ze_Fx p l R s m args meth c dC dI dA sp xs A o nL d cc rt ini jt cal mc ms) (hK : ze_KK p l e R s m args below meth c Q z0 dC dI dA sp xs A nL (fun cs => zk_code o cc nL rt ini jt cs = true) kk) (hV : zk_code o cc nL rt ini jt r = true) (hH : ze_H z0 dC dI dA sp xs A s nL ls st w g ρ ws H locs la vs) (hr : zk_ar o cc nL rt ini jt pc ca cb cd tl r = true) (h : zo_areturn r ca cb cd tl (ze_jp jt) kk k cal mc ms ls st w g nc ns = true) : W p l e R s m args below meth c H locs nc ns Q (F0 m pc la vs) := by
  obtain ⟨hZ, hx, hb, hml, hown, hKs, hsc, hA, hts, hR, hRd, hin, hcal, hjt⟩ := hF
  obtain ⟨h1, h2⟩ := zk_and hr
  have hd := zk_dec h1
  have hty : ∃ ty, rt = some ty ∧ ((∃ n, ty = .object n) ∨ ∃ t, ty = FieldType.array t) := by
    split at h2
    · exact ⟨_, rfl, Or.inl ⟨_, rfl⟩⟩
    · exact ⟨_, rfl, Or.inr ⟨_, rfl⟩⟩
    · cases h2
  obtain ⟨ty, hr1, hr2⟩ := hty
  rcases st with _ | ⟨v, t⟩
  · cases h
  rcases t with _ | ⟨v2, t⟩
  · rcases v with u | ((q | u) | x)
    · cases h
    · obtain ⟨c3, c4, c5⟩ := ze_end_ok (show ze_end nc ns mc ms (k (some (.inr (.inl (.inl q)))) w g) = true from h)
      obtain ⟨y1, r1, e1, V1, L1⟩ := hH.2.2.2.2.2.2.2.cons
      rw [L1.nil] at e1
      obtain ⟨z, -, ez⟩ := id V1
      subst ez
      exact (hE pc nc ns ls _ w g ρ ws H locs la vs hH c3 c4).2.2.1 q z ty rfl e1 c5 hd hr1 hr2
    · cases h
    · cases h
  · cases h

theorem zz_return_  (hE : ze_Re p l e R s m args below meth c Q z0 dC dI dA sp xs A nL cc rt k mc ms) (hF : ze_Fx p l R s m args meth c dC dI dA sp xs A o nL d cc rt ini jt cal mc ms) (hK : ze_KK p l e R s m args below meth c Q z0 dC dI dA sp xs A nL (fun cs => zk_code o cc nL rt ini jt cs = true) kk) (hV : zk_code o cc nL rt ini jt r = true) (hH : ze_H z0 dC dI dA sp xs A s nL ls st w g ρ ws H locs la vs) (hr : zk_vr o cc nL rt ini jt pc ca cb cd tl r = true) (h : zo_return r ca cb cd tl (ze_jp jt) kk k cal mc ms ls st w g nc ns = true) : W p l e R s m args below meth c H locs nc ns Q (F0 m pc la vs) := by
  obtain ⟨hZ, hx, hb, hml, hown, hKs, hsc, hA, hts, hR, hRd, hin, hcal, hjt⟩ := hF
  obtain ⟨h1, h2⟩ := zk_and hr
  have hd := zk_dec h1
  have h2 := of_decide_eq_true h2
  rcases st with _ | ⟨v, t⟩
  · obtain ⟨c3, c4, c5⟩ := ze_end_ok (show ze_end nc ns mc ms (k none w g) = true from h)
    exact (hE pc nc ns ls _ w g ρ ws H locs la vs hH c3 c4).2.2.2 rfl hH.2.2.2.2.2.2.2.nil c5 hd h2
  · cases h

/-- a row -/
theorem ze_step {i : Jvm.ClassFile.Instr} (hE : ze_Re p l e R s m args below meth c Q z0 dC dI dA sp xs A nL cc rt k mc ms) (hF : ze_Fx p l R s m args meth c dC dI dA sp xs A o nL d cc rt ini jt cal mc ms) (hK : ze_KK p l e R s m args below meth c Q z0 dC dI dA sp xs A nL (fun cs => zk_code o cc nL rt ini jt cs = true) kk) (hV : zk_code o cc nL rt ini jt r = true) (hH : ze_H z0 dC dI dA sp xs A s nL ls st w g ρ ws H locs la vs) (hr : zk_do i o cc nL rt ini jt pc ca cb cd tl r = true) (h : ze_do i r ca cb cd tl (ze_jp jt) kk k cal mc ms ls st w g nc ns = true) : W p l e R s m args below meth c H locs nc ns Q (F0 m pc la vs) := by
  cases i with
  | aaload  => exact zz_aaload (ca := ca) (cb := cb) (cd := cd) (tl := tl) (k := k) hF hK hV hH hr h
  | aastore  => exact zz_aastore (ca := ca) (cb := cb) (cd := cd) (tl := tl) (k := k) hF hK hV hH hr h
  | aconst_null  => exact zz_aconst_null (ca := ca) (cb := cb) (cd := cd) (tl := tl) (k := k) hF hK hV hH hr h
  | aload x0 => exact zz_aload (ca := ca) (cb := cb) (cd := cd) (tl := tl) (k := k) hF hK hV hH hr h
  | aload_n x0 => exact zz_aload_n (ca := ca) (cb := cb) (cd := cd) (tl := tl) (k := k) hF hK hV hH hr h
  | anewarray x0 => exact zz_anewarray (ca := ca) (cb := cb) (cd := cd) (tl := tl) (k := k) hF hK hV hH hr h
  | areturn  => exact zz_areturn (ca := ca) (cb := cb) (cd := cd) (tl := tl) (k := k) hE hF hK hV hH hr h
  | arraylength  => exact zz_arraylength (ca := ca) (cb := cb) (cd := cd) (tl := tl) (k := k) hF hK hV hH hr h
  | astore x0 => exact zz_astore (ca := ca) (cb := cb) (cd := cd) (tl := tl) (k := k) hF hK hV hH hr h
  | astore_n x0 => exact zz_astore_n (ca := ca) (cb := cb) (cd := cd) (tl := tl) (k := k) hF hK hV hH hr h
  | athrow  => cases h
  | baload  => exact zz_baload (ca := ca) (cb := cb) (cd := cd) (tl := tl) (k := k) hF hK hV hH hr h
  | bastore  => exact zz_bastore (ca := ca) (cb := cb) (cd := cd) (tl := tl) (k := k) hF hK hV hH hr h
  | bipush x0 => exact zz_bipush (ca := ca) (cb := cb) (cd := cd) (tl := tl) (k := k) hF hK hV hH hr h
  | caload  => exact zz_caload (ca := ca) (cb := cb) (cd := cd) (tl := tl) (k := k) hF hK hV hH hr h
  | castore  => exact zz_castore (ca := ca) (cb := cb) (cd := cd) (tl := tl) (k := k) hF hK hV hH hr h
  | checkcast x0 => cases h
  | d2f  => cases h
  | d2i  => cases h
  | d2l  => cases h
  | dadd  => cases h
  | daload  => cases h
  | dastore  => cases h
  | dcmp x0 => cases h
  | dconst x0 => cases h
  | ddiv  => cases h
  | dload x0 => cases h
  | dload_n x0 => cases h
  | dmul  => cases h
  | dneg  => cases h
  | drem  => cases h
  | dreturn  => cases h
  | dstore x0 => cases h
  | dstore_n x0 => cases h
  | dsub  => cases h
  | dup  => exact zz_dup (ca := ca) (cb := cb) (cd := cd) (tl := tl) (k := k) hF hK hV hH hr h
  | dup_x1  => exact zz_dup_x1 (ca := ca) (cb := cb) (cd := cd) (tl := tl) (k := k) hF hK hV hH hr h
  | dup_x2  => exact zz_dup_x2 (ca := ca) (cb := cb) (cd := cd) (tl := tl) (k := k) hF hK hV hH hr h
  | dup2  => exact zz_dup2 (ca := ca) (cb := cb) (cd := cd) (tl := tl) (k := k) hF hK hV hH hr h
  | dup2_x1  => cases h
  | dup2_x2  => cases h
  | f2d  => cases h
  | f2i  => cases h
  | f2l  => cases h
  | fadd  => cases h
  | faload  => cases h
  | fastore  => cases h
  | fcmp x0 => cases h
  | fconst x0 => cases h
  | fdiv  => cases h
  | fload x0 => cases h
  | fload_n x0 => cases h
  | fmul  => cases h
  | fneg  => cases h
  | frem  => cases h
  | freturn  => cases h
  | fstore x0 => cases h
  | fstore_n x0 => cases h
  | fsub  => cases h
  | getfield x0 => exact zz_getfield (ca := ca) (cb := cb) (cd := cd) (tl := tl) (k := k) hF hK hV hH hr h
  | getstatic x0 => cases h
  | goto x0 => exact zz_goto (ca := ca) (cb := cb) (cd := cd) (tl := tl) (k := k) hF hK hV hH hr h
  | goto_w x0 => cases h
  | i2b  => exact zz_i2b (ca := ca) (cb := cb) (cd := cd) (tl := tl) (k := k) hF hK hV hH hr h
  | i2c  => exact zz_i2c (ca := ca) (cb := cb) (cd := cd) (tl := tl) (k := k) hF hK hV hH hr h
  | i2d  => cases h
  | i2f  => cases h
  | i2l  => exact zz_i2l (ca := ca) (cb := cb) (cd := cd) (tl := tl) (k := k) hF hK hV hH hr h
  | i2s  => exact zz_i2s (ca := ca) (cb := cb) (cd := cd) (tl := tl) (k := k) hF hK hV hH hr h
  | iadd  => exact zz_iadd (ca := ca) (cb := cb) (cd := cd) (tl := tl) (k := k) hF hK hV hH hr h
  | iaload  => exact zz_iaload (ca := ca) (cb := cb) (cd := cd) (tl := tl) (k := k) hF hK hV hH hr h
  | iand  => exact zz_iand (ca := ca) (cb := cb) (cd := cd) (tl := tl) (k := k) hF hK hV hH hr h
  | iastore  => exact zz_iastore (ca := ca) (cb := cb) (cd := cd) (tl := tl) (k := k) hF hK hV hH hr h
  | iconst x0 => exact zz_iconst (ca := ca) (cb := cb) (cd := cd) (tl := tl) (k := k) hF hK hV hH hr h
  | idiv  => exact zz_idiv (ca := ca) (cb := cb) (cd := cd) (tl := tl) (k := k) hF hK hV hH hr h
  | if_acmp x0 x1 => cases h
  | if_icmp x0 x1 => cases x0 with
    | eq => exact zz_icmp_eq (ca := ca) (cb := cb) (cd := cd) (tl := tl) (k := k) hF hK hV hH hr h
    | ne => exact zz_icmp_ne (ca := ca) (cb := cb) (cd := cd) (tl := tl) (k := k) hF hK hV hH hr h
    | lt => exact zz_icmp_lt (ca := ca) (cb := cb) (cd := cd) (tl := tl) (k := k) hF hK hV hH hr h
    | ge => exact zz_icmp_ge (ca := ca) (cb := cb) (cd := cd) (tl := tl) (k := k) hF hK hV hH hr h
    | gt => exact zz_icmp_gt (ca := ca) (cb := cb) (cd := cd) (tl := tl) (k := k) hF hK hV hH hr h
    | le => exact zz_icmp_le (ca := ca) (cb := cb) (cd := cd) (tl := tl) (k := k) hF hK hV hH hr h
  | ifCond x0 x1 => cases x0 with
    | eq => exact zz_if_eq (ca := ca) (cb := cb) (cd := cd) (tl := tl) (k := k) hF hK hV hH hr h
    | ne => exact zz_if_ne (ca := ca) (cb := cb) (cd := cd) (tl := tl) (k := k) hF hK hV hH hr h
    | lt => exact zz_if_lt (ca := ca) (cb := cb) (cd := cd) (tl := tl) (k := k) hF hK hV hH hr h
    | ge => exact zz_if_ge (ca := ca) (cb := cb) (cd := cd) (tl := tl) (k := k) hF hK hV hH hr h
    | gt => exact zz_if_gt (ca := ca) (cb := cb) (cd := cd) (tl := tl) (k := k) hF hK hV hH hr h
    | le => exact zz_if_le (ca := ca) (cb := cb) (cd := cd) (tl := tl) (k := k) hF hK hV hH hr h
  | ifnonnull x0 => exact zz_ifnonnull (ca := ca) (cb := cb) (cd := cd) (tl := tl) (k := k) hF hK hV hH hr h
  | ifnull x0 => exact zz_ifnull (ca := ca) (cb := cb) (cd := cd) (tl := tl) (k := k) hF hK hV hH hr h
  | iinc x0 x1 => exact zz_iinc (ca := ca) (cb := cb) (cd := cd) (tl := tl) (k := k) hF hK hV hH hr h
  | iload x0 => exact zz_iload (ca := ca) (cb := cb) (cd := cd) (tl := tl) (k := k) hF hK hV hH hr h
  | iload_n x0 => exact zz_iload_n (ca := ca) (cb := cb) (cd := cd) (tl := tl) (k := k) hF hK hV hH hr h
  | imul  => exact zz_imul (ca := ca) (cb := cb) (cd := cd) (tl := tl) (k := k) hF hK hV hH hr h
  | ineg  => exact zz_ineg (ca := ca) (cb := cb) (cd := cd) (tl := tl) (k := k) hF hK hV hH hr h
  | instanceof x0 => cases h
  | invokedynamic x0 => cases h
  | invokeinterface x0 x1 => cases h
  | invokespecial x0 => exact zz_invokespecial (ca := ca) (cb := cb) (cd := cd) (tl := tl) (k := k) hF hK hV hH hr h
  | invokestatic x0 => exact zz_invokestatic (ca := ca) (cb := cb) (cd := cd) (tl := tl) (k := k) hF hK hV hH hr h
  | invokevirtual x0 => exact zz_invokevirtual (ca := ca) (cb := cb) (cd := cd) (tl := tl) (k := k) hF hK hV hH hr h
  | ior  => exact zz_ior (ca := ca) (cb := cb) (cd := cd) (tl := tl) (k := k) hF hK hV hH hr h
  | irem  => exact zz_irem (ca := ca) (cb := cb) (cd := cd) (tl := tl) (k := k) hF hK hV hH hr h
  | ireturn  => exact zz_ireturn (ca := ca) (cb := cb) (cd := cd) (tl := tl) (k := k) hE hF hK hV hH hr h
  | ishl  => exact zz_ishl (ca := ca) (cb := cb) (cd := cd) (tl := tl) (k := k) hF hK hV hH hr h
  | ishr  => exact zz_ishr (ca := ca) (cb := cb) (cd := cd) (tl := tl) (k := k) hF hK hV hH hr h
  | istore x0 => exact zz_istore (ca := ca) (cb := cb) (cd := cd) (tl := tl) (k := k) hF hK hV hH hr h
  | istore_n x0 => exact zz_istore_n (ca := ca) (cb := cb) (cd := cd) (tl := tl) (k := k) hF hK hV hH hr h
  | isub  => exact zz_isub (ca := ca) (cb := cb) (cd := cd) (tl := tl) (k := k) hF hK hV hH hr h
  | iushr  => exact zz_iushr (ca := ca) (cb := cb) (cd := cd) (tl := tl) (k := k) hF hK hV hH hr h
  | ixor  => exact zz_ixor (ca := ca) (cb := cb) (cd := cd) (tl := tl) (k := k) hF hK hV hH hr h
  | jsr x0 => cases h
  | jsr_w x0 => cases h
  | l2d  => cases h
  | l2f  => cases h
  | l2i  => exact zz_l2i (ca := ca) (cb := cb) (cd := cd) (tl := tl) (k := k) hF hK hV hH hr h
  | ladd  => exact zz_ladd (ca := ca) (cb := cb) (cd := cd) (tl := tl) (k := k) hF hK hV hH hr h
  | laload  => exact zz_laload (ca := ca) (cb := cb) (cd := cd) (tl := tl) (k := k) hF hK hV hH hr h
  | land  => exact zz_land (ca := ca) (cb := cb) (cd := cd) (tl := tl) (k := k) hF hK hV hH hr h
  | lastore  => exact zz_lastore (ca := ca) (cb := cb) (cd := cd) (tl := tl) (k := k) hF hK hV hH hr h
  | lcmp  => exact zz_lcmp (ca := ca) (cb := cb) (cd := cd) (tl := tl) (k := k) hF hK hV hH hr h
  | lconst x0 => exact zz_lconst (ca := ca) (cb := cb) (cd := cd) (tl := tl) (k := k) hF hK hV hH hr h
  | ldc x0 => exact zz_ldc (ca := ca) (cb := cb) (cd := cd) (tl := tl) (k := k) hF hK hV hH hr h
  | ldc_w x0 => exact zz_ldc_w (ca := ca) (cb := cb) (cd := cd) (tl := tl) (k := k) hF hK hV hH hr h
  | ldc2_w x0 => exact zz_ldc2_w (ca := ca) (cb := cb) (cd := cd) (tl := tl) (k := k) hF hK hV hH hr h
  | ldiv  => exact zz_ldiv (ca := ca) (cb := cb) (cd := cd) (tl := tl) (k := k) hF hK hV hH hr h
  | lload x0 => exact zz_lload (ca := ca) (cb := cb) (cd := cd) (tl := tl) (k := k) hF hK hV hH hr h
  | lload_n x0 => exact zz_lload_n (ca := ca) (cb := cb) (cd := cd) (tl := tl) (k := k) hF hK hV hH hr h
  | lmul  => exact zz_lmul (ca := ca) (cb := cb) (cd := cd) (tl := tl) (k := k) hF hK hV hH hr h
  | lneg  => cases h
  | lookupswitch x0 x1 => exact zz_lookupswitch (ca := ca) (cb := cb) (cd := cd) (tl := tl) (k := k) hF hK hV hH hr h
  | lor  => exact zz_lor (ca := ca) (cb := cb) (cd := cd) (tl := tl) (k := k) hF hK hV hH hr h
  | lrem  => exact zz_lrem (ca := ca) (cb := cb) (cd := cd) (tl := tl) (k := k) hF hK hV hH hr h
  | lreturn  => exact zz_lreturn (ca := ca) (cb := cb) (cd := cd) (tl := tl) (k := k) hE hF hK hV hH hr h
  | lshl  => exact zz_lshl (ca := ca) (cb := cb) (cd := cd) (tl := tl) (k := k) hF hK hV hH hr h
  | lshr  => exact zz_lshr (ca := ca) (cb := cb) (cd := cd) (tl := tl) (k := k) hF hK hV hH hr h
  | lstore x0 => exact zz_lstore (ca := ca) (cb := cb) (cd := cd) (tl := tl) (k := k) hF hK hV hH hr h
  | lstore_n x0 => exact zz_lstore_n (ca := ca) (cb := cb) (cd := cd) (tl := tl) (k := k) hF hK hV hH hr h
  | lsub  => exact zz_lsub (ca := ca) (cb := cb) (cd := cd) (tl := tl) (k := k) hF hK hV hH hr h
  | lushr  => cases h
  | lxor  => cases h
  | monitorenter  => cases h
  | monitorexit  => cases h
  | multianewarray x0 x1 => cases h
  | new x0 => exact zz_new (ca := ca) (cb := cb) (cd := cd) (tl := tl) (k := k) hF hK hV hH hr h
  | newarray x0 => exact zz_newarray (ca := ca) (cb := cb) (cd := cd) (tl := tl) (k := k) hF hK hV hH hr h
  | nop  => cases h
  | pop  => exact zz_pop (ca := ca) (cb := cb) (cd := cd) (tl := tl) (k := k) hF hK hV hH hr h
  | pop2  => cases h
  | putfield x0 => exact zz_putfield (ca := ca) (cb := cb) (cd := cd) (tl := tl) (k := k) hF hK hV hH hr h
  | putstatic x0 => cases h
  | ret x0 => cases h
  | return_  => exact zz_return_ (ca := ca) (cb := cb) (cd := cd) (tl := tl) (k := k) hE hF hK hV hH hr h
  | saload  => cases h
  | sastore  => cases h
  | sipush x0 => exact zz_sipush (ca := ca) (cb := cb) (cd := cd) (tl := tl) (k := k) hF hK hV hH hr h
  | swap  => cases h
  | tableswitch x0 x1 x2 x3 => exact zz_tableswitch (ca := ca) (cb := cb) (cd := cd) (tl := tl) (k := k) hF hK hV hH hr h
/-- a run of rows -/
theorem ze_loop_ok (hF : ze_Fx p l R s m args meth c dC dI dA sp xs A o nL d cc rt ini jt cal mc ms) (hE : ze_Re p l e R s m args below meth c Q z0 dC dI dA sp xs A nL cc rt k mc ms) : ∀ n : Nat, ze_KK p l e R s m args below meth c Q z0 dC dI dA sp xs A nL (fun cs => zk_code o cc nL rt ini jt cs = true) (ze_loop (ze_jp jt) cal mc ms k n) := by
  intro n
  induction n with
  | zero => intro cs ls st w g nc ns h; cases h
  | succ n ih =>
    intro cs ls st w g nc ns h pc hat ρ ws H locs la vs hH
    obtain ⟨hV, e9, r, hcs, hpc⟩ := hat
    subst hcs
    obtain ⟨hrow, hVr⟩ := zk_tail hV
    subst hpc
    exact ze_step hE hF ih hVr hH hrow h
end ZZ
end
section
/-! THE ENGINE, part 12: methods -/
theorem ze_pad_get : ∀ (n j : Nat) (v : EV), (ze_pad n)[j]? = some v → v = eX 1 := by
  intro n
  induction n with
  | zero => intro j v h; cases h
  | succ n ih =>
    intro j v h
    cases j with
    | zero => exact (Option.some.inj h).symm
    | succ j => exact ih j v h
theorem ze_il_LL {sp : Nat → Nat} {ρ : List Int32} {ad : List Nat} : ∀ (av : List EV) (vs : List Value) (n i : Nat), ze_L sp ρ ad av vs → ∀ (j : Nat) (v : EV), (ze_il av n)[j]? = some v → v ≠ eX 1 → ∃ x, (i + j, x) ∈ lv_args i vs ∧ ze_V sp ρ ad v x := by
  intro av
  induction av with
  | nil => intro vs n i h j v hj hn; exact absurd (ze_pad_get n j v hj) hn
  | cons a av ih =>
    intro vs n i h j v hj hn
    obtain ⟨y, ys, rfl, h1, h2⟩ := h.cons
    have hc := ze_cat h1
    have hj : (a :: (cond (Nat.beq (ze_ct a) 2) (eX 1 :: ze_il av (Nat.sub n 2)) (ze_il av (Nat.sub n 1))))[j]? = some v := hj
    cases j with
    | zero =>
      cases (Option.some.inj hj)
      exact ⟨y, List.mem_cons_self, h1⟩
    | succ j =>
      rw [List.getElem?_cons_succ] at hj
      cases hb : Nat.beq (ze_ct a) 2 with
      | true =>
        rw [hb] at hj
        have e2 : y.category = 2 := by rw [hc]; exact Nat.eq_of_beq_eq_true hb
        have hj : (eX 1 :: ze_il av (Nat.sub n 2))[j]? = some v := hj
        cases j with
        | zero => exact absurd (Option.some.inj hj).symm hn
        | succ j =>
          rw [List.getElem?_cons_succ] at hj
          obtain ⟨x, q1, q2⟩ := ih ys (Nat.sub n 2) (i + 2) h2 j v hj hn
          refine ⟨x, List.mem_cons_of_mem _ ?_, q2⟩
          rw [if_pos e2]
          rw [show i + (j + 1 + 1) = i + 2 + j by omega]
          exact q1
      | false =>
        rw [hb] at hj
        have e2 : ¬ y.category = 2 := by
          rw [hc]
          intro q
          rw [q] at hb
          cases hb
        have hj : (ze_il av (Nat.sub n 1))[j]? = some v := hj
        obtain ⟨x, q1, q2⟩ := ih ys (Nat.sub n 1) (i + 1) h2 j v hj hn
        refine ⟨x, List.mem_cons_of_mem _ ?_, q2⟩
        rw [if_neg e2]
        rw [show i + (j + 1) = i + 1 + j by omega]
        exact q1
theorem ze_sl_len : ∀ (vs : List Value), (lg_sl vs).length ≤ (vs.map fun v => v.category).sum := by
  intro vs
  induction vs with
  | nil => exact Nat.le_refl _
  | cons v t ih =>
    have e : lg_sl (v :: t) = (if v.category = 2 then [Slot.val v, .second] else [.val v]) ++ lg_sl t := rfl
    rw [e, List.length_append, List.map_cons, List.sum_cons]
    have : (if v.category = 2 then [Slot.val v, .second] else [.val v]).length ≤ v.category := by
      cases v <;> exact Nat.le_refl _
    omega
/-- the table of rows agrees with the table of methods -/
def ZT (pr : List (List EM)) : Prop := ∀ (y : Nat) (ch : List EM) (m : EM) (q : ZMt), pr[y / 16]? = some ch → ch[y % 16]? = some m → zm y = some q →
  m.2.1 = q.2.2.1 ∧ m.2.2.1 = q.2.2.2.2.2.1 ∧ m.2.2.2 = q.2.2.2.2.2.2 ∧ plainName q.1.cls = true ∧ zn q.2.2.2.2.1 = q.1.cls ∧ ∃ ini : Bool, (ini = true → q.1.name = "<init>") ∧ (∀ cs ∈ m.1, zk_code q.2.2.2.2.1 q.2.1 q.2.2.1 q.2.2.2.1 ini m.1 cs = true) ∧ ∃ e r, m.1[0]? = some (e :: r) ∧ e.2.1 = 0
section ZM
variable {l : Launch} {dC : Nat → ClassId} {dI : Nat → Nat → Nat} {dA : Nat → ClassId} {sp : Nat → Nat} {xs : Nat → Int32} {A : Nat → Prop}
/-- a method's ends -/
theorem ze_ends {p : Program} {e : Env} {R : Room} {s : State} {m : MethodId} {args : Array Value} {below : List Frame} {meth : Method} {c : Code} {nL mc ms : Nat} {cc : ByteArray} {rt : Option FieldType} {k : ERt} {z0 : List Int32 × List Nat} (hx : p.tables.exec = Jvm.exec) (hb : c.code = cc) (hr : meth.sig.returnType = rt) (hlocks : meth.locks = false) : ze_Re p l e R s m args below meth c (MQ below (ze_Qc dC dI dA sp A k z0.1 z0.2) args s mc ms A) z0 dC dI dA sp xs A nL cc rt k mc ms := by
  intro pc nc ns ls st w g ρ ws H locs la vs hH h1 h2
  have hf : ∀ q ∈ locs, A q.base := hH.2.2.2.2.2.1.2.2
  have hP := hH.2.1.2
  have hV := hH.2.2.2.2.2.2.2
  refine ⟨?_, ?_, ?_, ?_⟩
  · intro u x ty e1 e2 e3 e4 e5 e6
    subst e1; subst e2
    exact W.widen h1 h2 (W.zret hx hb (hr.trans e5) e6 (fun t ht hw => ze_Qc_of hH hP.1 hP.2 e3 hV.1 ht) hf e4 hlocks)
  · intro u x e1 e2 e3 e4 e5
    subst e1; subst e2
    exact W.widen h1 h2 (W.lret hx hb (hr.trans e5) (fun t ht hw => ze_Qc_of hH hP.1 hP.2 e3 hV.1 ht) hf e4 hlocks)
  · intro u a ty e1 e2 e3 e4 e5 e6
    subst e1; subst e2
    exact W.widen h1 h2 (W.aret hx hb (hr.trans e5) e6 (Or.inr ⟨a, rfl⟩) (fun t ht hw => ze_Qc_of hH hP.1 hP.2 e3 hV.1 ht) hf e4 hlocks)
  · intro e1 e2 e3 e4 e5
    subst e1; subst e2
    exact W.widen h1 h2 (W.vret hx hb (hr.trans e5) (fun t ht hw => ze_Qc_of (r := none) (v := none) hH hP.1 hP.2 e3 trivial ht) hf e4 hlocks)
/-- the engine's methods -/
theorem ze_ex_ok (hZ : ZF) {pr : List (List EM)} (hT : ZT pr) : ∀ (d : Nat) (y : Nat) (q : ZMt), zm y = some q → ze_Cal l dC dI dA sp xs A (ze_ex pr d) y d q.1 q.2.1 q.2.2.1 q.2.2.2.1 q.2.2.2.2.2.1 q.2.2.2.2.2.2 := by
  intro d
  induction d with
  | zero => intro y q hq av w g k' h; cases h
  | succ d ih =>
    intro y q hq av w g k' h ρ ws avs hG hX hW hL
    obtain ⟨ch, h1, h⟩ := ze_n_spec _ _ _ h
    obtain ⟨m9, h2, h⟩ := ze_n_spec _ _ _ h
    obtain ⟨h3, h⟩ := ze_condf h
    obtain ⟨cs, h4, h⟩ := ze_jp_spec h
    obtain ⟨e1, e2, e3, hpl, hzn, ini, hini, hcode, e9, r9, h5, h6⟩ := hT y ch m9 q h1 h2 hq
    have e5 : cs = e9 :: r9 := by
      unfold ze_tgt at h4
      rw [show (0 / 16 : Nat) = 0 from rfl, h5] at h4
      exact (Option.some.inj h4).symm
    subst e5
    refine Met.ofW (cc := q.2.1) (maxL := q.2.2.1) (ret := q.2.2.2.1) hpl rfl ?_
    intro p e s m args below meth c s₁ B hml hP
    obtain ⟨rfl, hP1, hP2, hP3, hP4, hP5⟩ := hP
    have hts := atoms_spec (ws := Cond.code q.1 q.2.1 q.2.2.1 q.2.2.2.1 :: zb_T) B.pre
    have hown : s.vm.findClass q.1.cls = some m.cls := findClass_of_methodNamed B.named
    have hnm := (name_of_methodNamed B.named B.method).1
    have hFx : ze_Fx p l (headSpec (Cond.code q.1 q.2.1 q.2.2.1 q.2.2.2.1 :: zb_T) (ze_rm (d + 1) q.2.2.2.2.2.1 q.2.2.2.2.2.2)).room s m avs.toArray meth c dC dI dA sp xs A q.2.2.2.2.1 q.2.2.1 d q.2.1 q.2.2.2.1 ini m9.1 (ze_ex pr d) q.2.2.2.2.2.1 q.2.2.2.2.2.2 :=
      ⟨hZ, B.exec, B.bytes, hml, by rw [hzn]; exact hown, hP2, hP5, hP4, fun w hw => hts w (List.mem_cons_of_mem _ hw), ⟨rfl, rfl⟩, ⟨Nat.le_refl _, Nat.le_refl _⟩, fun hi => hnm.trans (hini hi), fun y q hy => ih y q hy, hcode⟩
    have hend := ze_ends (l := l) (dC := dC) (dI := dI) (dA := dA) (sp := sp) (xs := xs) (A := A) (e := e) (R := (headSpec (Cond.code q.1 q.2.1 q.2.2.1 q.2.2.2.1 :: zb_T) (ze_rm (d + 1) q.2.2.2.2.2.1 q.2.2.2.2.2.2)).room) (s := s) (m := m) (args := avs.toArray) (below := below) (nL := q.2.2.1) (mc := q.2.2.2.2.2.1) (ms := q.2.2.2.2.2.2) (k := k') (z0 := (ρ, ws.map (·.1))) B.exec B.bytes B.returns B.notSynchronized
    rw [lg_entry_eq]
    have hl := lv_entry avs (n := q.2.2.1) (Nat.le_trans (ze_sl_len avs) (by rw [ze_cs_sum hL, ← e1]; exact ze_ble' h3))
    rw [e1, e2, e3] at h
    refine ze_loop_ok hFx hend _ _ _ _ _ _ _ _ h 0 ⟨hcode _ (List.mem_of_getElem? h5), e9, r9, rfl, h6⟩ ρ ws s.heap [] _ [] ⟨hG, ⟨hX, List.prefix_refl _, List.prefix_refl _⟩, hW, hP1, hP3, ⟨Nat.le_refl _, fun _ _ _ => rfl, fun q hq => by cases hq⟩, ⟨_, hl, ?_⟩, trivial⟩
    intro j v hj hn
    obtain ⟨x, q1, q2⟩ := ze_il_LL av avs _ 0 hL j v hj hn
    rw [Nat.zero_add] at q1
    exact ⟨x, q1, q2⟩
end ZM
end
section
/-! THE ENGINE, part 13: tables -/
def ZP (m : EM) (q : ZMt) : Prop := m.2.1 = q.2.2.1 ∧ m.2.2.1 = q.2.2.2.2.2.1 ∧ m.2.2.2 = q.2.2.2.2.2.2 ∧ plainName q.1.cls = true ∧ zn q.2.2.2.2.1 = q.1.cls ∧ ∃ ini : Bool, (ini = true → q.1.name = "<init>") ∧ (∀ cs ∈ m.1, zk_code q.2.2.2.2.1 q.2.1 q.2.2.1 q.2.2.2.1 ini m.1 cs = true) ∧ ∃ e r, m.1[0]? = some (e :: r) ∧ e.2.1 = 0
def ZL : List EM → List (Option ZMt) → Prop
  | [], _ => True
  | m :: ms, qs => match qs with
    | [] => True
    | none :: qs => ZL ms qs
    | some q :: qs => ZP m q ∧ ZL ms qs
theorem ZL.nil : ZL [] [] := trivial
theorem ZL.sm {m : EM} {ms : List EM} {q : ZMt} {qs : List (Option ZMt)} (h1 : ZP m q) (h2 : ZL ms qs) : ZL (m :: ms) (some q :: qs) := ⟨h1, h2⟩
theorem ZL.nn {m : EM} {ms : List EM} {qs : List (Option ZMt)} (h2 : ZL ms qs) : ZL (m :: ms) (none :: qs) := h2
theorem ZL.get : ∀ (ms : List EM) (qs : List (Option ZMt)), ZL ms qs → ∀ (i : Nat) (m : EM) (q : ZMt), ms[i]? = some m → qs[i]? = some (some q) → ZP m q := by
  intro ms
  induction ms with
  | nil => intro qs _ i m q h1; cases h1
  | cons a ms ih =>
    intro qs h i m q h1 h2
    cases qs with
    | nil => cases h2
    | cons b qs =>
      cases b with
      | none =>
        cases i with
        | zero => cases h2
        | succ i => exact ih qs h i m q h1 h2
      | some b =>
        cases i with
        | zero => cases h1; cases h2; exact h.1
        | succ i => exact ih qs h.2 i m q h1 h2
def ZLL : List (List EM) → List (List (Option ZMt)) → Prop
  | [], _ => True
  | m :: ms, qs => match qs with
    | [] => True
    | q :: qs => ZL m q ∧ ZLL ms qs
theorem ZLL.nil : ZLL [] [] := trivial
theorem ZLL.cons {m : List EM} {ms : List (List EM)} {q : List (Option ZMt)} {qs : List (List (Option ZMt))} (h1 : ZL m q) (h2 : ZLL ms qs) : ZLL (m :: ms) (q :: qs) := ⟨h1, h2⟩
theorem ZLL.get : ∀ (ms : List (List EM)) (qs : List (List (Option ZMt))), ZLL ms qs → ∀ (i : Nat) (m : List EM) (q : List (Option ZMt)), ms[i]? = some m → qs[i]? = some q → ZL m q := by
  intro ms
  induction ms with
  | nil => intro qs _ i m q h1; cases h1
  | cons a ms ih =>
    intro qs h i m q h1 h2
    cases qs with
    | nil => cases h2
    | cons b qs =>
      cases i with
      | zero => cases h1; cases h2; exact h.1
      | succ i => exact ih qs h.2 i m q h1 h2
theorem ZLL.tab {pr : List (List EM)} (h : ZLL pr zm_) : ZT pr := by
  intro y ch m q h1 h2 h3
  unfold zm at h3
  obtain ⟨c, h4, h5⟩ := Option.bind_eq_some_iff.mp h3
  obtain ⟨q', h6, h7⟩ := Option.bind_eq_some_iff.mp h5
  have h7 : q' = some q := h7
  subst h7
  exact ZL.get _ _ (ZLL.get _ _ h _ _ _ h1 h4) _ _ _ h2 h6
theorem zk_mem1 {o nL : Nat} {cc : ByteArray} {rt : Option FieldType} {ini : Bool} {jt : List (List ECE)} {cs : List ECE} {r : List (List ECE)} (h : zk_code o cc nL rt ini jt cs = true) (h2 : ∀ c ∈ r, zk_code o cc nL rt ini jt c = true) : ∀ c ∈ cs :: r, zk_code o cc nL rt ini jt c = true := fun c hc => (List.mem_cons.mp hc).elim (fun e => e ▸ h) (h2 c)
theorem zk_mem0 {o nL : Nat} {cc : ByteArray} {rt : Option FieldType} {ini : Bool} {jt : List (List ECE)} : ∀ c ∈ ([] : List (List ECE)), zk_code o cc nL rt ini jt c = true := fun c hc => by cases hc
end
section
/-! THE ENGINE, part 14: lists of facts -/
def ZG {α : Type} (P : Nat → α → Prop) : Nat → List (List α) → Prop
  | _, [] => True
  | o, x :: r => (∀ y ∈ x, P o y) ∧ ZG P (o + 1) r
theorem ZG.nil {α : Type} {P : Nat → α → Prop} {o : Nat} : ZG P o [] := trivial
theorem ZG.cons {α : Type} {P : Nat → α → Prop} {o : Nat} {x : List α} {r : List (List α)} (h1 : ∀ y ∈ x, P o y) (h2 : ZG P (o + 1) r) : ZG P o (x :: r) := ⟨h1, h2⟩
theorem ZG.n0 {α : Type} {P : Nat → α → Prop} {o : Nat} : ∀ y ∈ ([] : List α), P o y := fun y h => by cases h
theorem ZG.n1 {α : Type} {P : Nat → α → Prop} {o : Nat} {a : α} {x : List α} (h1 : P o a) (h2 : ∀ y ∈ x, P o y) : ∀ y ∈ a :: x, P o y := fun y h => (List.mem_cons.mp h).elim (fun e => e ▸ h1) (h2 y)
theorem ZG.get {α : Type} {P : Nat → α → Prop} : ∀ (L : List (List α)) (o0 : Nat), ZG P o0 L → ∀ (o : Nat) (x : α), x ∈ L.getD o [] → P (o0 + o) x := by
  intro L
  induction L with
  | nil => intro o0 _ o x h; cases h
  | cons a L ih =>
    intro o0 h o x hx
    cases o with
    | zero => exact h.1 x hx
    | succ o =>
      have := ih (o0 + 1) h.2 o x hx
      rw [show o0 + (o + 1) = o0 + 1 + o by omega]
      exact this
theorem ZG.get0 {α : Type} {P : Nat → α → Prop} {L : List (List α)} (h : ZG P 0 L) (o : Nat) (x : α) (hx : x ∈ L.getD o []) : P o x := by
  have := ZG.get L 0 h o x hx
  rw [Nat.zero_add] at this
  exact this
def ztyB (t : Nat) (ty : FieldType) : Bool := match ty with
  | .int => t == 0
  | .boolean => t == 1
  | .object _ => t == 2
  | .array _ => t == 2
  | .long => t == 3
  | .char => t == 4
  | _ => false
theorem ztyB_ok {t : Nat} {ty : FieldType} (h : ztyB t ty = true) : ze_ty t ty := by
  unfold ztyB at h
  split at h
  · exact Or.inl ⟨of_decide_eq_true h, rfl⟩
  · exact Or.inr (Or.inl ⟨of_decide_eq_true h, rfl⟩)
  · exact Or.inr (Or.inr (Or.inl ⟨of_decide_eq_true h, _, rfl⟩))
  · exact Or.inr (Or.inr (Or.inr (Or.inl ⟨of_decide_eq_true h, _, rfl⟩)))
  · exact Or.inr (Or.inr (Or.inr (Or.inr (Or.inl ⟨of_decide_eq_true h, rfl⟩))))
  · exact Or.inr (Or.inr (Or.inr (Or.inr (Or.inr ⟨of_decide_eq_true h, rfl⟩))))
  · cases h
theorem zty_ok {T : u_T} {ty0 : Nat → FieldType} {N : Nat} {tl : List Nat} (h1 : ∀ k, k < N → parseFieldDescriptor (T k).2.2.1 = some (ty0 k)) (h2 : ∀ j, j < N → (tl[j]?).any (fun t => ztyB t (ty0 j)) = true) : ∀ j, j < N → ∃ t ty, tl[j]? = some t ∧ parseFieldDescriptor (T j).2.2.1 = some ty ∧ ze_ty t ty := by
  intro j hj
  have := h2 j hj
  cases ht : tl[j]? with
  | none => rw [ht] at this; cases this
  | some t =>
    rw [ht] at this
    exact ⟨t, ty0 j, rfl, h1 j hj, ztyB_ok this⟩
end
