-- ===== PART A: goes FIRST, ahead of the names: the tables' words, and 'selects' of the private methods out of them =====
/-- a private method of a class that the tables say can be made, by its rows of tables_1 -/
def lw_okq (q : MethodName × Nat) : Prop := (q.1.cls ≠ "java/lang/invoke/MethodHandle" ∧ q.1.cls ≠ "java/lang/invoke/VarHandle") ∧ Cond.instantiable q.1.cls q.2 ∈ tables_1 ∧ Cond.privateMethod q.1 ∈ tables_1 ∧ Cond.instanceMethod q.1 ∈ tables_1
theorem lw_p0 : lw_okq (⟨"NewsShips", "found", "(I)I"⟩, 12) := ⟨⟨by decide +kernel, by decide +kernel⟩, List.mem_of_getElem? (i := 17) (by decide +kernel), List.mem_of_getElem? (i := 348) (by decide +kernel), List.mem_of_getElem? (i := 349) (by decide +kernel)⟩
theorem lw_p1 : lw_okq (⟨"NewsShips", "fine", "(I)I"⟩, 12) := ⟨⟨by decide +kernel, by decide +kernel⟩, List.mem_of_getElem? (i := 17) (by decide +kernel), List.mem_of_getElem? (i := 357) (by decide +kernel), List.mem_of_getElem? (i := 358) (by decide +kernel)⟩
theorem lw_p2 : lw_okq (⟨"NewsShips$Rows", "hasPlaces", "(III)Z"⟩, 3) := ⟨⟨by decide +kernel, by decide +kernel⟩, List.mem_of_getElem? (i := 25) (by decide +kernel), List.mem_of_getElem? (i := 373) (by decide +kernel), List.mem_of_getElem? (i := 374) (by decide +kernel)⟩
theorem lw_p3 : lw_okq (⟨"NewsShips$Reader", "readPorts", "()Z"⟩, 3) := ⟨⟨by decide +kernel, by decide +kernel⟩, List.mem_of_getElem? (i := 80) (by decide +kernel), List.mem_of_getElem? (i := 430) (by decide +kernel), List.mem_of_getElem? (i := 431) (by decide +kernel)⟩
theorem lw_p4 : lw_okq (⟨"NewsShips$Reader", "expect", "(I)Z"⟩, 3) := ⟨⟨by decide +kernel, by decide +kernel⟩, List.mem_of_getElem? (i := 80) (by decide +kernel), List.mem_of_getElem? (i := 434) (by decide +kernel), List.mem_of_getElem? (i := 435) (by decide +kernel)⟩
theorem lw_p5 : lw_okq (⟨"NewsShips$Reader", "refuse", "(I)Z"⟩, 3) := ⟨⟨by decide +kernel, by decide +kernel⟩, List.mem_of_getElem? (i := 80) (by decide +kernel), List.mem_of_getElem? (i := 438) (by decide +kernel), List.mem_of_getElem? (i := 439) (by decide +kernel)⟩
theorem lw_p6 : lw_okq (⟨"NewsShips$Reader", "number", "(III)I"⟩, 3) := ⟨⟨by decide +kernel, by decide +kernel⟩, List.mem_of_getElem? (i := 80) (by decide +kernel), List.mem_of_getElem? (i := 444) (by decide +kernel), List.mem_of_getElem? (i := 445) (by decide +kernel)⟩
theorem lw_p7 : lw_okq (⟨"NewsShips$Reader", "readWays", "()Z"⟩, 3) := ⟨⟨by decide +kernel, by decide +kernel⟩, List.mem_of_getElem? (i := 80) (by decide +kernel), List.mem_of_getElem? (i := 449) (by decide +kernel), List.mem_of_getElem? (i := 450) (by decide +kernel)⟩
theorem lw_p8 : lw_okq (⟨"NewsShips$Reader", "readWay", "()Z"⟩, 3) := ⟨⟨by decide +kernel, by decide +kernel⟩, List.mem_of_getElem? (i := 80) (by decide +kernel), List.mem_of_getElem? (i := 453) (by decide +kernel), List.mem_of_getElem? (i := 454) (by decide +kernel)⟩
theorem lw_p9 : lw_okq (⟨"NewsShips$Reader", "readShips", "()Z"⟩, 3) := ⟨⟨by decide +kernel, by decide +kernel⟩, List.mem_of_getElem? (i := 80) (by decide +kernel), List.mem_of_getElem? (i := 461) (by decide +kernel), List.mem_of_getElem? (i := 462) (by decide +kernel)⟩
theorem lw_p10 : lw_okq (⟨"NewsShips$Reader", "readShip", "()Z"⟩, 3) := ⟨⟨by decide +kernel, by decide +kernel⟩, List.mem_of_getElem? (i := 80) (by decide +kernel), List.mem_of_getElem? (i := 468) (by decide +kernel), List.mem_of_getElem? (i := 469) (by decide +kernel)⟩
theorem lw_p11 : lw_okq (⟨"NewsShips$League", "learn", "(II)I"⟩, 16) := ⟨⟨by decide +kernel, by decide +kernel⟩, List.mem_of_getElem? (i := 86) (by decide +kernel), List.mem_of_getElem? (i := 508) (by decide +kernel), List.mem_of_getElem? (i := 509) (by decide +kernel)⟩
theorem lw_p12 : lw_okq (⟨"NewsShips$League", "tellShipsInPorts", "()V"⟩, 16) := ⟨⟨by decide +kernel, by decide +kernel⟩, List.mem_of_getElem? (i := 86) (by decide +kernel), List.mem_of_getElem? (i := 516) (by decide +kernel), List.mem_of_getElem? (i := 517) (by decide +kernel)⟩
theorem lw_p13 : lw_okq (⟨"NewsShips$League", "signal", "(III)I"⟩, 16) := ⟨⟨by decide +kernel, by decide +kernel⟩, List.mem_of_getElem? (i := 86) (by decide +kernel), List.mem_of_getElem? (i := 568) (by decide +kernel), List.mem_of_getElem? (i := 569) (by decide +kernel)⟩
theorem lw_p14 : lw_okq (⟨"NewsShips$League", "tellPort", "(I)I"⟩, 16) := ⟨⟨by decide +kernel, by decide +kernel⟩, List.mem_of_getElem? (i := 86) (by decide +kernel), List.mem_of_getElem? (i := 572) (by decide +kernel), List.mem_of_getElem? (i := 573) (by decide +kernel)⟩
theorem lw_p15 : lw_okq (⟨"NewsShips$Foretold", "spread", "([II)V"⟩, 6) := ⟨⟨by decide +kernel, by decide +kernel⟩, List.mem_of_getElem? (i := 209) (by decide +kernel), List.mem_of_getElem? (i := 637) (by decide +kernel), List.mem_of_getElem? (i := 638) (by decide +kernel)⟩
def lw_privs_1 : List (MethodName × Nat) := [(⟨"NewsShips", "found", "(I)I"⟩, 12), (⟨"NewsShips", "fine", "(I)I"⟩, 12), (⟨"NewsShips$Rows", "hasPlaces", "(III)Z"⟩, 3), (⟨"NewsShips$Reader", "readPorts", "()Z"⟩, 3), (⟨"NewsShips$Reader", "expect", "(I)Z"⟩, 3), (⟨"NewsShips$Reader", "refuse", "(I)Z"⟩, 3), (⟨"NewsShips$Reader", "number", "(III)I"⟩, 3), (⟨"NewsShips$Reader", "readWays", "()Z"⟩, 3), (⟨"NewsShips$Reader", "readWay", "()Z"⟩, 3), (⟨"NewsShips$Reader", "readShips", "()Z"⟩, 3), (⟨"NewsShips$Reader", "readShip", "()Z"⟩, 3), (⟨"NewsShips$League", "learn", "(II)I"⟩, 16), (⟨"NewsShips$League", "tellShipsInPorts", "()V"⟩, 16), (⟨"NewsShips$League", "signal", "(III)I"⟩, 16), (⟨"NewsShips$League", "tellPort", "(I)I"⟩, 16), (⟨"NewsShips$Foretold", "spread", "([II)V"⟩, 6)]
theorem lw_r1 : ∀ q ∈ lw_privs_1, lw_okq q := List.forall_mem_cons.mpr ⟨lw_p0, List.forall_mem_cons.mpr ⟨lw_p1, List.forall_mem_cons.mpr ⟨lw_p2, List.forall_mem_cons.mpr ⟨lw_p3, List.forall_mem_cons.mpr ⟨lw_p4, List.forall_mem_cons.mpr ⟨lw_p5, List.forall_mem_cons.mpr ⟨lw_p6, List.forall_mem_cons.mpr ⟨lw_p7, List.forall_mem_cons.mpr ⟨lw_p8, List.forall_mem_cons.mpr ⟨lw_p9, List.forall_mem_cons.mpr ⟨lw_p10, List.forall_mem_cons.mpr ⟨lw_p11, List.forall_mem_cons.mpr ⟨lw_p12, List.forall_mem_cons.mpr ⟨lw_p13, List.forall_mem_cons.mpr ⟨lw_p14, List.forall_mem_cons.mpr ⟨lw_p15, fun _ h => absurd h List.not_mem_nil⟩⟩⟩⟩⟩⟩⟩⟩⟩⟩⟩⟩⟩⟩⟩⟩
theorem lw_p16 : lw_okq (⟨"NewsShips$Renown", "come", "(III)V"⟩, 7) := ⟨⟨by decide +kernel, by decide +kernel⟩, List.mem_of_getElem? (i := 237) (by decide +kernel), List.mem_of_getElem? (i := 677) (by decide +kernel), List.mem_of_getElem? (i := 678) (by decide +kernel)⟩
theorem lw_p17 : lw_okq (⟨"NewsShips$Renown", "settle", "(II)V"⟩, 7) := ⟨⟨by decide +kernel, by decide +kernel⟩, List.mem_of_getElem? (i := 237) (by decide +kernel), List.mem_of_getElem? (i := 681) (by decide +kernel), List.mem_of_getElem? (i := 682) (by decide +kernel)⟩
theorem lw_p18 : lw_okq (⟨"NewsShips$Renown", "judge", "(I)V"⟩, 7) := ⟨⟨by decide +kernel, by decide +kernel⟩, List.mem_of_getElem? (i := 237) (by decide +kernel), List.mem_of_getElem? (i := 686) (by decide +kernel), List.mem_of_getElem? (i := 687) (by decide +kernel)⟩
theorem lw_p19 : lw_okq (⟨"NewsShips$Renown", "judgeOne", "(II)V"⟩, 7) := ⟨⟨by decide +kernel, by decide +kernel⟩, List.mem_of_getElem? (i := 237) (by decide +kernel), List.mem_of_getElem? (i := 696) (by decide +kernel), List.mem_of_getElem? (i := 697) (by decide +kernel)⟩
theorem lw_p20 : lw_okq (⟨"NewsShips$Foretold", "hearFromAll", "()V"⟩, 6) := ⟨⟨by decide +kernel, by decide +kernel⟩, List.mem_of_getElem? (i := 209) (by decide +kernel), List.mem_of_getElem? (i := 716) (by decide +kernel), List.mem_of_getElem? (i := 717) (by decide +kernel)⟩
theorem lw_p21 : lw_okq (⟨"NewsShips$Foretold", "spreadFrom", "(II)V"⟩, 6) := ⟨⟨by decide +kernel, by decide +kernel⟩, List.mem_of_getElem? (i := 209) (by decide +kernel), List.mem_of_getElem? (i := 720) (by decide +kernel), List.mem_of_getElem? (i := 721) (by decide +kernel)⟩
theorem lw_p22 : lw_okq (⟨"NewsShips", "arePairs", "([III)Z"⟩, 12) := ⟨⟨by decide +kernel, by decide +kernel⟩, List.mem_of_getElem? (i := 17) (by decide +kernel), List.mem_of_getElem? (i := 729) (by decide +kernel), List.mem_of_getElem? (i := 730) (by decide +kernel)⟩
theorem lw_p23 : lw_okq (⟨"NewsShips$Foretold", "fits", "([III)Z"⟩, 6) := ⟨⟨by decide +kernel, by decide +kernel⟩, List.mem_of_getElem? (i := 209) (by decide +kernel), List.mem_of_getElem? (i := 737) (by decide +kernel), List.mem_of_getElem? (i := 738) (by decide +kernel)⟩
theorem lw_p24 : lw_okq (⟨"NewsShips$Voyage", "comeIn", "(I)V"⟩, 2) := ⟨⟨by decide +kernel, by decide +kernel⟩, List.mem_of_getElem? (i := 267) (by decide +kernel), List.mem_of_getElem? (i := 774) (by decide +kernel), List.mem_of_getElem? (i := 775) (by decide +kernel)⟩
theorem lw_p25 : lw_okq (⟨"NewsShips$Voyage", "setOut", "(II)Z"⟩, 2) := ⟨⟨by decide +kernel, by decide +kernel⟩, List.mem_of_getElem? (i := 267) (by decide +kernel), List.mem_of_getElem? (i := 780) (by decide +kernel), List.mem_of_getElem? (i := 781) (by decide +kernel)⟩
theorem lw_p26 : lw_okq (⟨"NewsShips$Asks", "sizeAmongCouriers", "(I)I"⟩, 3) := ⟨⟨by decide +kernel, by decide +kernel⟩, List.mem_of_getElem? (i := 282) (by decide +kernel), List.mem_of_getElem? (i := 819) (by decide +kernel), List.mem_of_getElem? (i := 820) (by decide +kernel)⟩
theorem lw_p27 : lw_okq (⟨"NewsShips$Asks", "leave", "(I)V"⟩, 3) := ⟨⟨by decide +kernel, by decide +kernel⟩, List.mem_of_getElem? (i := 282) (by decide +kernel), List.mem_of_getElem? (i := 823) (by decide +kernel), List.mem_of_getElem? (i := 824) (by decide +kernel)⟩
theorem lw_p28 : lw_okq (⟨"NewsShips$Asks", "sizeOfCourier", "(I)I"⟩, 3) := ⟨⟨by decide +kernel, by decide +kernel⟩, List.mem_of_getElem? (i := 282) (by decide +kernel), List.mem_of_getElem? (i := 827) (by decide +kernel), List.mem_of_getElem? (i := 828) (by decide +kernel)⟩
theorem lw_p29 : lw_okq (⟨"NewsShips$Asks", "sizeOfShip", "(I)I"⟩, 3) := ⟨⟨by decide +kernel, by decide +kernel⟩, List.mem_of_getElem? (i := 282) (by decide +kernel), List.mem_of_getElem? (i := 831) (by decide +kernel), List.mem_of_getElem? (i := 832) (by decide +kernel)⟩
theorem lw_p30 : lw_okq (⟨"NewsShips$Asks", "sizeOfTrader", "(I)I"⟩, 3) := ⟨⟨by decide +kernel, by decide +kernel⟩, List.mem_of_getElem? (i := 282) (by decide +kernel), List.mem_of_getElem? (i := 835) (by decide +kernel), List.mem_of_getElem? (i := 836) (by decide +kernel)⟩
theorem lw_p31 : lw_okq (⟨"NewsShips$Asks", "markAmongTraders", "(I)I"⟩, 3) := ⟨⟨by decide +kernel, by decide +kernel⟩, List.mem_of_getElem? (i := 282) (by decide +kernel), List.mem_of_getElem? (i := 839) (by decide +kernel), List.mem_of_getElem? (i := 840) (by decide +kernel)⟩
def lw_privs_2 : List (MethodName × Nat) := [(⟨"NewsShips$Renown", "come", "(III)V"⟩, 7), (⟨"NewsShips$Renown", "settle", "(II)V"⟩, 7), (⟨"NewsShips$Renown", "judge", "(I)V"⟩, 7), (⟨"NewsShips$Renown", "judgeOne", "(II)V"⟩, 7), (⟨"NewsShips$Foretold", "hearFromAll", "()V"⟩, 6), (⟨"NewsShips$Foretold", "spreadFrom", "(II)V"⟩, 6), (⟨"NewsShips", "arePairs", "([III)Z"⟩, 12), (⟨"NewsShips$Foretold", "fits", "([III)Z"⟩, 6), (⟨"NewsShips$Voyage", "comeIn", "(I)V"⟩, 2), (⟨"NewsShips$Voyage", "setOut", "(II)Z"⟩, 2), (⟨"NewsShips$Asks", "sizeAmongCouriers", "(I)I"⟩, 3), (⟨"NewsShips$Asks", "leave", "(I)V"⟩, 3), (⟨"NewsShips$Asks", "sizeOfCourier", "(I)I"⟩, 3), (⟨"NewsShips$Asks", "sizeOfShip", "(I)I"⟩, 3), (⟨"NewsShips$Asks", "sizeOfTrader", "(I)I"⟩, 3), (⟨"NewsShips$Asks", "markAmongTraders", "(I)I"⟩, 3)]
theorem lw_r2 : ∀ q ∈ lw_privs_2, lw_okq q := List.forall_mem_cons.mpr ⟨lw_p16, List.forall_mem_cons.mpr ⟨lw_p17, List.forall_mem_cons.mpr ⟨lw_p18, List.forall_mem_cons.mpr ⟨lw_p19, List.forall_mem_cons.mpr ⟨lw_p20, List.forall_mem_cons.mpr ⟨lw_p21, List.forall_mem_cons.mpr ⟨lw_p22, List.forall_mem_cons.mpr ⟨lw_p23, List.forall_mem_cons.mpr ⟨lw_p24, List.forall_mem_cons.mpr ⟨lw_p25, List.forall_mem_cons.mpr ⟨lw_p26, List.forall_mem_cons.mpr ⟨lw_p27, List.forall_mem_cons.mpr ⟨lw_p28, List.forall_mem_cons.mpr ⟨lw_p29, List.forall_mem_cons.mpr ⟨lw_p30, List.forall_mem_cons.mpr ⟨lw_p31, fun _ h => absurd h List.not_mem_nil⟩⟩⟩⟩⟩⟩⟩⟩⟩⟩⟩⟩⟩⟩⟩⟩
theorem lw_p32 : lw_okq (⟨"NewsShips$Asks", "markOfTrader", "(I)I"⟩, 3) := ⟨⟨by decide +kernel, by decide +kernel⟩, List.mem_of_getElem? (i := 282) (by decide +kernel), List.mem_of_getElem? (i := 843) (by decide +kernel), List.mem_of_getElem? (i := 844) (by decide +kernel)⟩
theorem lw_p33 : lw_okq (⟨"NewsShips$Asks", "markOfShip", "(I)I"⟩, 3) := ⟨⟨by decide +kernel, by decide +kernel⟩, List.mem_of_getElem? (i := 282) (by decide +kernel), List.mem_of_getElem? (i := 847) (by decide +kernel), List.mem_of_getElem? (i := 848) (by decide +kernel)⟩
theorem lw_p34 : lw_okq (⟨"NewsShipsModel", "found", "(I)I"⟩, 27) := ⟨⟨by decide +kernel, by decide +kernel⟩, List.mem_of_getElem? (i := 874) (by decide +kernel), List.mem_of_getElem? (i := 976) (by decide +kernel), List.mem_of_getElem? (i := 977) (by decide +kernel)⟩
theorem lw_p35 : lw_okq (⟨"NewsShipsModel", "well", "(I)I"⟩, 27) := ⟨⟨by decide +kernel, by decide +kernel⟩, List.mem_of_getElem? (i := 874) (by decide +kernel), List.mem_of_getElem? (i := 981) (by decide +kernel), List.mem_of_getElem? (i := 982) (by decide +kernel)⟩
theorem lw_p36 : lw_okq (⟨"NewsShipsModel", "reads", "()Z"⟩, 27) := ⟨⟨by decide +kernel, by decide +kernel⟩, List.mem_of_getElem? (i := 874) (by decide +kernel), List.mem_of_getElem? (i := 1007) (by decide +kernel), List.mem_of_getElem? (i := 1008) (by decide +kernel)⟩
theorem lw_p37 : lw_okq (⟨"NewsShipsModel", "next", "()V"⟩, 27) := ⟨⟨by decide +kernel, by decide +kernel⟩, List.mem_of_getElem? (i := 874) (by decide +kernel), List.mem_of_getElem? (i := 1011) (by decide +kernel), List.mem_of_getElem? (i := 1012) (by decide +kernel)⟩
theorem lw_p38 : lw_okq (⟨"NewsShipsModel", "fails", "(I)Z"⟩, 27) := ⟨⟨by decide +kernel, by decide +kernel⟩, List.mem_of_getElem? (i := 874) (by decide +kernel), List.mem_of_getElem? (i := 1022) (by decide +kernel), List.mem_of_getElem? (i := 1023) (by decide +kernel)⟩
theorem lw_p39 : lw_okq (⟨"NewsShipsModel", "number", "(IIII)Z"⟩, 27) := ⟨⟨by decide +kernel, by decide +kernel⟩, List.mem_of_getElem? (i := 874) (by decide +kernel), List.mem_of_getElem? (i := 1026) (by decide +kernel), List.mem_of_getElem? (i := 1027) (by decide +kernel)⟩
theorem lw_p40 : lw_okq (⟨"NewsShipsModel", "sign", "(I)Z"⟩, 27) := ⟨⟨by decide +kernel, by decide +kernel⟩, List.mem_of_getElem? (i := 874) (by decide +kernel), List.mem_of_getElem? (i := 1030) (by decide +kernel), List.mem_of_getElem? (i := 1031) (by decide +kernel)⟩
theorem lw_p41 : lw_okq (⟨"NewsShipsModel", "readsWay", "()Z"⟩, 27) := ⟨⟨by decide +kernel, by decide +kernel⟩, List.mem_of_getElem? (i := 874) (by decide +kernel), List.mem_of_getElem? (i := 1034) (by decide +kernel), List.mem_of_getElem? (i := 1035) (by decide +kernel)⟩
theorem lw_p42 : lw_okq (⟨"NewsShipsModel", "readsShip", "()Z"⟩, 27) := ⟨⟨by decide +kernel, by decide +kernel⟩, List.mem_of_getElem? (i := 874) (by decide +kernel), List.mem_of_getElem? (i := 1038) (by decide +kernel), List.mem_of_getElem? (i := 1039) (by decide +kernel)⟩
theorem lw_p43 : lw_okq (⟨"NewsShipsModel", "isPort", "(I)Z"⟩, 27) := ⟨⟨by decide +kernel, by decide +kernel⟩, List.mem_of_getElem? (i := 874) (by decide +kernel), List.mem_of_getElem? (i := 1057) (by decide +kernel), List.mem_of_getElem? (i := 1058) (by decide +kernel)⟩
theorem lw_p44 : lw_okq (⟨"NewsShipsModel", "remember", "()V"⟩, 27) := ⟨⟨by decide +kernel, by decide +kernel⟩, List.mem_of_getElem? (i := 874) (by decide +kernel), List.mem_of_getElem? (i := 1061) (by decide +kernel), List.mem_of_getElem? (i := 1062) (by decide +kernel)⟩
theorem lw_p45 : lw_okq (⟨"NewsShipsModel", "isShip", "(I)Z"⟩, 27) := ⟨⟨by decide +kernel, by decide +kernel⟩, List.mem_of_getElem? (i := 874) (by decide +kernel), List.mem_of_getElem? (i := 1075) (by decide +kernel), List.mem_of_getElem? (i := 1076) (by decide +kernel)⟩
theorem lw_p46 : lw_okq (⟨"NewsShipsModel", "isWay", "(I)Z"⟩, 27) := ⟨⟨by decide +kernel, by decide +kernel⟩, List.mem_of_getElem? (i := 874) (by decide +kernel), List.mem_of_getElem? (i := 1079) (by decide +kernel), List.mem_of_getElem? (i := 1080) (by decide +kernel)⟩
theorem lw_p47 : lw_okq (⟨"NewsShipsModel", "isNews", "(I)Z"⟩, 27) := ⟨⟨by decide +kernel, by decide +kernel⟩, List.mem_of_getElem? (i := 874) (by decide +kernel), List.mem_of_getElem? (i := 1127) (by decide +kernel), List.mem_of_getElem? (i := 1128) (by decide +kernel)⟩
def lw_privs_3 : List (MethodName × Nat) := [(⟨"NewsShips$Asks", "markOfTrader", "(I)I"⟩, 3), (⟨"NewsShips$Asks", "markOfShip", "(I)I"⟩, 3), (⟨"NewsShipsModel", "found", "(I)I"⟩, 27), (⟨"NewsShipsModel", "well", "(I)I"⟩, 27), (⟨"NewsShipsModel", "reads", "()Z"⟩, 27), (⟨"NewsShipsModel", "next", "()V"⟩, 27), (⟨"NewsShipsModel", "fails", "(I)Z"⟩, 27), (⟨"NewsShipsModel", "number", "(IIII)Z"⟩, 27), (⟨"NewsShipsModel", "sign", "(I)Z"⟩, 27), (⟨"NewsShipsModel", "readsWay", "()Z"⟩, 27), (⟨"NewsShipsModel", "readsShip", "()Z"⟩, 27), (⟨"NewsShipsModel", "isPort", "(I)Z"⟩, 27), (⟨"NewsShipsModel", "remember", "()V"⟩, 27), (⟨"NewsShipsModel", "isShip", "(I)Z"⟩, 27), (⟨"NewsShipsModel", "isWay", "(I)Z"⟩, 27), (⟨"NewsShipsModel", "isNews", "(I)Z"⟩, 27)]
theorem lw_r3 : ∀ q ∈ lw_privs_3, lw_okq q := List.forall_mem_cons.mpr ⟨lw_p32, List.forall_mem_cons.mpr ⟨lw_p33, List.forall_mem_cons.mpr ⟨lw_p34, List.forall_mem_cons.mpr ⟨lw_p35, List.forall_mem_cons.mpr ⟨lw_p36, List.forall_mem_cons.mpr ⟨lw_p37, List.forall_mem_cons.mpr ⟨lw_p38, List.forall_mem_cons.mpr ⟨lw_p39, List.forall_mem_cons.mpr ⟨lw_p40, List.forall_mem_cons.mpr ⟨lw_p41, List.forall_mem_cons.mpr ⟨lw_p42, List.forall_mem_cons.mpr ⟨lw_p43, List.forall_mem_cons.mpr ⟨lw_p44, List.forall_mem_cons.mpr ⟨lw_p45, List.forall_mem_cons.mpr ⟨lw_p46, List.forall_mem_cons.mpr ⟨lw_p47, fun _ h => absurd h List.not_mem_nil⟩⟩⟩⟩⟩⟩⟩⟩⟩⟩⟩⟩⟩⟩⟩⟩
theorem lw_p48 : lw_okq (⟨"NewsShipsModel", "tries", "(III)V"⟩, 27) := ⟨⟨by decide +kernel, by decide +kernel⟩, List.mem_of_getElem? (i := 874) (by decide +kernel), List.mem_of_getElem? (i := 1147) (by decide +kernel), List.mem_of_getElem? (i := 1148) (by decide +kernel)⟩
theorem lw_p49 : lw_okq (⟨"NewsShipsModel", "layBrings", "(II)V"⟩, 27) := ⟨⟨by decide +kernel, by decide +kernel⟩, List.mem_of_getElem? (i := 874) (by decide +kernel), List.mem_of_getElem? (i := 1155) (by decide +kernel), List.mem_of_getElem? (i := 1156) (by decide +kernel)⟩
theorem lw_p50 : lw_okq (⟨"NewsShipsModel", "layComes", "(I)V"⟩, 27) := ⟨⟨by decide +kernel, by decide +kernel⟩, List.mem_of_getElem? (i := 874) (by decide +kernel), List.mem_of_getElem? (i := 1159) (by decide +kernel), List.mem_of_getElem? (i := 1160) (by decide +kernel)⟩
theorem lw_p51 : lw_okq (⟨"NewsShipsModel", "beginOf", "(I)I"⟩, 27) := ⟨⟨by decide +kernel, by decide +kernel⟩, List.mem_of_getElem? (i := 874) (by decide +kernel), List.mem_of_getElem? (i := 1163) (by decide +kernel), List.mem_of_getElem? (i := 1164) (by decide +kernel)⟩
theorem lw_p52 : lw_okq (⟨"NewsShipsModel", "sinks", "(I[I)V"⟩, 27) := ⟨⟨by decide +kernel, by decide +kernel⟩, List.mem_of_getElem? (i := 874) (by decide +kernel), List.mem_of_getElem? (i := 1168) (by decide +kernel), List.mem_of_getElem? (i := 1169) (by decide +kernel)⟩
theorem lw_p53 : lw_okq (⟨"NewsShipsModel", "lays", "(IIIIIIZ)V"⟩, 27) := ⟨⟨by decide +kernel, by decide +kernel⟩, List.mem_of_getElem? (i := 874) (by decide +kernel), List.mem_of_getElem? (i := 1177) (by decide +kernel), List.mem_of_getElem? (i := 1178) (by decide +kernel)⟩
theorem lw_p54 : lw_okq (⟨"NewsShipsModel", "isThere", "(II)Z"⟩, 27) := ⟨⟨by decide +kernel, by decide +kernel⟩, List.mem_of_getElem? (i := 874) (by decide +kernel), List.mem_of_getElem? (i := 1181) (by decide +kernel), List.mem_of_getElem? (i := 1182) (by decide +kernel)⟩
theorem lw_p55 : lw_okq (⟨"NewsShipsModel", "laySignals", "()V"⟩, 27) := ⟨⟨by decide +kernel, by decide +kernel⟩, List.mem_of_getElem? (i := 874) (by decide +kernel), List.mem_of_getElem? (i := 1199) (by decide +kernel), List.mem_of_getElem? (i := 1200) (by decide +kernel)⟩
theorem lw_p56 : lw_okq (⟨"NewsShipsModel", "obeys", "(II)I"⟩, 27) := ⟨⟨by decide +kernel, by decide +kernel⟩, List.mem_of_getElem? (i := 874) (by decide +kernel), List.mem_of_getElem? (i := 1224) (by decide +kernel), List.mem_of_getElem? (i := 1225) (by decide +kernel)⟩
theorem lw_p57 : lw_okq (⟨"NewsShipsModel", "mark", "(I)I"⟩, 27) := ⟨⟨by decide +kernel, by decide +kernel⟩, List.mem_of_getElem? (i := 874) (by decide +kernel), List.mem_of_getElem? (i := 1252) (by decide +kernel), List.mem_of_getElem? (i := 1253) (by decide +kernel)⟩
theorem lw_p58 : lw_okq (⟨"NewsShipsModel", "leave", "(J)V"⟩, 27) := ⟨⟨by decide +kernel, by decide +kernel⟩, List.mem_of_getElem? (i := 874) (by decide +kernel), List.mem_of_getElem? (i := 1259) (by decide +kernel), List.mem_of_getElem? (i := 1260) (by decide +kernel)⟩
theorem lw_p59 : lw_okq (⟨"NewsShipsModel", "sizeOf", "(I)I"⟩, 27) := ⟨⟨by decide +kernel, by decide +kernel⟩, List.mem_of_getElem? (i := 874) (by decide +kernel), List.mem_of_getElem? (i := 1266) (by decide +kernel), List.mem_of_getElem? (i := 1267) (by decide +kernel)⟩
def lw_privs_4 : List (MethodName × Nat) := [(⟨"NewsShipsModel", "tries", "(III)V"⟩, 27), (⟨"NewsShipsModel", "layBrings", "(II)V"⟩, 27), (⟨"NewsShipsModel", "layComes", "(I)V"⟩, 27), (⟨"NewsShipsModel", "beginOf", "(I)I"⟩, 27), (⟨"NewsShipsModel", "sinks", "(I[I)V"⟩, 27), (⟨"NewsShipsModel", "lays", "(IIIIIIZ)V"⟩, 27), (⟨"NewsShipsModel", "isThere", "(II)Z"⟩, 27), (⟨"NewsShipsModel", "laySignals", "()V"⟩, 27), (⟨"NewsShipsModel", "obeys", "(II)I"⟩, 27), (⟨"NewsShipsModel", "mark", "(I)I"⟩, 27), (⟨"NewsShipsModel", "leave", "(J)V"⟩, 27), (⟨"NewsShipsModel", "sizeOf", "(I)I"⟩, 27)]
theorem lw_r4 : ∀ q ∈ lw_privs_4, lw_okq q := List.forall_mem_cons.mpr ⟨lw_p48, List.forall_mem_cons.mpr ⟨lw_p49, List.forall_mem_cons.mpr ⟨lw_p50, List.forall_mem_cons.mpr ⟨lw_p51, List.forall_mem_cons.mpr ⟨lw_p52, List.forall_mem_cons.mpr ⟨lw_p53, List.forall_mem_cons.mpr ⟨lw_p54, List.forall_mem_cons.mpr ⟨lw_p55, List.forall_mem_cons.mpr ⟨lw_p56, List.forall_mem_cons.mpr ⟨lw_p57, List.forall_mem_cons.mpr ⟨lw_p58, List.forall_mem_cons.mpr ⟨lw_p59, fun _ h => absurd h List.not_mem_nil⟩⟩⟩⟩⟩⟩⟩⟩⟩⟩⟩⟩
def lw_privs : List (MethodName × Nat) := lw_privs_1 ++ (lw_privs_2 ++ (lw_privs_3 ++ (lw_privs_4)))
def lw_tbl : List Cond := k2_sels lw_privs ++ tables_1
theorem lw_privs_ok : ∀ q ∈ lw_privs, lw_okq q := by
  show ∀ q ∈ lw_privs_1 ++ (lw_privs_2 ++ (lw_privs_3 ++ (lw_privs_4))), lw_okq q
  exact List.forall_mem_append.mpr ⟨lw_r1, List.forall_mem_append.mpr ⟨lw_r2, List.forall_mem_append.mpr ⟨lw_r3, lw_r4⟩⟩⟩

/-! ===== BEGIN words of one list among another's, by their places ===== -/
theorem goodIn_r {big : List Cond} (ws : List Cond) (ps : List Nat) (hp : ws = ps.filterMap (fun i => big[i]?)) (h : ws.all goodWord = true) : GoodIn big ws := by
  intro w hw
  have h1 := List.all_eq_true.mp h w hw
  rw [hp] at hw
  obtain ⟨i, -, hi⟩ := List.mem_filterMap.mp hw
  have hm : w ∈ big := by first | exact List.mem_of_getElem? hi | exact List.getElem?_mem hi
  exact ⟨hm, good_of_word h1⟩
theorem goodIn_app {big a b : List Cond} (ha : GoodIn big a) (hb : GoodIn big b) : GoodIn big (a ++ b) := fun w h => (List.mem_append.mp h).elim (ha w) (hb w)
theorem goodIn_ca {big a b : List Cond} {c : Cond} (ha : GoodIn big (c :: a)) (hb : GoodIn big b) : GoodIn big (c :: (a ++ b)) := fun w h => (List.mem_cons.mp h).elim (fun e => ha w (List.mem_cons.mpr (Or.inl e))) (fun h => (List.mem_append.mp h).elim (fun h => ha w (List.mem_cons.mpr (Or.inr h))) (hb w))
theorem goodIn_sub {big ws : List Cond} (hm : ∀ w ∈ ws, w ∈ big) (h : ws.all goodWord = true) : GoodIn big ws := fun w hw => ⟨hm w hw, good_of_word (List.all_eq_true.mp h w hw)⟩
/-! ===== END ===== -/
def RX0 : String := "NewsShips$Acts"
def TX0 : u_T := fun k => match k with
  | 0 => ("NewsShips$Acts", "before", "[LNewsShips$League;", true)
  | 1 => ("NewsShips$Acts", "next", "I", false)
  | _ => ("NewsShips$Acts", "size", "I", false)
def tyX0 : Nat → FieldType := fun k => match k with
  | 0 => .array (.object "NewsShips$League")
  | 1 => .int
  | _ => .int
abbrev wsX00 : List Cond := u_ws RX0 TX0 3
theorem nmX0 : ∀ a, a < 3 → ∀ b, b < 3 → a ≠ b → (TX0 a).2.1 ≠ (TX0 b).2.1 := by decide +kernel
theorem tyX0_ok : ∀ k, k < 3 → parseFieldDescriptor (TX0 k).2.2.1 = some (tyX0 k) := by decide +kernel
abbrev cX0_init : ByteArray := prog_2_method_1_code
def yX0_init : MethodName := ⟨RX0, "<init>", "()V"⟩
abbrev cX0_forget : ByteArray := prog_2_method_2_code
def yX0_forget : MethodName := ⟨RX0, "forget", "()V"⟩
abbrev cX0_keep : ByteArray := prog_2_method_3_code
def yX0_keep : MethodName := ⟨RX0, "keep", "(LNewsShips$League;)V"⟩
abbrev cX0_giveBack : ByteArray := prog_2_method_4_code
def yX0_giveBack : MethodName := ⟨RX0, "giveBack", "(LNewsShips$League;)V"⟩
def RX1 : String := "NewsShips$Asks"
def TX1 : u_T := fun k => match k with
  | 0 => ("NewsShips$Asks", "bodies", "[I", true)
  | 1 => ("NewsShips$Asks", "steps", "I", false)
  | _ => ("NewsShips$Asks", "league", "LNewsShips$League;", true)
def tyX1 : Nat → FieldType := fun k => match k with
  | 0 => .array .int
  | 1 => .int
  | _ => .object "NewsShips$League"
abbrev wsX10 : List Cond := u_ws RX1 TX1 3
theorem nmX1 : ∀ a, a < 3 → ∀ b, b < 3 → a ≠ b → (TX1 a).2.1 ≠ (TX1 b).2.1 := by decide +kernel
theorem tyX1_ok : ∀ k, k < 3 → parseFieldDescriptor (TX1 k).2.2.1 = some (tyX1 k) := by decide +kernel
abbrev cX1_init : ByteArray := prog_3_method_1_code
def yX1_init : MethodName := ⟨RX1, "<init>", "(LNewsShips$League;)V"⟩
abbrev cX1_sizeOf : ByteArray := prog_3_method_2_code
def yX1_sizeOf : MethodName := ⟨RX1, "sizeOf", "(I)I"⟩
abbrev cX1_markOf : ByteArray := prog_3_method_3_code
def yX1_markOf : MethodName := ⟨RX1, "markOf", "(I)I"⟩
abbrev cX1_sizeOfShip : ByteArray := prog_3_method_4_code
def yX1_sizeOfShip : MethodName := ⟨RX1, "sizeOfShip", "(I)I"⟩
abbrev cX1_sizeOfTrader : ByteArray := prog_3_method_5_code
def yX1_sizeOfTrader : MethodName := ⟨RX1, "sizeOfTrader", "(I)I"⟩
abbrev cX1_sizeAmongCouriers : ByteArray := prog_3_method_6_code
def yX1_sizeAmongCouriers : MethodName := ⟨RX1, "sizeAmongCouriers", "(I)I"⟩
abbrev cX1_sizeOfCourier : ByteArray := prog_3_method_7_code
def yX1_sizeOfCourier : MethodName := ⟨RX1, "sizeOfCourier", "(I)I"⟩
abbrev cX1_markOfShip : ByteArray := prog_3_method_8_code
def yX1_markOfShip : MethodName := ⟨RX1, "markOfShip", "(I)I"⟩
abbrev cX1_markAmongTraders : ByteArray := prog_3_method_9_code
def yX1_markAmongTraders : MethodName := ⟨RX1, "markAmongTraders", "(I)I"⟩
abbrev cX1_markOfTrader : ByteArray := prog_3_method_10_code
def yX1_markOfTrader : MethodName := ⟨RX1, "markOfTrader", "(I)I"⟩
abbrev cX1_leave : ByteArray := prog_3_method_11_code
def yX1_leave : MethodName := ⟨RX1, "leave", "(I)V"⟩
def RX2 : String := "NewsShips$Foretold"
def TX2 : u_T := fun k => match k with
  | 0 => ("NewsShips$Foretold", "since", "[I", true)
  | 1 => ("NewsShips$Foretold", "there", "[I", true)
  | 2 => ("NewsShips$Foretold", "knowing", "[I", true)
  | 3 => ("NewsShips$Foretold", "heard", "[I", true)
  | 4 => ("NewsShips$Foretold", "heardFromOne", "[I", true)
  | _ => ("NewsShips$Foretold", "league", "LNewsShips$League;", true)
def tyX2 : Nat → FieldType := fun k => match k with
  | 0 => .array .int
  | 1 => .array .int
  | 2 => .array .int
  | 3 => .array .int
  | 4 => .array .int
  | _ => .object "NewsShips$League"
abbrev wsX20 : List Cond := u_ws RX2 TX2 6
theorem nmX2 : ∀ a, a < 6 → ∀ b, b < 6 → a ≠ b → (TX2 a).2.1 ≠ (TX2 b).2.1 := by decide +kernel
theorem tyX2_ok : ∀ k, k < 6 → parseFieldDescriptor (TX2 k).2.2.1 = some (tyX2 k) := by decide +kernel
abbrev cX2_init : ByteArray := prog_4_method_1_code
def yX2_init : MethodName := ⟨RX2, "<init>", "(LNewsShips$League;)V"⟩
abbrev cX2_foretell : ByteArray := prog_4_method_2_code
def yX2_foretell : MethodName := ⟨RX2, "foretell", "(II)V"⟩
abbrev cX2_foretellWithout : ByteArray := prog_4_method_3_code
def yX2_foretellWithout : MethodName := ⟨RX2, "foretellWithout", "(II)V"⟩
abbrev cX2_foretellKnowing : ByteArray := prog_4_method_4_code
def yX2_foretellKnowing : MethodName := ⟨RX2, "foretellKnowing", "(II)V"⟩
abbrev cX2_dayCarried : ByteArray := prog_4_method_5_code
def yX2_dayCarried : MethodName := ⟨RX2, "dayCarried", "(III)I"⟩
abbrev cX2_daysAhead : ByteArray := prog_4_method_6_code
def yX2_daysAhead : MethodName := ⟨RX2, "daysAhead", "(III)I"⟩
abbrev cX2_dayAllSure : ByteArray := prog_4_method_7_code
def yX2_dayAllSure : MethodName := ⟨RX2, "dayAllSure", "(II)I"⟩
abbrev cX2_hearFromAll : ByteArray := prog_4_method_8_code
def yX2_hearFromAll : MethodName := ⟨RX2, "hearFromAll", "()V"⟩
abbrev cX2_spreadFrom : ByteArray := prog_4_method_9_code
def yX2_spreadFrom : MethodName := ⟨RX2, "spreadFrom", "(II)V"⟩
abbrev cX2_origins : ByteArray := prog_4_method_10_code
def yX2_origins : MethodName := ⟨RX2, "origins", "([III)I"⟩
abbrev cX2_fits : ByteArray := prog_4_method_11_code
def yX2_fits : MethodName := ⟨RX2, "fits", "([III)Z"⟩
abbrev cX2_weightInTime : ByteArray := prog_4_method_12_code
def yX2_weightInTime : MethodName := ⟨RX2, "weightInTime", "(IIII)I"⟩
abbrev cX2_weightOf : ByteArray := prog_4_method_13_code
def yX2_weightOf : MethodName := ⟨RX2, "weightOf", "(III)I"⟩
abbrev cX2_weightOfAll : ByteArray := prog_4_method_14_code
def yX2_weightOfAll : MethodName := ⟨RX2, "weightOfAll", "()I"⟩
abbrev cX2_spread : ByteArray := prog_4_method_15_code
def yX2_spread : MethodName := ⟨RX2, "spread", "([II)V"⟩
def RX3 : String := "NewsShips$League"
def TX3 : u_T := fun k => match k with
  | 0 => ("NewsShips$League", "ports", "I", false)
  | 1 => ("NewsShips$League", "ways", "I", false)
  | 2 => ("NewsShips$League", "ships", "I", false)
  | 3 => ("NewsShips$League", "day", "I", false)
  | 4 => ("NewsShips$League", "newsCount", "I", false)
  | 5 => ("NewsShips$League", "wayFrom", "[I", true)
  | 6 => ("NewsShips$League", "wayTo", "[I", true)
  | 7 => ("NewsShips$League", "wayDays", "[I", true)
  | 8 => ("NewsShips$League", "kinds", "[I", true)
  | 9 => ("NewsShips$League", "berth", "[I", true)
  | 10 => ("NewsShips$League", "due", "[I", true)
  | 11 => ("NewsShips$League", "pence", "[I", true)
  | 12 => ("NewsShips$League", "told", "[I", true)
  | 13 => ("NewsShips$League", "begun", "[I", true)
  | 14 => ("NewsShips$League", "origin", "[I", true)
  | _ => ("NewsShips$League", "since", "[I", true)
def tyX3 : Nat → FieldType := fun k => match k with
  | 0 => .int
  | 1 => .int
  | 2 => .int
  | 3 => .int
  | 4 => .int
  | 5 => .array .int
  | 6 => .array .int
  | 7 => .array .int
  | 8 => .array .int
  | 9 => .array .int
  | 10 => .array .int
  | 11 => .array .int
  | 12 => .array .int
  | 13 => .array .int
  | 14 => .array .int
  | _ => .array .int
abbrev wsX30 : List Cond := u_ws RX3 TX3 16
theorem nmX3 : ∀ a, a < 16 → ∀ b, b < 16 → a ≠ b → (TX3 a).2.1 ≠ (TX3 b).2.1 := by decide +kernel
theorem tyX3_ok : ∀ k, k < 16 → parseFieldDescriptor (TX3 k).2.2.1 = some (tyX3 k) := by decide +kernel
abbrev cX3_init : ByteArray := prog_5_method_1_code
def yX3_init : MethodName := ⟨RX3, "<init>", "()V"⟩
abbrev cX3_clear : ByteArray := prog_5_method_2_code
def yX3_clear : MethodName := ⟨RX3, "clear", "()V"⟩
abbrev cX3_become : ByteArray := prog_5_method_3_code
def yX3_become : MethodName := ⟨RX3, "become", "(LNewsShips$League;)V"⟩
abbrev cX3_isNone : ByteArray := prog_5_method_4_code
def yX3_isNone : MethodName := ⟨RX3, "isNone", "()Z"⟩
abbrev cX3_isPort : ByteArray := prog_5_method_5_code
def yX3_isPort : MethodName := ⟨RX3, "isPort", "(I)Z"⟩
abbrev cX3_isWay : ByteArray := prog_5_method_6_code
def yX3_isWay : MethodName := ⟨RX3, "isWay", "(I)Z"⟩
abbrev cX3_isShip : ByteArray := prog_5_method_7_code
def yX3_isShip : MethodName := ⟨RX3, "isShip", "(I)Z"⟩
abbrev cX3_isNews : ByteArray := prog_5_method_8_code
def yX3_isNews : MethodName := ⟨RX3, "isNews", "(I)Z"⟩
abbrev cX3_addWay : ByteArray := prog_5_method_9_code
def yX3_addWay : MethodName := ⟨RX3, "addWay", "(III)V"⟩
abbrev cX3_addShip : ByteArray := prog_5_method_10_code
def yX3_addShip : MethodName := ⟨RX3, "addShip", "(II)V"⟩
abbrev cX3_daysOn : ByteArray := prog_5_method_11_code
def yX3_daysOn : MethodName := ⟨RX3, "daysOn", "(II)I"⟩
abbrev cX3_isAtSea : ByteArray := prog_5_method_12_code
def yX3_isAtSea : MethodName := ⟨RX3, "isAtSea", "(I)Z"⟩
abbrev cX3_canLeave : ByteArray := prog_5_method_13_code
def yX3_canLeave : MethodName := ⟨RX3, "canLeave", "(II)Z"⟩
abbrev cX3_leave : ByteArray := prog_5_method_14_code
def yX3_leave : MethodName := ⟨RX3, "leave", "(II)V"⟩
abbrev cX3_isTold : ByteArray := prog_5_method_15_code
def yX3_isTold : MethodName := ⟨RX3, "isTold", "(II)Z"⟩
abbrev cX3_knownSince : ByteArray := prog_5_method_16_code
def yX3_knownSince : MethodName := ⟨RX3, "knownSince", "(II)I"⟩
abbrev cX3_learn : ByteArray := prog_5_method_17_code
def yX3_learn : MethodName := ⟨RX3, "learn", "(II)I"⟩
abbrev cX3_newsIn : ByteArray := prog_5_method_18_code
def yX3_newsIn : MethodName := ⟨RX3, "newsIn", "(I)I"⟩
abbrev cX3_shipsIn : ByteArray := prog_5_method_19_code
def yX3_shipsIn : MethodName := ⟨RX3, "shipsIn", "(I)I"⟩
abbrev cX3_shipsAtSea : ByteArray := prog_5_method_20_code
def yX3_shipsAtSea : MethodName := ⟨RX3, "shipsAtSea", "()I"⟩
abbrev cX3_begin : ByteArray := prog_5_method_21_code
def yX3_begin : MethodName := ⟨RX3, "begin", "(I)I"⟩
abbrev cX3_passDay : ByteArray := prog_5_method_22_code
def yX3_passDay : MethodName := ⟨RX3, "passDay", "()I"⟩
abbrev cX3_signal : ByteArray := prog_5_method_23_code
def yX3_signal : MethodName := ⟨RX3, "signal", "(III)I"⟩
abbrev cX3_tellPort : ByteArray := prog_5_method_24_code
def yX3_tellPort : MethodName := ⟨RX3, "tellPort", "(I)I"⟩
abbrev cX3_tellShipsInPorts : ByteArray := prog_5_method_25_code
def yX3_tellShipsInPorts : MethodName := ⟨RX3, "tellShipsInPorts", "()V"⟩
def RX4 : String := "NewsShips$Reader"
def TX4 : u_T := fun k => match k with
  | 0 => ("NewsShips$Reader", "draft", "LNewsShips$League;", true)
  | 1 => ("NewsShips$Reader", "fault", "I", false)
  | _ => ("NewsShips$Reader", "tape", "LNewsShips$Tape;", true)
def tyX4 : Nat → FieldType := fun k => match k with
  | 0 => .object "NewsShips$League"
  | 1 => .int
  | _ => .object "NewsShips$Tape"
abbrev wsX40 : List Cond := u_ws RX4 TX4 3
theorem nmX4 : ∀ a, a < 3 → ∀ b, b < 3 → a ≠ b → (TX4 a).2.1 ≠ (TX4 b).2.1 := by decide +kernel
theorem tyX4_ok : ∀ k, k < 3 → parseFieldDescriptor (TX4 k).2.2.1 = some (tyX4 k) := by decide +kernel
abbrev cX4_init : ByteArray := prog_6_method_1_code
def yX4_init : MethodName := ⟨RX4, "<init>", "(LNewsShips$Tape;)V"⟩
abbrev cX4_readWhole : ByteArray := prog_6_method_2_code
def yX4_readWhole : MethodName := ⟨RX4, "readWhole", "()Z"⟩
abbrev cX4_readPorts : ByteArray := prog_6_method_3_code
def yX4_readPorts : MethodName := ⟨RX4, "readPorts", "()Z"⟩
abbrev cX4_readWays : ByteArray := prog_6_method_4_code
def yX4_readWays : MethodName := ⟨RX4, "readWays", "()Z"⟩
abbrev cX4_readWay : ByteArray := prog_6_method_5_code
def yX4_readWay : MethodName := ⟨RX4, "readWay", "()Z"⟩
abbrev cX4_readShips : ByteArray := prog_6_method_6_code
def yX4_readShips : MethodName := ⟨RX4, "readShips", "()Z"⟩
abbrev cX4_readShip : ByteArray := prog_6_method_7_code
def yX4_readShip : MethodName := ⟨RX4, "readShip", "()Z"⟩
abbrev cX4_kindOf : ByteArray := prog_6_method_8_code
def yX4_kindOf : MethodName := ⟨RX4, "kindOf", "(I)I"⟩
abbrev cX4_expect : ByteArray := prog_6_method_9_code
def yX4_expect : MethodName := ⟨RX4, "expect", "(I)Z"⟩
abbrev cX4_number : ByteArray := prog_6_method_10_code
def yX4_number : MethodName := ⟨RX4, "number", "(III)I"⟩
abbrev cX4_refuse : ByteArray := prog_6_method_11_code
def yX4_refuse : MethodName := ⟨RX4, "refuse", "(I)Z"⟩
def RX5 : String := "NewsShips$Renown"
def TX5 : u_T := fun k => match k with
  | 0 => ("NewsShips$Renown", "mostPorts", "I", false)
  | 1 => ("NewsShips$Renown", "fewestDays", "I", false)
  | 2 => ("NewsShips$Renown", "earliest", "[I", true)
  | 3 => ("NewsShips$Renown", "lastDay", "I", false)
  | 4 => ("NewsShips$Renown", "earlier", "Z", false)
  | 5 => ("NewsShips$Renown", "league", "LNewsShips$League;", true)
  | _ => ("NewsShips$Renown", "foretold", "LNewsShips$Foretold;", true)
def tyX5 : Nat → FieldType := fun k => match k with
  | 0 => .int
  | 1 => .int
  | 2 => .array .int
  | 3 => .int
  | 4 => .boolean
  | 5 => .object "NewsShips$League"
  | _ => .object "NewsShips$Foretold"
abbrev wsX50 : List Cond := u_ws RX5 TX5 7
theorem nmX5 : ∀ a, a < 7 → ∀ b, b < 7 → a ≠ b → (TX5 a).2.1 ≠ (TX5 b).2.1 := by decide +kernel
theorem tyX5_ok : ∀ k, k < 7 → parseFieldDescriptor (TX5 k).2.2.1 = some (tyX5 k) := by decide +kernel
abbrev cX5_init : ByteArray := prog_7_method_1_code
def yX5_init : MethodName := ⟨RX5, "<init>", "(LNewsShips$League;LNewsShips$Foretold;)V"⟩
abbrev cX5_seek : ByteArray := prog_7_method_2_code
def yX5_seek : MethodName := ⟨RX5, "seek", "(III)V"⟩
abbrev cX5_come : ByteArray := prog_7_method_3_code
def yX5_come : MethodName := ⟨RX5, "come", "(III)V"⟩
abbrev cX5_settle : ByteArray := prog_7_method_4_code
def yX5_settle : MethodName := ⟨RX5, "settle", "(II)V"⟩
abbrev cX5_judge : ByteArray := prog_7_method_5_code
def yX5_judge : MethodName := ⟨RX5, "judge", "(I)V"⟩
abbrev cX5_judgeOne : ByteArray := prog_7_method_6_code
def yX5_judgeOne : MethodName := ⟨RX5, "judgeOne", "(II)V"⟩
def RX6 : String := "NewsShips$Rows"
def TX6 : u_T := fun k => match k with
  | 0 => ("NewsShips$Rows", "lanes", "[I", true)
  | 1 => ("NewsShips$Rows", "sizes", "[I", true)
  | _ => ("NewsShips$Rows", "items", "[[I", true)
def tyX6 : Nat → FieldType := fun k => match k with
  | 0 => .array .int
  | 1 => .array .int
  | _ => .array (.array .int)
abbrev wsX60 : List Cond := u_ws RX6 TX6 3
theorem nmX6 : ∀ a, a < 3 → ∀ b, b < 3 → a ≠ b → (TX6 a).2.1 ≠ (TX6 b).2.1 := by decide +kernel
theorem tyX6_ok : ∀ k, k < 3 → parseFieldDescriptor (TX6 k).2.2.1 = some (tyX6 k) := by decide +kernel
abbrev cX6_init : ByteArray := prog_8_method_1_code
def yX6_init : MethodName := ⟨RX6, "<init>", "()V"⟩
abbrev cX6_isMissing : ByteArray := prog_8_method_2_code
def yX6_isMissing : MethodName := ⟨RX6, "isMissing", "(I)Z"⟩
abbrev cX6_present : ByteArray := prog_8_method_3_code
def yX6_present : MethodName := ⟨RX6, "present", "()I"⟩
abbrev cX6_lay : ByteArray := prog_8_method_4_code
def yX6_lay : MethodName := ⟨RX6, "lay", "(III)V"⟩
abbrev cX6_put : ByteArray := prog_8_method_5_code
def yX6_put : MethodName := ⟨RX6, "put", "(III)I"⟩
abbrev cX6_findingAt : ByteArray := prog_8_method_6_code
def yX6_findingAt : MethodName := ⟨RX6, "findingAt", "(III)I"⟩
abbrev cX6_findingOfMove : ByteArray := prog_8_method_7_code
def yX6_findingOfMove : MethodName := ⟨RX6, "findingOfMove", "(IIIII)I"⟩
abbrev cX6_hasPlaces : ByteArray := prog_8_method_8_code
def yX6_hasPlaces : MethodName := ⟨RX6, "hasPlaces", "(III)Z"⟩
def RX7 : String := "NewsShips$Tape"
def TX7 : u_T := fun k => match k with
  | 0 => ("NewsShips$Tape", "bytes", "[I", true)
  | 1 => ("NewsShips$Tape", "size", "I", false)
  | 2 => ("NewsShips$Tape", "token", "I", false)
  | 3 => ("NewsShips$Tape", "value", "I", false)
  | 4 => ("NewsShips$Tape", "start", "I", false)
  | _ => ("NewsShips$Tape", "behind", "I", false)
def tyX7 : Nat → FieldType := fun k => match k with
  | 0 => .array .int
  | 1 => .int
  | 2 => .int
  | 3 => .int
  | 4 => .int
  | _ => .int
abbrev wsX70 : List Cond := u_ws RX7 TX7 6
theorem nmX7 : ∀ a, a < 6 → ∀ b, b < 6 → a ≠ b → (TX7 a).2.1 ≠ (TX7 b).2.1 := by decide +kernel
theorem tyX7_ok : ∀ k, k < 6 → parseFieldDescriptor (TX7 k).2.2.1 = some (tyX7 k) := by decide +kernel
abbrev cX7_init : ByteArray := prog_9_method_1_code
def yX7_init : MethodName := ⟨RX7, "<init>", "()V"⟩
abbrev cX7_rewind : ByteArray := prog_9_method_2_code
def yX7_rewind : MethodName := ⟨RX7, "rewind", "()V"⟩
abbrev cX7_step : ByteArray := prog_9_method_3_code
def yX7_step : MethodName := ⟨RX7, "step", "()V"⟩
abbrev cX7_isFigure : ByteArray := prog_9_method_4_code
def yX7_isFigure : MethodName := ⟨RX7, "isFigure", "(I)Z"⟩
def RX8 : String := "NewsShips$Voyage"
def TX8 : u_T := fun k => match k with
  | 0 => ("NewsShips$Voyage", "league", "LNewsShips$League;", true)
  | _ => ("NewsShips$Voyage", "trial", "LNewsShips$League;", true)
def tyX8 : Nat → FieldType := fun k => match k with
  | 0 => .object "NewsShips$League"
  | _ => .object "NewsShips$League"
abbrev wsX80 : List Cond := u_ws RX8 TX8 2
theorem nmX8 : ∀ a, a < 2 → ∀ b, b < 2 → a ≠ b → (TX8 a).2.1 ≠ (TX8 b).2.1 := by decide +kernel
theorem tyX8_ok : ∀ k, k < 2 → parseFieldDescriptor (TX8 k).2.2.1 = some (tyX8 k) := by decide +kernel
abbrev cX8_init : ByteArray := prog_10_method_1_code
def yX8_init : MethodName := ⟨RX8, "<init>", "(LNewsShips$League;)V"⟩
abbrev cX8_follow : ByteArray := prog_10_method_2_code
def yX8_follow : MethodName := ⟨RX8, "follow", "(I[III)V"⟩
abbrev cX8_outcome : ByteArray := prog_10_method_3_code
def yX8_outcome : MethodName := ⟨RX8, "outcome", "(II)I"⟩
abbrev cX8_setOut : ByteArray := prog_10_method_4_code
def yX8_setOut : MethodName := ⟨RX8, "setOut", "(II)Z"⟩
abbrev cX8_comeIn : ByteArray := prog_10_method_5_code
def yX8_comeIn : MethodName := ⟨RX8, "comeIn", "(I)V"⟩
def RX9 : String := "NewsShips"
def TX9 : u_T := fun k => match k with
  | 0 => ("NewsShips", "rows", "LNewsShips$Rows;", true)
  | 1 => ("NewsShips", "tape", "LNewsShips$Tape;", true)
  | 2 => ("NewsShips", "reader", "LNewsShips$Reader;", true)
  | 3 => ("NewsShips", "league", "LNewsShips$League;", true)
  | 4 => ("NewsShips", "acts", "LNewsShips$Acts;", true)
  | 5 => ("NewsShips", "images", "[LNewsShips$League;", true)
  | 6 => ("NewsShips", "foretold", "LNewsShips$Foretold;", true)
  | 7 => ("NewsShips", "renown", "LNewsShips$Renown;", true)
  | 8 => ("NewsShips", "voyage", "LNewsShips$Voyage;", true)
  | 9 => ("NewsShips", "asks", "LNewsShips$Asks;", true)
  | 10 => ("NewsShips", "latestFault", "I", false)
  | _ => ("NewsShips", "finding", "I", false)
def tyX9 : Nat → FieldType := fun k => match k with
  | 0 => .object "NewsShips$Rows"
  | 1 => .object "NewsShips$Tape"
  | 2 => .object "NewsShips$Reader"
  | 3 => .object "NewsShips$League"
  | 4 => .object "NewsShips$Acts"
  | 5 => .array (.object "NewsShips$League")
  | 6 => .object "NewsShips$Foretold"
  | 7 => .object "NewsShips$Renown"
  | 8 => .object "NewsShips$Voyage"
  | 9 => .object "NewsShips$Asks"
  | 10 => .int
  | _ => .int
abbrev wsX90 : List Cond := u_ws RX9 TX9 12
theorem nmX9 : ∀ a, a < 12 → ∀ b, b < 12 → a ≠ b → (TX9 a).2.1 ≠ (TX9 b).2.1 := by decide +kernel
theorem tyX9_ok : ∀ k, k < 12 → parseFieldDescriptor (TX9 k).2.2.1 = some (tyX9 k) := by decide +kernel
abbrev cX9_init : ByteArray := prog_1_method_1_code
def yX9_init : MethodName := ⟨RX9, "<init>", "()V"⟩
abbrev cX9_row : ByteArray := prog_1_method_2_code
def yX9_row : MethodName := ⟨RX9, "row", "(III)I"⟩
abbrev cX9_set : ByteArray := prog_1_method_3_code
def yX9_set : MethodName := ⟨RX9, "set", "(III)I"⟩
abbrev cX9_copy : ByteArray := prog_1_method_4_code
def yX9_copy : MethodName := ⟨RX9, "copy", "(IIIII)I"⟩
abbrev cX9_drop : ByteArray := prog_1_method_5_code
def yX9_drop : MethodName := ⟨RX9, "drop", "(I)I"⟩
abbrev cX9_feed : ByteArray := prog_1_method_6_code
def yX9_feed : MethodName := ⟨RX9, "feed", "(I)I"⟩
abbrev cX9_league : ByteArray := prog_1_method_7_code
def yX9_league : MethodName := ⟨RX9, "league", "()I"⟩
abbrev cX9_fault : ByteArray := prog_1_method_8_code
def yX9_fault : MethodName := ⟨RX9, "fault", "()I"⟩
abbrev cX9_happen : ByteArray := prog_1_method_9_code
def yX9_happen : MethodName := ⟨RX9, "happen", "(I)I"⟩
abbrev cX9_sail : ByteArray := prog_1_method_10_code
def yX9_sail : MethodName := ⟨RX9, "sail", "(II)I"⟩
abbrev cX9_days : ByteArray := prog_1_method_11_code
def yX9_days : MethodName := ⟨RX9, "days", "(I)I"⟩
abbrev cX9_undo : ByteArray := prog_1_method_12_code
def yX9_undo : MethodName := ⟨RX9, "undo", "()I"⟩
abbrev cX9_ship : ByteArray := prog_1_method_13_code
def yX9_ship : MethodName := ⟨RX9, "ship", "(II)I"⟩
abbrev cX9_port : ByteArray := prog_1_method_14_code
def yX9_port : MethodName := ⟨RX9, "port", "(II)I"⟩
abbrev cX9_news : ByteArray := prog_1_method_15_code
def yX9_news : MethodName := ⟨RX9, "news", "(II)I"⟩
abbrev cX9_knows : ByteArray := prog_1_method_16_code
def yX9_knows : MethodName := ⟨RX9, "knows", "(II)I"⟩
abbrev cX9_takes : ByteArray := prog_1_method_17_code
def yX9_takes : MethodName := ⟨RX9, "takes", "(II)I"⟩
abbrev cX9_ahead : ByteArray := prog_1_method_18_code
def yX9_ahead : MethodName := ⟨RX9, "ahead", "(II)I"⟩
abbrev cX9_carried : ByteArray := prog_1_method_19_code
def yX9_carried : MethodName := ⟨RX9, "carried", "(III)I"⟩
abbrev cX9_fame : ByteArray := prog_1_method_20_code
def yX9_fame : MethodName := ⟨RX9, "fame", "(IIII)I"⟩
abbrev cX9_overtaken : ByteArray := prog_1_method_21_code
def yX9_overtaken : MethodName := ⟨RX9, "overtaken", "(III)I"⟩
abbrev cX9_sure : ByteArray := prog_1_method_22_code
def yX9_sure : MethodName := ⟨RX9, "sure", "(II)I"⟩
abbrev cX9_began : ByteArray := prog_1_method_23_code
def yX9_began : MethodName := ⟨RX9, "began", "(III)I"⟩
abbrev cX9_odds : ByteArray := prog_1_method_24_code
def yX9_odds : MethodName := ⟨RX9, "odds", "(IIIII)I"⟩
abbrev cX9_followed : ByteArray := prog_1_method_25_code
def yX9_followed : MethodName := ⟨RX9, "followed", "(IIIII)I"⟩
abbrev cX9_image : ByteArray := prog_1_method_26_code
def yX9_image : MethodName := ⟨RX9, "image", "(I)I"⟩
abbrev cX9_restore : ByteArray := prog_1_method_27_code
def yX9_restore : MethodName := ⟨RX9, "restore", "(I)I"⟩
abbrev cX9_kind : ByteArray := prog_1_method_28_code
def yX9_kind : MethodName := ⟨RX9, "kind", "(I)I"⟩
abbrev cX9_as : ByteArray := prog_1_method_29_code
def yX9_as : MethodName := ⟨RX9, "as", "(II)I"⟩
abbrev cX9_ask : ByteArray := prog_1_method_30_code
def yX9_ask : MethodName := ⟨RX9, "ask", "(II)I"⟩
abbrev cX9_trace : ByteArray := prog_1_method_31_code
def yX9_trace : MethodName := ⟨RX9, "trace", "(I)I"⟩
abbrev cX9_count : ByteArray := prog_1_method_32_code
def yX9_count : MethodName := ⟨RX9, "count", "(I)I"⟩
abbrev cX9_status : ByteArray := prog_1_method_33_code
def yX9_status : MethodName := ⟨RX9, "status", "()I"⟩
abbrev cX9_found : ByteArray := prog_1_method_34_code
def yX9_found : MethodName := ⟨RX9, "found", "(I)I"⟩
abbrev cX9_fine : ByteArray := prog_1_method_35_code
def yX9_fine : MethodName := ⟨RX9, "fine", "(I)I"⟩
abbrev cX9_arePairs : ByteArray := prog_1_method_36_code
def yX9_arePairs : MethodName := ⟨RX9, "arePairs", "([III)Z"⟩
abbrev cX9_areOrders : ByteArray := prog_1_method_37_code
def yX9_areOrders : MethodName := ⟨RX9, "areOrders", "([III)Z"⟩
abbrev cX9_isOrder : ByteArray := prog_1_method_38_code
def yX9_isOrder : MethodName := ⟨RX9, "isOrder", "(I)Z"⟩
abbrev cX9_isRow : ByteArray := prog_1_method_39_code
def yX9_isRow : MethodName := ⟨RX9, "isRow", "(I)Z"⟩
abbrev cX9_within : ByteArray := prog_1_method_40_code
def yX9_within : MethodName := ⟨RX9, "within", "(III)Z"⟩
abbrev cX9_tillHorizon : ByteArray := prog_1_method_41_code
def yX9_tillHorizon : MethodName := ⟨RX9, "tillHorizon", "(I)I"⟩
abbrev cX9_isKind : ByteArray := prog_1_method_42_code
def yX9_isKind : MethodName := ⟨RX9, "isKind", "(II)Z"⟩
abbrev cX9_commonDivisor : ByteArray := prog_1_method_43_code
def yX9_commonDivisor : MethodName := ⟨RX9, "commonDivisor", "(II)I"⟩
def RX10 : String := "NewsShipsModel"
def TX10 : u_T := fun k => match k with
  | 0 => ("NewsShipsModel", "lanes", "[I", true)
  | 1 => ("NewsShipsModel", "sizes", "[I", true)
  | 2 => ("NewsShipsModel", "items", "[I", true)
  | 3 => ("NewsShipsModel", "status", "I", false)
  | 4 => ("NewsShipsModel", "tape", "[I", true)
  | 5 => ("NewsShipsModel", "taped", "I", false)
  | 6 => ("NewsShipsModel", "fault", "I", false)
  | 7 => ("NewsShipsModel", "isLeague", "Z", false)
  | 8 => ("NewsShipsModel", "now", "[I", true)
  | 9 => ("NewsShipsModel", "acts", "I", false)
  | 10 => ("NewsShipsModel", "before", "[I", true)
  | 11 => ("NewsShipsModel", "images", "[I", true)
  | 12 => ("NewsShipsModel", "kept", "[Z", true)
  | 13 => ("NewsShipsModel", "traced", "I", false)
  | 14 => ("NewsShipsModel", "trace", "[I", true)
  | 15 => ("NewsShipsModel", "at", "I", false)
  | 16 => ("NewsShipsModel", "begin", "I", false)
  | 17 => ("NewsShipsModel", "token", "I", false)
  | 18 => ("NewsShipsModel", "value", "I", false)
  | 19 => ("NewsShipsModel", "size", "I", false)
  | 20 => ("NewsShipsModel", "read", "[I", true)
  | 21 => ("NewsShipsModel", "tried", "[I", true)
  | 22 => ("NewsShipsModel", "without", "[I", true)
  | 23 => ("NewsShipsModel", "comes", "[I", true)
  | 24 => ("NewsShipsModel", "brings", "[I", true)
  | 25 => ("NewsShipsModel", "can", "[Z", true)
  | _ => ("NewsShipsModel", "signals", "[I", true)
def tyX10 : Nat → FieldType := fun k => match k with
  | 0 => .array .int
  | 1 => .array .int
  | 2 => .array .int
  | 3 => .int
  | 4 => .array .int
  | 5 => .int
  | 6 => .int
  | 7 => .boolean
  | 8 => .array .int
  | 9 => .int
  | 10 => .array .int
  | 11 => .array .int
  | 12 => .array .boolean
  | 13 => .int
  | 14 => .array .int
  | 15 => .int
  | 16 => .int
  | 17 => .int
  | 18 => .int
  | 19 => .int
  | 20 => .array .int
  | 21 => .array .int
  | 22 => .array .int
  | 23 => .array .int
  | 24 => .array .int
  | 25 => .array .boolean
  | _ => .array .int
abbrev wsX100 : List Cond := u_ws RX10 TX10 27
theorem nmX10 : ∀ a, a < 27 → ∀ b, b < 27 → a ≠ b → (TX10 a).2.1 ≠ (TX10 b).2.1 := by decide +kernel
theorem tyX10_ok : ∀ k, k < 27 → parseFieldDescriptor (TX10 k).2.2.1 = some (tyX10 k) := by decide +kernel
abbrev cX10_init : ByteArray := prog_12_method_1_code
def yX10_init : MethodName := ⟨RX10, "<init>", "()V"⟩
abbrev cX10_in : ByteArray := prog_12_method_3_code
def yX10_in : MethodName := ⟨RX10, "in", "(JJJ)Z"⟩
abbrev cX10_found : ByteArray := prog_12_method_4_code
def yX10_found : MethodName := ⟨RX10, "found", "(I)I"⟩
abbrev cX10_well : ByteArray := prog_12_method_5_code
def yX10_well : MethodName := ⟨RX10, "well", "(I)I"⟩
abbrev cX10_isRow : ByteArray := prog_12_method_6_code
def yX10_isRow : MethodName := ⟨RX10, "isRow", "(I)Z"⟩
abbrev cX10_row : ByteArray := prog_12_method_7_code
def yX10_row : MethodName := ⟨RX10, "row", "(III)I"⟩
abbrev cX10_set : ByteArray := prog_12_method_8_code
def yX10_set : MethodName := ⟨RX10, "set", "(III)I"⟩
abbrev cX10_copy : ByteArray := prog_12_method_9_code
def yX10_copy : MethodName := ⟨RX10, "copy", "(IIIII)I"⟩
abbrev cX10_drop : ByteArray := prog_12_method_10_code
def yX10_drop : MethodName := ⟨RX10, "drop", "(I)I"⟩
abbrev cX10_feed : ByteArray := prog_12_method_11_code
def yX10_feed : MethodName := ⟨RX10, "feed", "(I)I"⟩
abbrev cX10_isFigure : ByteArray := prog_12_method_12_code
def yX10_isFigure : MethodName := ⟨RX10, "isFigure", "(I)Z"⟩
abbrev cX10_next : ByteArray := prog_12_method_13_code
def yX10_next : MethodName := ⟨RX10, "next", "()V"⟩
abbrev cX10_fails : ByteArray := prog_12_method_14_code
def yX10_fails : MethodName := ⟨RX10, "fails", "(I)Z"⟩
abbrev cX10_number : ByteArray := prog_12_method_15_code
def yX10_number : MethodName := ⟨RX10, "number", "(IIII)Z"⟩
abbrev cX10_sign : ByteArray := prog_12_method_16_code
def yX10_sign : MethodName := ⟨RX10, "sign", "(I)Z"⟩
abbrev cX10_readsWay : ByteArray := prog_12_method_17_code
def yX10_readsWay : MethodName := ⟨RX10, "readsWay", "()Z"⟩
abbrev cX10_sortOf : ByteArray := prog_12_method_18_code
def yX10_sortOf : MethodName := ⟨RX10, "sortOf", "(I)I"⟩
abbrev cX10_readsShip : ByteArray := prog_12_method_19_code
def yX10_readsShip : MethodName := ⟨RX10, "readsShip", "()Z"⟩
abbrev cX10_reads : ByteArray := prog_12_method_20_code
def yX10_reads : MethodName := ⟨RX10, "reads", "()Z"⟩
abbrev cX10_league : ByteArray := prog_12_method_21_code
def yX10_league : MethodName := ⟨RX10, "league", "()I"⟩
abbrev cX10_fault : ByteArray := prog_12_method_22_code
def yX10_fault : MethodName := ⟨RX10, "fault", "()I"⟩
abbrev cX10_copies : ByteArray := prog_12_method_23_code
def yX10_copies : MethodName := ⟨RX10, "copies", "([II[II)V"⟩
abbrev cX10_isPort : ByteArray := prog_12_method_24_code
def yX10_isPort : MethodName := ⟨RX10, "isPort", "(I)Z"⟩
abbrev cX10_isShip : ByteArray := prog_12_method_25_code
def yX10_isShip : MethodName := ⟨RX10, "isShip", "(I)Z"⟩
abbrev cX10_isNews : ByteArray := prog_12_method_26_code
def yX10_isNews : MethodName := ⟨RX10, "isNews", "(I)Z"⟩
abbrev cX10_isWay : ByteArray := prog_12_method_27_code
def yX10_isWay : MethodName := ⟨RX10, "isWay", "(I)Z"⟩
abbrev cX10_isTwo : ByteArray := prog_12_method_28_code
def yX10_isTwo : MethodName := ⟨RX10, "isTwo", "(I)Z"⟩
abbrev cX10_bits : ByteArray := prog_12_method_29_code
def yX10_bits : MethodName := ⟨RX10, "bits", "(I)I"⟩
abbrev cX10_takesOf : ByteArray := prog_12_method_30_code
def yX10_takesOf : MethodName := ⟨RX10, "takesOf", "([III)I"⟩
abbrev cX10_knownIn : ByteArray := prog_12_method_31_code
def yX10_knownIn : MethodName := ⟨RX10, "knownIn", "([II)I"⟩
abbrev cX10_learns : ByteArray := prog_12_method_32_code
def yX10_learns : MethodName := ⟨RX10, "learns", "([I)V"⟩
abbrev cX10_hears : ByteArray := prog_12_method_33_code
def yX10_hears : MethodName := ⟨RX10, "hears", "([IIII)I"⟩
abbrev cX10_tells : ByteArray := prog_12_method_34_code
def yX10_tells : MethodName := ⟨RX10, "tells", "([II)I"⟩
abbrev cX10_goes : ByteArray := prog_12_method_35_code
def yX10_goes : MethodName := ⟨RX10, "goes", "([I)I"⟩
abbrev cX10_endOf : ByteArray := prog_12_method_36_code
def yX10_endOf : MethodName := ⟨RX10, "endOf", "([III)I"⟩
abbrev cX10_sails : ByteArray := prog_12_method_37_code
def yX10_sails : MethodName := ⟨RX10, "sails", "([III)V"⟩
abbrev cX10_remember : ByteArray := prog_12_method_38_code
def yX10_remember : MethodName := ⟨RX10, "remember", "()V"⟩
abbrev cX10_happen : ByteArray := prog_12_method_39_code
def yX10_happen : MethodName := ⟨RX10, "happen", "(I)I"⟩
abbrev cX10_sail : ByteArray := prog_12_method_40_code
def yX10_sail : MethodName := ⟨RX10, "sail", "(II)I"⟩
abbrev cX10_days : ByteArray := prog_12_method_41_code
def yX10_days : MethodName := ⟨RX10, "days", "(I)I"⟩
abbrev cX10_undo : ByteArray := prog_12_method_42_code
def yX10_undo : MethodName := ⟨RX10, "undo", "()I"⟩
abbrev cX10_ship : ByteArray := prog_12_method_43_code
def yX10_ship : MethodName := ⟨RX10, "ship", "(II)I"⟩
abbrev cX10_port : ByteArray := prog_12_method_44_code
def yX10_port : MethodName := ⟨RX10, "port", "(II)I"⟩
abbrev cX10_news : ByteArray := prog_12_method_45_code
def yX10_news : MethodName := ⟨RX10, "news", "(II)I"⟩
abbrev cX10_orNone : ByteArray := prog_12_method_46_code
def yX10_orNone : MethodName := ⟨RX10, "orNone", "(I)I"⟩
abbrev cX10_knows : ByteArray := prog_12_method_47_code
def yX10_knows : MethodName := ⟨RX10, "knows", "(II)I"⟩
abbrev cX10_takes : ByteArray := prog_12_method_48_code
def yX10_takes : MethodName := ⟨RX10, "takes", "(II)I"⟩
abbrev cX10_tries : ByteArray := prog_12_method_49_code
def yX10_tries : MethodName := ⟨RX10, "tries", "(III)V"⟩
abbrev cX10_ahead : ByteArray := prog_12_method_50_code
def yX10_ahead : MethodName := ⟨RX10, "ahead", "(II)I"⟩
abbrev cX10_sinks : ByteArray := prog_12_method_51_code
def yX10_sinks : MethodName := ⟨RX10, "sinks", "(I[I)V"⟩
abbrev cX10_beginOf : ByteArray := prog_12_method_52_code
def yX10_beginOf : MethodName := ⟨RX10, "beginOf", "(I)I"⟩
abbrev cX10_layComes : ByteArray := prog_12_method_53_code
def yX10_layComes : MethodName := ⟨RX10, "layComes", "(I)V"⟩
abbrev cX10_layBrings : ByteArray := prog_12_method_54_code
def yX10_layBrings : MethodName := ⟨RX10, "layBrings", "(II)V"⟩
abbrev cX10_carried : ByteArray := prog_12_method_55_code
def yX10_carried : MethodName := ⟨RX10, "carried", "(III)I"⟩
abbrev cX10_placeOf : ByteArray := prog_12_method_56_code
def yX10_placeOf : MethodName := ⟨RX10, "placeOf", "(IIII)I"⟩
abbrev cX10_isThere : ByteArray := prog_12_method_57_code
def yX10_isThere : MethodName := ⟨RX10, "isThere", "(II)Z"⟩
abbrev cX10_lays : ByteArray := prog_12_method_58_code
def yX10_lays : MethodName := ⟨RX10, "lays", "(IIIIIIZ)V"⟩
abbrev cX10_fame : ByteArray := prog_12_method_59_code
def yX10_fame : MethodName := ⟨RX10, "fame", "(IIII)I"⟩
abbrev cX10_overtaken : ByteArray := prog_12_method_60_code
def yX10_overtaken : MethodName := ⟨RX10, "overtaken", "(III)I"⟩
abbrev cX10_laySignals : ByteArray := prog_12_method_61_code
def yX10_laySignals : MethodName := ⟨RX10, "laySignals", "()V"⟩
abbrev cX10_sure : ByteArray := prog_12_method_62_code
def yX10_sure : MethodName := ⟨RX10, "sure", "(II)I"⟩
abbrev cX10_began : ByteArray := prog_12_method_63_code
def yX10_began : MethodName := ⟨RX10, "began", "(III)I"⟩
abbrev cX10_odds : ByteArray := prog_12_method_64_code
def yX10_odds : MethodName := ⟨RX10, "odds", "(IIIII)I"⟩
abbrev cX10_isOrder : ByteArray := prog_12_method_65_code
def yX10_isOrder : MethodName := ⟨RX10, "isOrder", "(I)Z"⟩
abbrev cX10_obeys : ByteArray := prog_12_method_66_code
def yX10_obeys : MethodName := ⟨RX10, "obeys", "(II)I"⟩
abbrev cX10_followed : ByteArray := prog_12_method_67_code
def yX10_followed : MethodName := ⟨RX10, "followed", "(IIIII)I"⟩
abbrev cX10_image : ByteArray := prog_12_method_68_code
def yX10_image : MethodName := ⟨RX10, "image", "(I)I"⟩
abbrev cX10_restore : ByteArray := prog_12_method_69_code
def yX10_restore : MethodName := ⟨RX10, "restore", "(I)I"⟩
abbrev cX10_kind : ByteArray := prog_12_method_70_code
def yX10_kind : MethodName := ⟨RX10, "kind", "(I)I"⟩
abbrev cX10_isOf : ByteArray := prog_12_method_71_code
def yX10_isOf : MethodName := ⟨RX10, "isOf", "(II)Z"⟩
abbrev cX10_as : ByteArray := prog_12_method_72_code
def yX10_as : MethodName := ⟨RX10, "as", "(II)I"⟩
abbrev cX10_leave : ByteArray := prog_12_method_73_code
def yX10_leave : MethodName := ⟨RX10, "leave", "(J)V"⟩
abbrev cX10_mark : ByteArray := prog_12_method_74_code
def yX10_mark : MethodName := ⟨RX10, "mark", "(I)I"⟩
abbrev cX10_sizeOf : ByteArray := prog_12_method_75_code
def yX10_sizeOf : MethodName := ⟨RX10, "sizeOf", "(I)I"⟩
abbrev cX10_ask : ByteArray := prog_12_method_76_code
def yX10_ask : MethodName := ⟨RX10, "ask", "(II)I"⟩
abbrev cX10_trace : ByteArray := prog_12_method_77_code
def yX10_trace : MethodName := ⟨RX10, "trace", "(I)I"⟩
abbrev cX10_count : ByteArray := prog_12_method_78_code
def yX10_count : MethodName := ⟨RX10, "count", "(I)I"⟩
abbrev cX10_status : ByteArray := prog_12_method_79_code
def yX10_status : MethodName := ⟨RX10, "status", "()I"⟩
def RJ6 : String := "java/lang/Integer"
def TJ6 : u_T := fun k => match k with
  | _ => ("", "", "", false)
def tyJ6 : Nat → FieldType := fun k => match k with
  | _ => .int
abbrev wsJ60 : List Cond := u_ws RJ6 TJ6 0
theorem nmJ6 : ∀ a, a < 0 → ∀ b, b < 0 → a ≠ b → (TJ6 a).2.1 ≠ (TJ6 b).2.1 := by decide +kernel
theorem tyJ6_ok : ∀ k, k < 0 → parseFieldDescriptor (TJ6 k).2.2.1 = some (tyJ6 k) := by decide +kernel
abbrev cJ6_bitCount_0f7a4 : ByteArray := prog_13_method_49_code
def yJ6_bitCount_0f7a4 : MethodName := ⟨RJ6, "bitCount", "(I)I"⟩
def RJ9 : String := "java/lang/Math"
def TJ9 : u_T := fun k => match k with
  | _ => ("", "", "", false)
def tyJ9 : Nat → FieldType := fun k => match k with
  | _ => .int
abbrev wsJ90 : List Cond := u_ws RJ9 TJ9 0
theorem nmJ9 : ∀ a, a < 0 → ∀ b, b < 0 → a ≠ b → (TJ9 a).2.1 ≠ (TJ9 b).2.1 := by decide +kernel
theorem tyJ9_ok : ∀ k, k < 0 → parseFieldDescriptor (TJ9 k).2.2.1 = some (tyJ9 k) := by decide +kernel
abbrev cJ9_max_7cf53 : ByteArray := prog_14_method_65_code
def yJ9_max_7cf53 : MethodName := ⟨RJ9, "max", "(II)I"⟩
abbrev cJ9_min_7cf53 : ByteArray := prog_14_method_69_code
def yJ9_min_7cf53 : MethodName := ⟨RJ9, "min", "(II)I"⟩
def RJ10 : String := "java/lang/System"
def TJ10 : u_T := fun k => match k with
  | _ => ("", "", "", false)
def tyJ10 : Nat → FieldType := fun k => match k with
  | _ => .int
abbrev wsJ100 : List Cond := u_ws RJ10 TJ10 0
theorem nmJ10 : ∀ a, a < 0 → ∀ b, b < 0 → a ≠ b → (TJ10 a).2.1 ≠ (TJ10 b).2.1 := by decide +kernel
theorem tyJ10_ok : ∀ k, k < 0 → parseFieldDescriptor (TJ10 k).2.2.1 = some (tyJ10 k) := by decide +kernel
def RJ7 : String := "java/util/Arrays"
def TJ7 : u_T := fun k => match k with
  | _ => ("", "", "", false)
def tyJ7 : Nat → FieldType := fun k => match k with
  | _ => .int
abbrev wsJ70 : List Cond := u_ws RJ7 TJ7 0
theorem nmJ7 : ∀ a, a < 0 → ∀ b, b < 0 → a ≠ b → (TJ7 a).2.1 ≠ (TJ7 b).2.1 := by decide +kernel
theorem tyJ7_ok : ∀ k, k < 0 → parseFieldDescriptor (TJ7 k).2.2.1 = some (tyJ7 k) := by decide +kernel
abbrev cJ7_fill_53178 : ByteArray := prog_16_method_103_code
def yJ7_fill_53178 : MethodName := ⟨RJ7, "fill", "([II)V"⟩
def RL : String := "NewsShipsLaw"
abbrev cL_law : ByteArray := code
def yL_law : MethodName := ⟨RL, "law", "([I)Z"⟩
abbrev vwCl : List vw_C := [(RX0, TX0, 3), (RX1, TX1, 3), (RX2, TX2, 6), (RX3, TX3, 16), (RX4, TX4, 3), (RX5, TX5, 7), (RX6, TX6, 3), (RX7, TX7, 6), (RX8, TX8, 2), (RX9, TX9, 12), (RX10, TX10, 27)]
