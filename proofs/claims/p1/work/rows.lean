section
/-- a private method of a class that the tables say can be made, by its rows of tables_1 -/
def lw_okq (q : MethodName × Nat) : Prop := (q.1.cls ≠ "java/lang/invoke/MethodHandle" ∧ q.1.cls ≠ "java/lang/invoke/VarHandle") ∧ Cond.instantiable q.1.cls q.2 ∈ tables_1 ∧ Cond.privateMethod q.1 ∈ tables_1 ∧ Cond.instanceMethod q.1 ∈ tables_1
theorem lw_p0 : lw_okq (⟨"PoolCoast", "atEnd", "()Z"⟩, 16) := ⟨⟨by decide +kernel, by decide +kernel⟩, List.mem_of_getElem? (i := 23) (by decide +kernel), List.mem_of_getElem? (i := 241) (by decide +kernel), List.mem_of_getElem? (i := 242) (by decide +kernel)⟩
theorem lw_p1 : lw_okq (⟨"PoolCoast$Tides", "turnsUpTo", "(I)I"⟩, 3) := ⟨⟨by decide +kernel, by decide +kernel⟩, List.mem_of_getElem? (i := 31) (by decide +kernel), List.mem_of_getElem? (i := 271) (by decide +kernel), List.mem_of_getElem? (i := 272) (by decide +kernel)⟩
theorem lw_p2 : lw_okq (⟨"PoolCoast", "hourNow", "()I"⟩, 16) := ⟨⟨by decide +kernel, by decide +kernel⟩, List.mem_of_getElem? (i := 23) (by decide +kernel), List.mem_of_getElem? (i := 287) (by decide +kernel), List.mem_of_getElem? (i := 288) (by decide +kernel)⟩
theorem lw_p3 : lw_okq (⟨"PoolCoast", "settingOf", "(I)I"⟩, 16) := ⟨⟨by decide +kernel, by decide +kernel⟩, List.mem_of_getElem? (i := 23) (by decide +kernel), List.mem_of_getElem? (i := 309) (by decide +kernel), List.mem_of_getElem? (i := 310) (by decide +kernel)⟩
theorem lw_p4 : lw_okq (⟨"PoolCoast", "poolAt", "(I)LPoolCoast$Pool;"⟩, 16) := ⟨⟨by decide +kernel, by decide +kernel⟩, List.mem_of_getElem? (i := 23) (by decide +kernel), List.mem_of_getElem? (i := 500) (by decide +kernel), List.mem_of_getElem? (i := 501) (by decide +kernel)⟩
theorem lw_p5 : lw_okq (⟨"PoolCoast$Water", "flowBySluice", "(LPoolCoast$Basin;I)V"⟩, 4) := ⟨⟨by decide +kernel, by decide +kernel⟩, List.mem_of_getElem? (i := 386) (by decide +kernel), List.mem_of_getElem? (i := 552) (by decide +kernel), List.mem_of_getElem? (i := 553) (by decide +kernel)⟩
theorem lw_p6 : lw_okq (⟨"PoolCoast$Water", "comeIn", "(I)V"⟩, 4) := ⟨⟨by decide +kernel, by decide +kernel⟩, List.mem_of_getElem? (i := 386) (by decide +kernel), List.mem_of_getElem? (i := 560) (by decide +kernel), List.mem_of_getElem? (i := 561) (by decide +kernel)⟩
theorem lw_p7 : lw_okq (⟨"PoolCoast$Water", "goOut", "(I)V"⟩, 4) := ⟨⟨by decide +kernel, by decide +kernel⟩, List.mem_of_getElem? (i := 386) (by decide +kernel), List.mem_of_getElem? (i := 567) (by decide +kernel), List.mem_of_getElem? (i := 568) (by decide +kernel)⟩
theorem lw_p8 : lw_okq (⟨"PoolCoast$Water", "flowByCrack", "(LPoolCoast$Basin;III)V"⟩, 4) := ⟨⟨by decide +kernel, by decide +kernel⟩, List.mem_of_getElem? (i := 386) (by decide +kernel), List.mem_of_getElem? (i := 572) (by decide +kernel), List.mem_of_getElem? (i := 573) (by decide +kernel)⟩
theorem lw_p9 : lw_okq (⟨"PoolCoast$Water", "flowByPump", "(I)V"⟩, 4) := ⟨⟨by decide +kernel, by decide +kernel⟩, List.mem_of_getElem? (i := 386) (by decide +kernel), List.mem_of_getElem? (i := 576) (by decide +kernel), List.mem_of_getElem? (i := 577) (by decide +kernel)⟩
theorem lw_p10 : lw_okq (⟨"PoolCoast$Water", "flowAtWall", "(LPoolCoast$Basin;I)V"⟩, 4) := ⟨⟨by decide +kernel, by decide +kernel⟩, List.mem_of_getElem? (i := 386) (by decide +kernel), List.mem_of_getElem? (i := 580) (by decide +kernel), List.mem_of_getElem? (i := 581) (by decide +kernel)⟩
theorem lw_p11 : lw_okq (⟨"PoolCoast", "tells", "(LPoolCoast$Pool;I)Z"⟩, 16) := ⟨⟨by decide +kernel, by decide +kernel⟩, List.mem_of_getElem? (i := 23) (by decide +kernel), List.mem_of_getElem? (i := 605) (by decide +kernel), List.mem_of_getElem? (i := 606) (by decide +kernel)⟩
theorem lw_p12 : lw_okq (⟨"PoolCoast$Reader", "skipBlanks", "()V"⟩, 9) := ⟨⟨by decide +kernel, by decide +kernel⟩, List.mem_of_getElem? (i := 82) (by decide +kernel), List.mem_of_getElem? (i := 641) (by decide +kernel), List.mem_of_getElem? (i := 642) (by decide +kernel)⟩
theorem lw_p13 : lw_okq (⟨"PoolCoast$Reader", "byteHere", "()I"⟩, 9) := ⟨⟨by decide +kernel, by decide +kernel⟩, List.mem_of_getElem? (i := 82) (by decide +kernel), List.mem_of_getElem? (i := 645) (by decide +kernel), List.mem_of_getElem? (i := 646) (by decide +kernel)⟩
theorem lw_p14 : lw_okq (⟨"PoolCoast$Reader", "canBegin", "()Z"⟩, 9) := ⟨⟨by decide +kernel, by decide +kernel⟩, List.mem_of_getElem? (i := 82) (by decide +kernel), List.mem_of_getElem? (i := 649) (by decide +kernel), List.mem_of_getElem? (i := 650) (by decide +kernel)⟩
theorem lw_p15 : lw_okq (⟨"PoolCoast$Reader", "wordHere", "()I"⟩, 9) := ⟨⟨by decide +kernel, by decide +kernel⟩, List.mem_of_getElem? (i := 82) (by decide +kernel), List.mem_of_getElem? (i := 653) (by decide +kernel), List.mem_of_getElem? (i := 654) (by decide +kernel)⟩
def lw_privs_1 : List (MethodName × Nat) := [(⟨"PoolCoast", "atEnd", "()Z"⟩, 16), (⟨"PoolCoast$Tides", "turnsUpTo", "(I)I"⟩, 3), (⟨"PoolCoast", "hourNow", "()I"⟩, 16), (⟨"PoolCoast", "settingOf", "(I)I"⟩, 16), (⟨"PoolCoast", "poolAt", "(I)LPoolCoast$Pool;"⟩, 16), (⟨"PoolCoast$Water", "flowBySluice", "(LPoolCoast$Basin;I)V"⟩, 4), (⟨"PoolCoast$Water", "comeIn", "(I)V"⟩, 4), (⟨"PoolCoast$Water", "goOut", "(I)V"⟩, 4), (⟨"PoolCoast$Water", "flowByCrack", "(LPoolCoast$Basin;III)V"⟩, 4), (⟨"PoolCoast$Water", "flowByPump", "(I)V"⟩, 4), (⟨"PoolCoast$Water", "flowAtWall", "(LPoolCoast$Basin;I)V"⟩, 4), (⟨"PoolCoast", "tells", "(LPoolCoast$Pool;I)Z"⟩, 16), (⟨"PoolCoast$Reader", "skipBlanks", "()V"⟩, 9), (⟨"PoolCoast$Reader", "byteHere", "()I"⟩, 9), (⟨"PoolCoast$Reader", "canBegin", "()Z"⟩, 9), (⟨"PoolCoast$Reader", "wordHere", "()I"⟩, 9)]
theorem lw_r1 : ∀ q ∈ lw_privs_1, lw_okq q := List.forall_mem_cons.mpr ⟨lw_p0, List.forall_mem_cons.mpr ⟨lw_p1, List.forall_mem_cons.mpr ⟨lw_p2, List.forall_mem_cons.mpr ⟨lw_p3, List.forall_mem_cons.mpr ⟨lw_p4, List.forall_mem_cons.mpr ⟨lw_p5, List.forall_mem_cons.mpr ⟨lw_p6, List.forall_mem_cons.mpr ⟨lw_p7, List.forall_mem_cons.mpr ⟨lw_p8, List.forall_mem_cons.mpr ⟨lw_p9, List.forall_mem_cons.mpr ⟨lw_p10, List.forall_mem_cons.mpr ⟨lw_p11, List.forall_mem_cons.mpr ⟨lw_p12, List.forall_mem_cons.mpr ⟨lw_p13, List.forall_mem_cons.mpr ⟨lw_p14, List.forall_mem_cons.mpr ⟨lw_p15, fun _ h => absurd h List.not_mem_nil⟩⟩⟩⟩⟩⟩⟩⟩⟩⟩⟩⟩⟩⟩⟩⟩
theorem lw_p16 : lw_okq (⟨"PoolCoast$Reader", "isNamed", "(Ljava/lang/String;)Z"⟩, 9) := ⟨⟨by decide +kernel, by decide +kernel⟩, List.mem_of_getElem? (i := 82) (by decide +kernel), List.mem_of_getElem? (i := 673) (by decide +kernel), List.mem_of_getElem? (i := 674) (by decide +kernel)⟩
theorem lw_p17 : lw_okq (⟨"PoolCoast$Reader", "refuse", "(I)V"⟩, 9) := ⟨⟨by decide +kernel, by decide +kernel⟩, List.mem_of_getElem? (i := 82) (by decide +kernel), List.mem_of_getElem? (i := 725) (by decide +kernel), List.mem_of_getElem? (i := 726) (by decide +kernel)⟩
theorem lw_p18 : lw_okq (⟨"PoolCoast$Reader", "readEither", "(I)V"⟩, 9) := ⟨⟨by decide +kernel, by decide +kernel⟩, List.mem_of_getElem? (i := 82) (by decide +kernel), List.mem_of_getElem? (i := 729) (by decide +kernel), List.mem_of_getElem? (i := 730) (by decide +kernel)⟩
theorem lw_p19 : lw_okq (⟨"PoolCoast$Reader", "readBoth", "(I)V"⟩, 9) := ⟨⟨by decide +kernel, by decide +kernel⟩, List.mem_of_getElem? (i := 82) (by decide +kernel), List.mem_of_getElem? (i := 733) (by decide +kernel), List.mem_of_getElem? (i := 734) (by decide +kernel)⟩
theorem lw_p20 : lw_okq (⟨"PoolCoast$Reader", "readOne", "(I)V"⟩, 9) := ⟨⟨by decide +kernel, by decide +kernel⟩, List.mem_of_getElem? (i := 82) (by decide +kernel), List.mem_of_getElem? (i := 737) (by decide +kernel), List.mem_of_getElem? (i := 738) (by decide +kernel)⟩
theorem lw_p21 : lw_okq (⟨"PoolCoast$Reader", "readCompare", "(I)V"⟩, 9) := ⟨⟨by decide +kernel, by decide +kernel⟩, List.mem_of_getElem? (i := 82) (by decide +kernel), List.mem_of_getElem? (i := 741) (by decide +kernel), List.mem_of_getElem? (i := 742) (by decide +kernel)⟩
theorem lw_p22 : lw_okq (⟨"PoolCoast$Reader", "takeWord", "(I)Z"⟩, 9) := ⟨⟨by decide +kernel, by decide +kernel⟩, List.mem_of_getElem? (i := 82) (by decide +kernel), List.mem_of_getElem? (i := 745) (by decide +kernel), List.mem_of_getElem? (i := 746) (by decide +kernel)⟩
theorem lw_p23 : lw_okq (⟨"PoolCoast$Reader", "takeSign", "()I"⟩, 9) := ⟨⟨by decide +kernel, by decide +kernel⟩, List.mem_of_getElem? (i := 82) (by decide +kernel), List.mem_of_getElem? (i := 749) (by decide +kernel), List.mem_of_getElem? (i := 750) (by decide +kernel)⟩
theorem lw_p24 : lw_okq (⟨"PoolCoast$Reader", "takeNumber", "()I"⟩, 9) := ⟨⟨by decide +kernel, by decide +kernel⟩, List.mem_of_getElem? (i := 82) (by decide +kernel), List.mem_of_getElem? (i := 753) (by decide +kernel), List.mem_of_getElem? (i := 754) (by decide +kernel)⟩
theorem lw_p25 : lw_okq (⟨"PoolCoast$Reader", "emit", "(I)V"⟩, 9) := ⟨⟨by decide +kernel, by decide +kernel⟩, List.mem_of_getElem? (i := 82) (by decide +kernel), List.mem_of_getElem? (i := 758) (by decide +kernel), List.mem_of_getElem? (i := 759) (by decide +kernel)⟩
theorem lw_p26 : lw_okq (⟨"PoolCoast$Reader", "readNested", "(I)V"⟩, 9) := ⟨⟨by decide +kernel, by decide +kernel⟩, List.mem_of_getElem? (i := 82) (by decide +kernel), List.mem_of_getElem? (i := 762) (by decide +kernel), List.mem_of_getElem? (i := 763) (by decide +kernel)⟩
theorem lw_p27 : lw_okq (⟨"PoolCoast$Reader", "takeByte", "(I)V"⟩, 9) := ⟨⟨by decide +kernel, by decide +kernel⟩, List.mem_of_getElem? (i := 82) (by decide +kernel), List.mem_of_getElem? (i := 766) (by decide +kernel), List.mem_of_getElem? (i := 767) (by decide +kernel)⟩
theorem lw_p28 : lw_okq (⟨"PoolCoast", "closingClause", "(LPoolCoast$Pool;II)I"⟩, 16) := ⟨⟨by decide +kernel, by decide +kernel⟩, List.mem_of_getElem? (i := 23) (by decide +kernel), List.mem_of_getElem? (i := 805) (by decide +kernel), List.mem_of_getElem? (i := 806) (by decide +kernel)⟩
theorem lw_p29 : lw_okq (⟨"PoolCoast", "inForce", "(I)LPoolCoast$Ruling;"⟩, 16) := ⟨⟨by decide +kernel, by decide +kernel⟩, List.mem_of_getElem? (i := 23) (by decide +kernel), List.mem_of_getElem? (i := 809) (by decide +kernel), List.mem_of_getElem? (i := 810) (by decide +kernel)⟩
theorem lw_p30 : lw_okq (⟨"PoolCoast", "openHours", "(LPoolCoast$Pool;II)I"⟩, 16) := ⟨⟨by decide +kernel, by decide +kernel⟩, List.mem_of_getElem? (i := 23) (by decide +kernel), List.mem_of_getElem? (i := 834) (by decide +kernel), List.mem_of_getElem? (i := 835) (by decide +kernel)⟩
theorem lw_p31 : lw_okq (⟨"PoolCoast", "dayNow", "()I"⟩, 16) := ⟨⟨by decide +kernel, by decide +kernel⟩, List.mem_of_getElem? (i := 23) (by decide +kernel), List.mem_of_getElem? (i := 860) (by decide +kernel), List.mem_of_getElem? (i := 861) (by decide +kernel)⟩
def lw_privs_2 : List (MethodName × Nat) := [(⟨"PoolCoast$Reader", "isNamed", "(Ljava/lang/String;)Z"⟩, 9), (⟨"PoolCoast$Reader", "refuse", "(I)V"⟩, 9), (⟨"PoolCoast$Reader", "readEither", "(I)V"⟩, 9), (⟨"PoolCoast$Reader", "readBoth", "(I)V"⟩, 9), (⟨"PoolCoast$Reader", "readOne", "(I)V"⟩, 9), (⟨"PoolCoast$Reader", "readCompare", "(I)V"⟩, 9), (⟨"PoolCoast$Reader", "takeWord", "(I)Z"⟩, 9), (⟨"PoolCoast$Reader", "takeSign", "()I"⟩, 9), (⟨"PoolCoast$Reader", "takeNumber", "()I"⟩, 9), (⟨"PoolCoast$Reader", "emit", "(I)V"⟩, 9), (⟨"PoolCoast$Reader", "readNested", "(I)V"⟩, 9), (⟨"PoolCoast$Reader", "takeByte", "(I)V"⟩, 9), (⟨"PoolCoast", "closingClause", "(LPoolCoast$Pool;II)I"⟩, 16), (⟨"PoolCoast", "inForce", "(I)LPoolCoast$Ruling;"⟩, 16), (⟨"PoolCoast", "openHours", "(LPoolCoast$Pool;II)I"⟩, 16), (⟨"PoolCoast", "dayNow", "()I"⟩, 16)]
theorem lw_r2 : ∀ q ∈ lw_privs_2, lw_okq q := List.forall_mem_cons.mpr ⟨lw_p16, List.forall_mem_cons.mpr ⟨lw_p17, List.forall_mem_cons.mpr ⟨lw_p18, List.forall_mem_cons.mpr ⟨lw_p19, List.forall_mem_cons.mpr ⟨lw_p20, List.forall_mem_cons.mpr ⟨lw_p21, List.forall_mem_cons.mpr ⟨lw_p22, List.forall_mem_cons.mpr ⟨lw_p23, List.forall_mem_cons.mpr ⟨lw_p24, List.forall_mem_cons.mpr ⟨lw_p25, List.forall_mem_cons.mpr ⟨lw_p26, List.forall_mem_cons.mpr ⟨lw_p27, List.forall_mem_cons.mpr ⟨lw_p28, List.forall_mem_cons.mpr ⟨lw_p29, List.forall_mem_cons.mpr ⟨lw_p30, List.forall_mem_cons.mpr ⟨lw_p31, fun _ h => absurd h List.not_mem_nil⟩⟩⟩⟩⟩⟩⟩⟩⟩⟩⟩⟩⟩⟩⟩⟩
theorem lw_p32 : lw_okq (⟨"PoolCoast", "takeIntoPlan", "(LPoolCoast$Pool;III)V"⟩, 16) := ⟨⟨by decide +kernel, by decide +kernel⟩, List.mem_of_getElem? (i := 23) (by decide +kernel), List.mem_of_getElem? (i := 869) (by decide +kernel), List.mem_of_getElem? (i := 870) (by decide +kernel)⟩
theorem lw_p33 : lw_okq (⟨"PoolCoast$Planner", "choose", "(II)V"⟩, 10) := ⟨⟨by decide +kernel, by decide +kernel⟩, List.mem_of_getElem? (i := 147) (by decide +kernel), List.mem_of_getElem? (i := 889) (by decide +kernel), List.mem_of_getElem? (i := 890) (by decide +kernel)⟩
theorem lw_p34 : lw_okq (⟨"PoolCoast$Planner", "tryChoice", "(III)V"⟩, 10) := ⟨⟨by decide +kernel, by decide +kernel⟩, List.mem_of_getElem? (i := 147) (by decide +kernel), List.mem_of_getElem? (i := 896) (by decide +kernel), List.mem_of_getElem? (i := 897) (by decide +kernel)⟩
theorem lw_p35 : lw_okq (⟨"PoolCoast$Evidence", "addIfExplaining", "(II)V"⟩, 11) := ⟨⟨by decide +kernel, by decide +kernel⟩, List.mem_of_getElem? (i := 410) (by decide +kernel), List.mem_of_getElem? (i := 944) (by decide +kernel), List.mem_of_getElem? (i := 945) (by decide +kernel)⟩
theorem lw_p36 : lw_okq (⟨"PoolCoast$Evidence", "depthAfter", "(IIII)I"⟩, 11) := ⟨⟨by decide +kernel, by decide +kernel⟩, List.mem_of_getElem? (i := 410) (by decide +kernel), List.mem_of_getElem? (i := 949) (by decide +kernel), List.mem_of_getElem? (i := 950) (by decide +kernel)⟩
theorem lw_p37 : lw_okq (⟨"PoolCoast$Evidence", "taken", "(II)I"⟩, 11) := ⟨⟨by decide +kernel, by decide +kernel⟩, List.mem_of_getElem? (i := 410) (by decide +kernel), List.mem_of_getElem? (i := 953) (by decide +kernel), List.mem_of_getElem? (i := 954) (by decide +kernel)⟩
theorem lw_p38 : lw_okq (⟨"PoolCoast$Evidence", "spreadFrom", "(I)I"⟩, 11) := ⟨⟨by decide +kernel, by decide +kernel⟩, List.mem_of_getElem? (i := 410) (by decide +kernel), List.mem_of_getElem? (i := 974) (by decide +kernel), List.mem_of_getElem? (i := 975) (by decide +kernel)⟩
theorem lw_p39 : lw_okq (⟨"PoolCoast", "leaseAt", "(I)LPoolCoast$Lease;"⟩, 16) := ⟨⟨by decide +kernel, by decide +kernel⟩, List.mem_of_getElem? (i := 23) (by decide +kernel), List.mem_of_getElem? (i := 1012) (by decide +kernel), List.mem_of_getElem? (i := 1013) (by decide +kernel)⟩
theorem lw_p40 : lw_okq (⟨"PoolCoast", "dueOf", "(LPoolCoast$Lease;I)I"⟩, 16) := ⟨⟨by decide +kernel, by decide +kernel⟩, List.mem_of_getElem? (i := 23) (by decide +kernel), List.mem_of_getElem? (i := 1016) (by decide +kernel), List.mem_of_getElem? (i := 1017) (by decide +kernel)⟩
theorem lw_p41 : lw_okq (⟨"PoolCoast", "paidOf", "(I)I"⟩, 16) := ⟨⟨by decide +kernel, by decide +kernel⟩, List.mem_of_getElem? (i := 23) (by decide +kernel), List.mem_of_getElem? (i := 1029) (by decide +kernel), List.mem_of_getElem? (i := 1030) (by decide +kernel)⟩
theorem lw_p42 : lw_okq (⟨"PoolCoastModel", "isOver", "()Z"⟩, 92) := ⟨⟨by decide +kernel, by decide +kernel⟩, List.mem_of_getElem? (i := 1033) (by decide +kernel), List.mem_of_getElem? (i := 1322) (by decide +kernel), List.mem_of_getElem? (i := 1323) (by decide +kernel)⟩
theorem lw_p43 : lw_okq (⟨"PoolCoastModel", "seaAt", "(I)I"⟩, 92) := ⟨⟨by decide +kernel, by decide +kernel⟩, List.mem_of_getElem? (i := 1033) (by decide +kernel), List.mem_of_getElem? (i := 1333) (by decide +kernel), List.mem_of_getElem? (i := 1334) (by decide +kernel)⟩
theorem lw_p44 : lw_okq (⟨"PoolCoastModel", "waveAt", "(II)I"⟩, 92) := ⟨⟨by decide +kernel, by decide +kernel⟩, List.mem_of_getElem? (i := 1033) (by decide +kernel), List.mem_of_getElem? (i := 1348) (by decide +kernel), List.mem_of_getElem? (i := 1349) (by decide +kernel)⟩
theorem lw_p45 : lw_okq (⟨"PoolCoastModel", "isPool", "(I)Z"⟩, 92) := ⟨⟨by decide +kernel, by decide +kernel⟩, List.mem_of_getElem? (i := 1033) (by decide +kernel), List.mem_of_getElem? (i := 1364) (by decide +kernel), List.mem_of_getElem? (i := 1365) (by decide +kernel)⟩
theorem lw_p46 : lw_okq (⟨"PoolCoastModel", "isStorm", "(II)Z"⟩, 92) := ⟨⟨by decide +kernel, by decide +kernel⟩, List.mem_of_getElem? (i := 1033) (by decide +kernel), List.mem_of_getElem? (i := 1392) (by decide +kernel), List.mem_of_getElem? (i := 1393) (by decide +kernel)⟩
theorem lw_p47 : lw_okq (⟨"PoolCoastModel", "takes", "(I)V"⟩, 92) := ⟨⟨by decide +kernel, by decide +kernel⟩, List.mem_of_getElem? (i := 1033) (by decide +kernel), List.mem_of_getElem? (i := 1396) (by decide +kernel), List.mem_of_getElem? (i := 1397) (by decide +kernel)⟩
def lw_privs_3 : List (MethodName × Nat) := [(⟨"PoolCoast", "takeIntoPlan", "(LPoolCoast$Pool;III)V"⟩, 16), (⟨"PoolCoast$Planner", "choose", "(II)V"⟩, 10), (⟨"PoolCoast$Planner", "tryChoice", "(III)V"⟩, 10), (⟨"PoolCoast$Evidence", "addIfExplaining", "(II)V"⟩, 11), (⟨"PoolCoast$Evidence", "depthAfter", "(IIII)I"⟩, 11), (⟨"PoolCoast$Evidence", "taken", "(II)I"⟩, 11), (⟨"PoolCoast$Evidence", "spreadFrom", "(I)I"⟩, 11), (⟨"PoolCoast", "leaseAt", "(I)LPoolCoast$Lease;"⟩, 16), (⟨"PoolCoast", "dueOf", "(LPoolCoast$Lease;I)I"⟩, 16), (⟨"PoolCoast", "paidOf", "(I)I"⟩, 16), (⟨"PoolCoastModel", "isOver", "()Z"⟩, 92), (⟨"PoolCoastModel", "seaAt", "(I)I"⟩, 92), (⟨"PoolCoastModel", "waveAt", "(II)I"⟩, 92), (⟨"PoolCoastModel", "isPool", "(I)Z"⟩, 92), (⟨"PoolCoastModel", "isStorm", "(II)Z"⟩, 92), (⟨"PoolCoastModel", "takes", "(I)V"⟩, 92)]
theorem lw_r3 : ∀ q ∈ lw_privs_3, lw_okq q := List.forall_mem_cons.mpr ⟨lw_p32, List.forall_mem_cons.mpr ⟨lw_p33, List.forall_mem_cons.mpr ⟨lw_p34, List.forall_mem_cons.mpr ⟨lw_p35, List.forall_mem_cons.mpr ⟨lw_p36, List.forall_mem_cons.mpr ⟨lw_p37, List.forall_mem_cons.mpr ⟨lw_p38, List.forall_mem_cons.mpr ⟨lw_p39, List.forall_mem_cons.mpr ⟨lw_p40, List.forall_mem_cons.mpr ⟨lw_p41, List.forall_mem_cons.mpr ⟨lw_p42, List.forall_mem_cons.mpr ⟨lw_p43, List.forall_mem_cons.mpr ⟨lw_p44, List.forall_mem_cons.mpr ⟨lw_p45, List.forall_mem_cons.mpr ⟨lw_p46, List.forall_mem_cons.mpr ⟨lw_p47, fun _ h => absurd h List.not_mem_nil⟩⟩⟩⟩⟩⟩⟩⟩⟩⟩⟩⟩⟩⟩⟩⟩
theorem lw_p48 : lw_okq (⟨"PoolCoastModel", "works", "(III)V"⟩, 92) := ⟨⟨by decide +kernel, by decide +kernel⟩, List.mem_of_getElem? (i := 1033) (by decide +kernel), List.mem_of_getElem? (i := 1400) (by decide +kernel), List.mem_of_getElem? (i := 1401) (by decide +kernel)⟩
theorem lw_p49 : lw_okq (⟨"PoolCoastModel", "throughSluice", "(II)V"⟩, 92) := ⟨⟨by decide +kernel, by decide +kernel⟩, List.mem_of_getElem? (i := 1033) (by decide +kernel), List.mem_of_getElem? (i := 1404) (by decide +kernel), List.mem_of_getElem? (i := 1405) (by decide +kernel)⟩
theorem lw_p50 : lw_okq (⟨"PoolCoastModel", "levelOf", "(II)I"⟩, 92) := ⟨⟨by decide +kernel, by decide +kernel⟩, List.mem_of_getElem? (i := 1033) (by decide +kernel), List.mem_of_getElem? (i := 1408) (by decide +kernel), List.mem_of_getElem? (i := 1409) (by decide +kernel)⟩
theorem lw_p51 : lw_okq (⟨"PoolCoastModel", "comesIn", "(I)V"⟩, 92) := ⟨⟨by decide +kernel, by decide +kernel⟩, List.mem_of_getElem? (i := 1033) (by decide +kernel), List.mem_of_getElem? (i := 1415) (by decide +kernel), List.mem_of_getElem? (i := 1416) (by decide +kernel)⟩
theorem lw_p52 : lw_okq (⟨"PoolCoastModel", "goesOut", "(I)V"⟩, 92) := ⟨⟨by decide +kernel, by decide +kernel⟩, List.mem_of_getElem? (i := 1033) (by decide +kernel), List.mem_of_getElem? (i := 1422) (by decide +kernel), List.mem_of_getElem? (i := 1423) (by decide +kernel)⟩
theorem lw_p53 : lw_okq (⟨"PoolCoastModel", "throughCrack", "(IIII)V"⟩, 92) := ⟨⟨by decide +kernel, by decide +kernel⟩, List.mem_of_getElem? (i := 1033) (by decide +kernel), List.mem_of_getElem? (i := 1426) (by decide +kernel), List.mem_of_getElem? (i := 1427) (by decide +kernel)⟩
theorem lw_p54 : lw_okq (⟨"PoolCoastModel", "pumps", "(I)V"⟩, 92) := ⟨⟨by decide +kernel, by decide +kernel⟩, List.mem_of_getElem? (i := 1033) (by decide +kernel), List.mem_of_getElem? (i := 1430) (by decide +kernel), List.mem_of_getElem? (i := 1431) (by decide +kernel)⟩
theorem lw_p55 : lw_okq (⟨"PoolCoastModel", "lastTold", "()I"⟩, 92) := ⟨⟨by decide +kernel, by decide +kernel⟩, List.mem_of_getElem? (i := 1033) (by decide +kernel), List.mem_of_getElem? (i := 1446) (by decide +kernel), List.mem_of_getElem? (i := 1447) (by decide +kernel)⟩
theorem lw_p56 : lw_okq (⟨"PoolCoastModel", "foretells", "(II)V"⟩, 92) := ⟨⟨by decide +kernel, by decide +kernel⟩, List.mem_of_getElem? (i := 1033) (by decide +kernel), List.mem_of_getElem? (i := 1450) (by decide +kernel), List.mem_of_getElem? (i := 1451) (by decide +kernel)⟩
theorem lw_p57 : lw_okq (⟨"PoolCoastModel", "looks", "(II)V"⟩, 92) := ⟨⟨by decide +kernel, by decide +kernel⟩, List.mem_of_getElem? (i := 1033) (by decide +kernel), List.mem_of_getElem? (i := 1454) (by decide +kernel), List.mem_of_getElem? (i := 1455) (by decide +kernel)⟩
theorem lw_p58 : lw_okq (⟨"PoolCoastModel", "four", "(I)V"⟩, 92) := ⟨⟨by decide +kernel, by decide +kernel⟩, List.mem_of_getElem? (i := 1033) (by decide +kernel), List.mem_of_getElem? (i := 1462) (by decide +kernel), List.mem_of_getElem? (i := 1463) (by decide +kernel)⟩
theorem lw_p59 : lw_okq (⟨"PoolCoastModel", "see", "()I"⟩, 92) := ⟨⟨by decide +kernel, by decide +kernel⟩, List.mem_of_getElem? (i := 1033) (by decide +kernel), List.mem_of_getElem? (i := 1474) (by decide +kernel), List.mem_of_getElem? (i := 1475) (by decide +kernel)⟩
theorem lw_p60 : lw_okq (⟨"PoolCoastModel", "text", "()Z"⟩, 92) := ⟨⟨by decide +kernel, by decide +kernel⟩, List.mem_of_getElem? (i := 1033) (by decide +kernel), List.mem_of_getElem? (i := 1478) (by decide +kernel), List.mem_of_getElem? (i := 1479) (by decide +kernel)⟩
theorem lw_p61 : lw_okq (⟨"PoolCoastModel", "begins", "(Z)Z"⟩, 92) := ⟨⟨by decide +kernel, by decide +kernel⟩, List.mem_of_getElem? (i := 1033) (by decide +kernel), List.mem_of_getElem? (i := 1482) (by decide +kernel), List.mem_of_getElem? (i := 1483) (by decide +kernel)⟩
theorem lw_p62 : lw_okq (⟨"PoolCoastModel", "wordHere", "()I"⟩, 92) := ⟨⟨by decide +kernel, by decide +kernel⟩, List.mem_of_getElem? (i := 1033) (by decide +kernel), List.mem_of_getElem? (i := 1486) (by decide +kernel), List.mem_of_getElem? (i := 1487) (by decide +kernel)⟩
theorem lw_p63 : lw_okq (⟨"PoolCoastModel", "fails", "(II)Z"⟩, 92) := ⟨⟨by decide +kernel, by decide +kernel⟩, List.mem_of_getElem? (i := 1033) (by decide +kernel), List.mem_of_getElem? (i := 1490) (by decide +kernel), List.mem_of_getElem? (i := 1491) (by decide +kernel)⟩
def lw_privs_4 : List (MethodName × Nat) := [(⟨"PoolCoastModel", "works", "(III)V"⟩, 92), (⟨"PoolCoastModel", "throughSluice", "(II)V"⟩, 92), (⟨"PoolCoastModel", "levelOf", "(II)I"⟩, 92), (⟨"PoolCoastModel", "comesIn", "(I)V"⟩, 92), (⟨"PoolCoastModel", "goesOut", "(I)V"⟩, 92), (⟨"PoolCoastModel", "throughCrack", "(IIII)V"⟩, 92), (⟨"PoolCoastModel", "pumps", "(I)V"⟩, 92), (⟨"PoolCoastModel", "lastTold", "()I"⟩, 92), (⟨"PoolCoastModel", "foretells", "(II)V"⟩, 92), (⟨"PoolCoastModel", "looks", "(II)V"⟩, 92), (⟨"PoolCoastModel", "four", "(I)V"⟩, 92), (⟨"PoolCoastModel", "see", "()I"⟩, 92), (⟨"PoolCoastModel", "text", "()Z"⟩, 92), (⟨"PoolCoastModel", "begins", "(Z)Z"⟩, 92), (⟨"PoolCoastModel", "wordHere", "()I"⟩, 92), (⟨"PoolCoastModel", "fails", "(II)Z"⟩, 92)]
theorem lw_r4 : ∀ q ∈ lw_privs_4, lw_okq q := List.forall_mem_cons.mpr ⟨lw_p48, List.forall_mem_cons.mpr ⟨lw_p49, List.forall_mem_cons.mpr ⟨lw_p50, List.forall_mem_cons.mpr ⟨lw_p51, List.forall_mem_cons.mpr ⟨lw_p52, List.forall_mem_cons.mpr ⟨lw_p53, List.forall_mem_cons.mpr ⟨lw_p54, List.forall_mem_cons.mpr ⟨lw_p55, List.forall_mem_cons.mpr ⟨lw_p56, List.forall_mem_cons.mpr ⟨lw_p57, List.forall_mem_cons.mpr ⟨lw_p58, List.forall_mem_cons.mpr ⟨lw_p59, List.forall_mem_cons.mpr ⟨lw_p60, List.forall_mem_cons.mpr ⟨lw_p61, List.forall_mem_cons.mpr ⟨lw_p62, List.forall_mem_cons.mpr ⟨lw_p63, fun _ h => absurd h List.not_mem_nil⟩⟩⟩⟩⟩⟩⟩⟩⟩⟩⟩⟩⟩⟩⟩⟩
theorem lw_p64 : lw_okq (⟨"PoolCoastModel", "compare", "(I)Z"⟩, 92) := ⟨⟨by decide +kernel, by decide +kernel⟩, List.mem_of_getElem? (i := 1033) (by decide +kernel), List.mem_of_getElem? (i := 1494) (by decide +kernel), List.mem_of_getElem? (i := 1495) (by decide +kernel)⟩
theorem lw_p65 : lw_okq (⟨"PoolCoastModel", "writes", "(I)V"⟩, 92) := ⟨⟨by decide +kernel, by decide +kernel⟩, List.mem_of_getElem? (i := 1033) (by decide +kernel), List.mem_of_getElem? (i := 1499) (by decide +kernel), List.mem_of_getElem? (i := 1500) (by decide +kernel)⟩
theorem lw_p66 : lw_okq (⟨"PoolCoastModel", "deep", "()I"⟩, 92) := ⟨⟨by decide +kernel, by decide +kernel⟩, List.mem_of_getElem? (i := 1033) (by decide +kernel), List.mem_of_getElem? (i := 1503) (by decide +kernel), List.mem_of_getElem? (i := 1504) (by decide +kernel)⟩
theorem lw_p67 : lw_okq (⟨"PoolCoastModel", "closesNots", "()V"⟩, 92) := ⟨⟨by decide +kernel, by decide +kernel⟩, List.mem_of_getElem? (i := 1033) (by decide +kernel), List.mem_of_getElem? (i := 1507) (by decide +kernel), List.mem_of_getElem? (i := 1508) (by decide +kernel)⟩
theorem lw_p68 : lw_okq (⟨"PoolCoastModel", "closesDown", "(I)V"⟩, 92) := ⟨⟨by decide +kernel, by decide +kernel⟩, List.mem_of_getElem? (i := 1033) (by decide +kernel), List.mem_of_getElem? (i := 1511) (by decide +kernel), List.mem_of_getElem? (i := 1512) (by decide +kernel)⟩
theorem lw_p69 : lw_okq (⟨"PoolCoastModel", "closedAt", "(III)I"⟩, 92) := ⟨⟨by decide +kernel, by decide +kernel⟩, List.mem_of_getElem? (i := 1033) (by decide +kernel), List.mem_of_getElem? (i := 1523) (by decide +kernel), List.mem_of_getElem? (i := 1524) (by decide +kernel)⟩
theorem lw_p70 : lw_okq (⟨"PoolCoastModel", "rulesAt", "(I)I"⟩, 92) := ⟨⟨by decide +kernel, by decide +kernel⟩, List.mem_of_getElem? (i := 1033) (by decide +kernel), List.mem_of_getElem? (i := 1527) (by decide +kernel), List.mem_of_getElem? (i := 1528) (by decide +kernel)⟩
theorem lw_p71 : lw_okq (⟨"PoolCoastModel", "testAt", "(III)I"⟩, 92) := ⟨⟨by decide +kernel, by decide +kernel⟩, List.mem_of_getElem? (i := 1033) (by decide +kernel), List.mem_of_getElem? (i := 1531) (by decide +kernel), List.mem_of_getElem? (i := 1532) (by decide +kernel)⟩
theorem lw_p72 : lw_okq (⟨"PoolCoastModel", "isTrue", "(III)Z"⟩, 92) := ⟨⟨by decide +kernel, by decide +kernel⟩, List.mem_of_getElem? (i := 1033) (by decide +kernel), List.mem_of_getElem? (i := 1535) (by decide +kernel), List.mem_of_getElem? (i := 1536) (by decide +kernel)⟩
theorem lw_p73 : lw_okq (⟨"PoolCoastModel", "openHours", "(III)I"⟩, 92) := ⟨⟨by decide +kernel, by decide +kernel⟩, List.mem_of_getElem? (i := 1033) (by decide +kernel), List.mem_of_getElem? (i := 1549) (by decide +kernel), List.mem_of_getElem? (i := 1550) (by decide +kernel)⟩
theorem lw_p74 : lw_okq (⟨"PoolCoastModel", "isLow", "(II)Z"⟩, 92) := ⟨⟨by decide +kernel, by decide +kernel⟩, List.mem_of_getElem? (i := 1033) (by decide +kernel), List.mem_of_getElem? (i := 1561) (by decide +kernel), List.mem_of_getElem? (i := 1562) (by decide +kernel)⟩
theorem lw_p75 : lw_okq (⟨"PoolCoastModel", "mayBe", "(III)Z"⟩, 92) := ⟨⟨by decide +kernel, by decide +kernel⟩, List.mem_of_getElem? (i := 1033) (by decide +kernel), List.mem_of_getElem? (i := 1569) (by decide +kernel), List.mem_of_getElem? (i := 1570) (by decide +kernel)⟩
theorem lw_p76 : lw_okq (⟨"PoolCoastModel", "costOf", "(II)I"⟩, 92) := ⟨⟨by decide +kernel, by decide +kernel⟩, List.mem_of_getElem? (i := 1033) (by decide +kernel), List.mem_of_getElem? (i := 1573) (by decide +kernel), List.mem_of_getElem? (i := 1574) (by decide +kernel)⟩
theorem lw_p77 : lw_okq (⟨"PoolCoastModel", "notes", "(III)V"⟩, 92) := ⟨⟨by decide +kernel, by decide +kernel⟩, List.mem_of_getElem? (i := 1033) (by decide +kernel), List.mem_of_getElem? (i := 1597) (by decide +kernel), List.mem_of_getElem? (i := 1598) (by decide +kernel)⟩
theorem lw_p78 : lw_okq (⟨"PoolCoastModel", "explains", "(III)Z"⟩, 92) := ⟨⟨by decide +kernel, by decide +kernel⟩, List.mem_of_getElem? (i := 1033) (by decide +kernel), List.mem_of_getElem? (i := 1601) (by decide +kernel), List.mem_of_getElem? (i := 1602) (by decide +kernel)⟩
theorem lw_p79 : lw_okq (⟨"PoolCoastModel", "depthBy", "(IIIII)I"⟩, 92) := ⟨⟨by decide +kernel, by decide +kernel⟩, List.mem_of_getElem? (i := 1033) (by decide +kernel), List.mem_of_getElem? (i := 1605) (by decide +kernel), List.mem_of_getElem? (i := 1606) (by decide +kernel)⟩
def lw_privs_5 : List (MethodName × Nat) := [(⟨"PoolCoastModel", "compare", "(I)Z"⟩, 92), (⟨"PoolCoastModel", "writes", "(I)V"⟩, 92), (⟨"PoolCoastModel", "deep", "()I"⟩, 92), (⟨"PoolCoastModel", "closesNots", "()V"⟩, 92), (⟨"PoolCoastModel", "closesDown", "(I)V"⟩, 92), (⟨"PoolCoastModel", "closedAt", "(III)I"⟩, 92), (⟨"PoolCoastModel", "rulesAt", "(I)I"⟩, 92), (⟨"PoolCoastModel", "testAt", "(III)I"⟩, 92), (⟨"PoolCoastModel", "isTrue", "(III)Z"⟩, 92), (⟨"PoolCoastModel", "openHours", "(III)I"⟩, 92), (⟨"PoolCoastModel", "isLow", "(II)Z"⟩, 92), (⟨"PoolCoastModel", "mayBe", "(III)Z"⟩, 92), (⟨"PoolCoastModel", "costOf", "(II)I"⟩, 92), (⟨"PoolCoastModel", "notes", "(III)V"⟩, 92), (⟨"PoolCoastModel", "explains", "(III)Z"⟩, 92), (⟨"PoolCoastModel", "depthBy", "(IIIII)I"⟩, 92)]
theorem lw_r5 : ∀ q ∈ lw_privs_5, lw_okq q := List.forall_mem_cons.mpr ⟨lw_p64, List.forall_mem_cons.mpr ⟨lw_p65, List.forall_mem_cons.mpr ⟨lw_p66, List.forall_mem_cons.mpr ⟨lw_p67, List.forall_mem_cons.mpr ⟨lw_p68, List.forall_mem_cons.mpr ⟨lw_p69, List.forall_mem_cons.mpr ⟨lw_p70, List.forall_mem_cons.mpr ⟨lw_p71, List.forall_mem_cons.mpr ⟨lw_p72, List.forall_mem_cons.mpr ⟨lw_p73, List.forall_mem_cons.mpr ⟨lw_p74, List.forall_mem_cons.mpr ⟨lw_p75, List.forall_mem_cons.mpr ⟨lw_p76, List.forall_mem_cons.mpr ⟨lw_p77, List.forall_mem_cons.mpr ⟨lw_p78, List.forall_mem_cons.mpr ⟨lw_p79, fun _ h => absurd h List.not_mem_nil⟩⟩⟩⟩⟩⟩⟩⟩⟩⟩⟩⟩⟩⟩⟩⟩
theorem lw_p80 : lw_okq (⟨"PoolCoastModel", "taken", "(III)I"⟩, 92) := ⟨⟨by decide +kernel, by decide +kernel⟩, List.mem_of_getElem? (i := 1033) (by decide +kernel), List.mem_of_getElem? (i := 1609) (by decide +kernel), List.mem_of_getElem? (i := 1610) (by decide +kernel)⟩
theorem lw_p81 : lw_okq (⟨"PoolCoastModel", "dueAt", "(II)I"⟩, 92) := ⟨⟨by decide +kernel, by decide +kernel⟩, List.mem_of_getElem? (i := 1033) (by decide +kernel), List.mem_of_getElem? (i := 1629) (by decide +kernel), List.mem_of_getElem? (i := 1630) (by decide +kernel)⟩
def lw_privs_6 : List (MethodName × Nat) := [(⟨"PoolCoastModel", "taken", "(III)I"⟩, 92), (⟨"PoolCoastModel", "dueAt", "(II)I"⟩, 92)]
theorem lw_r6 : ∀ q ∈ lw_privs_6, lw_okq q := List.forall_mem_cons.mpr ⟨lw_p80, List.forall_mem_cons.mpr ⟨lw_p81, fun _ h => absurd h List.not_mem_nil⟩⟩
def lw_privs : List (MethodName × Nat) := lw_privs_1 ++ (lw_privs_2 ++ (lw_privs_3 ++ (lw_privs_4 ++ (lw_privs_5 ++ (lw_privs_6)))))
def lw_tbl : List Cond := k2_sels lw_privs ++ tables_1
theorem lw_privs_ok : ∀ q ∈ lw_privs, lw_okq q := by
  show ∀ q ∈ lw_privs_1 ++ (lw_privs_2 ++ (lw_privs_3 ++ (lw_privs_4 ++ (lw_privs_5 ++ (lw_privs_6))))), lw_okq q
  exact List.forall_mem_append.mpr ⟨lw_r1, List.forall_mem_append.mpr ⟨lw_r2, List.forall_mem_append.mpr ⟨lw_r3, List.forall_mem_append.mpr ⟨lw_r4, List.forall_mem_append.mpr ⟨lw_r5, lw_r6⟩⟩⟩⟩⟩
end
section
def RX0 : String := "PoolCoast$Basin"
def TX0 : u_T := fun k => match k with
  | 0 => ("PoolCoast$Basin", "area", "I", true)
  | 1 => ("PoolCoast$Basin", "floor", "I", true)
  | 2 => ("PoolCoast$Basin", "wall", "I", true)
  | 3 => ("PoolCoast$Basin", "sill", "I", true)
  | 4 => ("PoolCoast$Basin", "sluiceRate", "I", true)
  | 5 => ("PoolCoast$Basin", "overRate", "I", true)
  | 6 => ("PoolCoast$Basin", "crackLevels", "[I", true)
  | 7 => ("PoolCoast$Basin", "crackRates", "[I", true)
  | 8 => ("PoolCoast$Basin", "crackCount", "I", false)
  | 9 => ("PoolCoast$Basin", "sand", "I", false)
  | 10 => ("PoolCoast$Basin", "weed", "I", false)
  | 11 => ("PoolCoast$Basin", "pumping", "I", false)
  | _ => ("PoolCoast$Basin", "isOpen", "Z", false)
def tyX0 : Nat → FieldType := fun k => match k with
  | 0 => .int
  | 1 => .int
  | 2 => .int
  | 3 => .int
  | 4 => .int
  | 5 => .int
  | 6 => .array .int
  | 7 => .array .int
  | 8 => .int
  | 9 => .int
  | 10 => .int
  | 11 => .int
  | _ => .boolean
abbrev wsX00 : List Cond := u_ws RX0 TX0 13
theorem nmX0 : ∀ a, a < 13 → ∀ b, b < 13 → a ≠ b → (TX0 a).2.1 ≠ (TX0 b).2.1 := by decide +kernel
theorem tyX0_ok : ∀ k, k < 13 → parseFieldDescriptor (TX0 k).2.2.1 = some (tyX0 k) := by decide +kernel
abbrev cX0_init : ByteArray := prog_2_method_1_code
def yX0_init : MethodName := ⟨RX0, "<init>", "(IIIIII)V"⟩
abbrev cX0_takesCrack : ByteArray := prog_2_method_2_code
def yX0_takesCrack : MethodName := ⟨RX0, "takesCrack", "(II)Z"⟩
abbrev cX0_addCrack : ByteArray := prog_2_method_3_code
def yX0_addCrack : MethodName := ⟨RX0, "addCrack", "(II)I"⟩
def RX1 : String := "PoolCoast$Evidence"
def TX1 : u_T := fun k => match k with
  | 0 => ("PoolCoast$Evidence", "area", "I", true)
  | 1 => ("PoolCoast$Evidence", "from", "[I", true)
  | 2 => ("PoolCoast$Evidence", "to", "[I", true)
  | 3 => ("PoolCoast$Evidence", "times", "[I", true)
  | 4 => ("PoolCoast$Evidence", "depths", "[I", true)
  | 5 => ("PoolCoast$Evidence", "rates", "[I", true)
  | 6 => ("PoolCoast$Evidence", "ones", "[I", true)
  | 7 => ("PoolCoast$Evidence", "others", "[I", true)
  | 8 => ("PoolCoast$Evidence", "nights", "I", false)
  | 9 => ("PoolCoast$Evidence", "suspects", "I", false)
  | _ => ("PoolCoast$Evidence", "sets", "I", false)
def tyX1 : Nat → FieldType := fun k => match k with
  | 0 => .int
  | 1 => .array .int
  | 2 => .array .int
  | 3 => .array .int
  | 4 => .array .int
  | 5 => .array .int
  | 6 => .array .int
  | 7 => .array .int
  | 8 => .int
  | 9 => .int
  | _ => .int
abbrev wsX10 : List Cond := u_ws RX1 TX1 11
theorem nmX1 : ∀ a, a < 11 → ∀ b, b < 11 → a ≠ b → (TX1 a).2.1 ≠ (TX1 b).2.1 := by decide +kernel
theorem tyX1_ok : ∀ k, k < 11 → parseFieldDescriptor (TX1 k).2.2.1 = some (tyX1 k) := by decide +kernel
abbrev cX1_init : ByteArray := prog_3_method_1_code
def yX1_init : MethodName := ⟨RX1, "<init>", "(I)V"⟩
abbrev cX1_takesNight : ByteArray := prog_3_method_2_code
def yX1_takesNight : MethodName := ⟨RX1, "takesNight", "(III)Z"⟩
abbrev cX1_addNight : ByteArray := prog_3_method_3_code
def yX1_addNight : MethodName := ⟨RX1, "addNight", "(III)I"⟩
abbrev cX1_takesSuspect : ByteArray := prog_3_method_4_code
def yX1_takesSuspect : MethodName := ⟨RX1, "takesSuspect", "(II)Z"⟩
abbrev cX1_addSuspect : ByteArray := prog_3_method_5_code
def yX1_addSuspect : MethodName := ⟨RX1, "addSuspect", "(II)I"⟩
abbrev cX1_seek : ByteArray := prog_3_method_6_code
def yX1_seek : MethodName := ⟨RX1, "seek", "()I"⟩
abbrev cX1_suspectOf : ByteArray := prog_3_method_7_code
def yX1_suspectOf : MethodName := ⟨RX1, "suspectOf", "(II)I"⟩
abbrev cX1_nextLook : ByteArray := prog_3_method_8_code
def yX1_nextLook : MethodName := ⟨RX1, "nextLook", "()I"⟩
abbrev cX1_spreadFrom : ByteArray := prog_3_method_9_code
def yX1_spreadFrom : MethodName := ⟨RX1, "spreadFrom", "(I)I"⟩
abbrev cX1_addIfExplaining : ByteArray := prog_3_method_10_code
def yX1_addIfExplaining : MethodName := ⟨RX1, "addIfExplaining", "(II)V"⟩
abbrev cX1_depthAfter : ByteArray := prog_3_method_11_code
def yX1_depthAfter : MethodName := ⟨RX1, "depthAfter", "(IIII)I"⟩
abbrev cX1_taken : ByteArray := prog_3_method_12_code
def yX1_taken : MethodName := ⟨RX1, "taken", "(II)I"⟩
def RX2 : String := "PoolCoast$Lease"
def TX2 : u_T := fun k => match k with
  | 0 => ("PoolCoast$Lease", "pool", "I", true)
  | 1 => ("PoolCoast$Lease", "coins", "I", true)
  | 2 => ("PoolCoast$Lease", "first", "I", true)
  | 3 => ("PoolCoast$Lease", "last", "I", true)
  | _ => ("PoolCoast$Lease", "paid", "I", false)
def tyX2 : Nat → FieldType := fun k => match k with
  | 0 => .int
  | 1 => .int
  | 2 => .int
  | 3 => .int
  | _ => .int
abbrev wsX20 : List Cond := u_ws RX2 TX2 5
theorem nmX2 : ∀ a, a < 5 → ∀ b, b < 5 → a ≠ b → (TX2 a).2.1 ≠ (TX2 b).2.1 := by decide +kernel
theorem tyX2_ok : ∀ k, k < 5 → parseFieldDescriptor (TX2 k).2.2.1 = some (tyX2 k) := by decide +kernel
abbrev cX2_init : ByteArray := prog_4_method_1_code
def yX2_init : MethodName := ⟨RX2, "<init>", "(IIII)V"⟩
def RX3 : String := "PoolCoast$Planner"
def TX3 : u_T := fun k => match k with
  | 0 => ("PoolCoast$Planner", "dayPlanned", "[I", true)
  | 1 => ("PoolCoast$Planner", "numbers", "[I", true)
  | 2 => ("PoolCoast$Planner", "costs", "[I", true)
  | 3 => ("PoolCoast$Planner", "chosen", "[I", true)
  | 4 => ("PoolCoast$Planner", "best", "[I", true)
  | 5 => ("PoolCoast$Planner", "busyGangs", "[I", true)
  | 6 => ("PoolCoast$Planner", "size", "I", false)
  | 7 => ("PoolCoast$Planner", "days", "I", false)
  | 8 => ("PoolCoast$Planner", "gangs", "I", false)
  | _ => ("PoolCoast$Planner", "leastCost", "I", false)
def tyX3 : Nat → FieldType := fun k => match k with
  | 0 => .array .int
  | 1 => .array .int
  | 2 => .array .int
  | 3 => .array .int
  | 4 => .array .int
  | 5 => .array .int
  | 6 => .int
  | 7 => .int
  | 8 => .int
  | _ => .int
abbrev wsX30 : List Cond := u_ws RX3 TX3 10
theorem nmX3 : ∀ a, a < 10 → ∀ b, b < 10 → a ≠ b → (TX3 a).2.1 ≠ (TX3 b).2.1 := by decide +kernel
theorem tyX3_ok : ∀ k, k < 10 → parseFieldDescriptor (TX3 k).2.2.1 = some (tyX3 k) := by decide +kernel
abbrev cX3_init : ByteArray := prog_5_method_1_code
def yX3_init : MethodName := ⟨RX3, "<init>", "()V"⟩
abbrev cX3_begin : ByteArray := prog_5_method_2_code
def yX3_begin : MethodName := ⟨RX3, "begin", "(II)V"⟩
abbrev cX3_addPool : ByteArray := prog_5_method_3_code
def yX3_addPool : MethodName := ⟨RX3, "addPool", "(I)I"⟩
abbrev cX3_offer : ByteArray := prog_5_method_4_code
def yX3_offer : MethodName := ⟨RX3, "offer", "(III)V"⟩
abbrev cX3_finish : ByteArray := prog_5_method_5_code
def yX3_finish : MethodName := ⟨RX3, "finish", "(I)I"⟩
abbrev cX3_choose : ByteArray := prog_5_method_6_code
def yX3_choose : MethodName := ⟨RX3, "choose", "(II)V"⟩
abbrev cX3_tryChoice : ByteArray := prog_5_method_7_code
def yX3_tryChoice : MethodName := ⟨RX3, "tryChoice", "(III)V"⟩
def RX4 : String := "PoolCoast$Pool"
def TX4 : u_T := fun k => match k with
  | 0 => ("PoolCoast$Pool", "basin", "LPoolCoast$Basin;", true)
  | 1 => ("PoolCoast$Pool", "number", "I", true)
  | 2 => ("PoolCoast$Pool", "came", "I", true)
  | 3 => ("PoolCoast$Pool", "water", "LPoolCoast$Water;", true)
  | 4 => ("PoolCoast$Pool", "evidence", "LPoolCoast$Evidence;", true)
  | 5 => ("PoolCoast$Pool", "levels", "[I", true)
  | 6 => ("PoolCoast$Pool", "ages", "[I", true)
  | 7 => ("PoolCoast$Pool", "dirts", "[I", true)
  | 8 => ("PoolCoast$Pool", "freeDays", "[I", true)
  | 9 => ("PoolCoast$Pool", "foretold", "LPoolCoast$Water;", true)
  | 10 => ("PoolCoast$Pool", "foretoldTick", "I", false)
  | _ => ("PoolCoast$Pool", "foretoldAt", "I", false)
def tyX4 : Nat → FieldType := fun k => match k with
  | 0 => .object "PoolCoast$Basin"
  | 1 => .int
  | 2 => .int
  | 3 => .object "PoolCoast$Water"
  | 4 => .object "PoolCoast$Evidence"
  | 5 => .array .int
  | 6 => .array .int
  | 7 => .array .int
  | 8 => .array .int
  | 9 => .object "PoolCoast$Water"
  | 10 => .int
  | _ => .int
abbrev wsX40 : List Cond := u_ws RX4 TX4 12
theorem nmX4 : ∀ a, a < 12 → ∀ b, b < 12 → a ≠ b → (TX4 a).2.1 ≠ (TX4 b).2.1 := by decide +kernel
theorem tyX4_ok : ∀ k, k < 12 → parseFieldDescriptor (TX4 k).2.2.1 = some (tyX4 k) := by decide +kernel
abbrev cX4_init : ByteArray := prog_6_method_1_code
def yX4_init : MethodName := ⟨RX4, "<init>", "(LPoolCoast$Basin;III)V"⟩
abbrev cX4_step : ByteArray := prog_6_method_2_code
def yX4_step : MethodName := ⟨RX4, "step", "(LPoolCoast$Water;ILPoolCoast$Tides;LPoolCoast$Waves;)V"⟩
abbrev cX4_foretell : ByteArray := prog_6_method_3_code
def yX4_foretell : MethodName := ⟨RX4, "foretell", "(IIILPoolCoast$Tides;LPoolCoast$Waves;)V"⟩
def RX5 : String := "PoolCoast$Reader"
def TX5 : u_T := fun k => match k with
  | 0 => ("PoolCoast$Reader", "code", "[I", true)
  | 1 => ("PoolCoast$Reader", "length", "I", false)
  | 2 => ("PoolCoast$Reader", "size", "I", false)
  | 3 => ("PoolCoast$Reader", "clauses", "I", false)
  | 4 => ("PoolCoast$Reader", "bytes", "[I", true)
  | 5 => ("PoolCoast$Reader", "place", "I", false)
  | 6 => ("PoolCoast$Reader", "wordEnd", "I", false)
  | 7 => ("PoolCoast$Reader", "compares", "I", false)
  | _ => ("PoolCoast$Reader", "fault", "I", false)
def tyX5 : Nat → FieldType := fun k => match k with
  | 0 => .array .int
  | 1 => .int
  | 2 => .int
  | 3 => .int
  | 4 => .array .int
  | 5 => .int
  | 6 => .int
  | 7 => .int
  | _ => .int
abbrev wsX50 : List Cond := u_ws RX5 TX5 9
theorem nmX5 : ∀ a, a < 9 → ∀ b, b < 9 → a ≠ b → (TX5 a).2.1 ≠ (TX5 b).2.1 := by decide +kernel
theorem tyX5_ok : ∀ k, k < 9 → parseFieldDescriptor (TX5 k).2.2.1 = some (tyX5 k) := by decide +kernel
abbrev cX5_init : ByteArray := prog_7_method_1_code
def yX5_init : MethodName := ⟨RX5, "<init>", "()V"⟩
abbrev cX5_append : ByteArray := prog_7_method_2_code
def yX5_append : MethodName := ⟨RX5, "append", "(I)V"⟩
abbrev cX5_read : ByteArray := prog_7_method_3_code
def yX5_read : MethodName := ⟨RX5, "read", "()I"⟩
abbrev cX5_readEither : ByteArray := prog_7_method_4_code
def yX5_readEither : MethodName := ⟨RX5, "readEither", "(I)V"⟩
abbrev cX5_readBoth : ByteArray := prog_7_method_5_code
def yX5_readBoth : MethodName := ⟨RX5, "readBoth", "(I)V"⟩
abbrev cX5_readOne : ByteArray := prog_7_method_6_code
def yX5_readOne : MethodName := ⟨RX5, "readOne", "(I)V"⟩
abbrev cX5_readNested : ByteArray := prog_7_method_7_code
def yX5_readNested : MethodName := ⟨RX5, "readNested", "(I)V"⟩
abbrev cX5_readCompare : ByteArray := prog_7_method_8_code
def yX5_readCompare : MethodName := ⟨RX5, "readCompare", "(I)V"⟩
abbrev cX5_takeSign : ByteArray := prog_7_method_9_code
def yX5_takeSign : MethodName := ⟨RX5, "takeSign", "()I"⟩
abbrev cX5_takeNumber : ByteArray := prog_7_method_10_code
def yX5_takeNumber : MethodName := ⟨RX5, "takeNumber", "()I"⟩
abbrev cX5_canBegin : ByteArray := prog_7_method_11_code
def yX5_canBegin : MethodName := ⟨RX5, "canBegin", "()Z"⟩
abbrev cX5_takeWord : ByteArray := prog_7_method_12_code
def yX5_takeWord : MethodName := ⟨RX5, "takeWord", "(I)Z"⟩
abbrev cX5_takeByte : ByteArray := prog_7_method_13_code
def yX5_takeByte : MethodName := ⟨RX5, "takeByte", "(I)V"⟩
abbrev cX5_wordHere : ByteArray := prog_7_method_14_code
def yX5_wordHere : MethodName := ⟨RX5, "wordHere", "()I"⟩
abbrev cX5_isNamed : ByteArray := prog_7_method_15_code
def yX5_isNamed : MethodName := ⟨RX5, "isNamed", "(Ljava/lang/String;)Z"⟩
abbrev cX5_nameOf : ByteArray := prog_7_method_16_code
def yX5_nameOf : MethodName := ⟨RX5, "nameOf", "(I)Ljava/lang/String;"⟩
abbrev cX5_skipBlanks : ByteArray := prog_7_method_17_code
def yX5_skipBlanks : MethodName := ⟨RX5, "skipBlanks", "()V"⟩
abbrev cX5_byteHere : ByteArray := prog_7_method_18_code
def yX5_byteHere : MethodName := ⟨RX5, "byteHere", "()I"⟩
abbrev cX5_refuse : ByteArray := prog_7_method_19_code
def yX5_refuse : MethodName := ⟨RX5, "refuse", "(I)V"⟩
abbrev cX5_emit : ByteArray := prog_7_method_20_code
def yX5_emit : MethodName := ⟨RX5, "emit", "(I)V"⟩
def RX6 : String := "PoolCoast$Ruling"
def TX6 : u_T := fun k => match k with
  | 0 => ("PoolCoast$Ruling", "knownFrom", "I", true)
  | 1 => ("PoolCoast$Ruling", "namesTest", "Z", true)
  | _ => ("PoolCoast$Ruling", "code", "[I", true)
def tyX6 : Nat → FieldType := fun k => match k with
  | 0 => .int
  | 1 => .boolean
  | _ => .array .int
abbrev wsX60 : List Cond := u_ws RX6 TX6 3
theorem nmX6 : ∀ a, a < 3 → ∀ b, b < 3 → a ≠ b → (TX6 a).2.1 ≠ (TX6 b).2.1 := by decide +kernel
theorem tyX6_ok : ∀ k, k < 3 → parseFieldDescriptor (TX6 k).2.2.1 = some (tyX6 k) := by decide +kernel
abbrev cX6_init : ByteArray := prog_8_method_1_code
def yX6_init : MethodName := ⟨RX6, "<init>", "([III)V"⟩
abbrev cX6_firstTrue : ByteArray := prog_8_method_2_code
def yX6_firstTrue : MethodName := ⟨RX6, "firstTrue", "([I)I"⟩
abbrev cX6_holds : ByteArray := prog_8_method_3_code
def yX6_holds : MethodName := ⟨RX6, "holds", "(I[I)Z"⟩
def RX7 : String := "PoolCoast$Samples"
def TX7 : u_T := fun k => match k with
  | 0 => ("PoolCoast$Samples", "poolsOf", "[I", true)
  | 1 => ("PoolCoast$Samples", "hours", "[I", true)
  | 2 => ("PoolCoast$Samples", "results", "[I", true)
  | 3 => ("PoolCoast$Samples", "knownFrom", "[I", true)
  | _ => ("PoolCoast$Samples", "size", "I", false)
def tyX7 : Nat → FieldType := fun k => match k with
  | 0 => .array .int
  | 1 => .array .int
  | 2 => .array .int
  | 3 => .array .int
  | _ => .int
abbrev wsX70 : List Cond := u_ws RX7 TX7 5
theorem nmX7 : ∀ a, a < 5 → ∀ b, b < 5 → a ≠ b → (TX7 a).2.1 ≠ (TX7 b).2.1 := by decide +kernel
theorem tyX7_ok : ∀ k, k < 5 → parseFieldDescriptor (TX7 k).2.2.1 = some (tyX7 k) := by decide +kernel
abbrev cX7_init : ByteArray := prog_9_method_1_code
def yX7_init : MethodName := ⟨RX7, "<init>", "()V"⟩
abbrev cX7_add : ByteArray := prog_9_method_2_code
def yX7_add : MethodName := ⟨RX7, "add", "(IIII)I"⟩
abbrev cX7_resultOf : ByteArray := prog_9_method_3_code
def yX7_resultOf : MethodName := ⟨RX7, "resultOf", "(III)I"⟩
def RX8 : String := "PoolCoast$Tides"
def TX8 : u_T := fun k => match k with
  | 0 => ("PoolCoast$Tides", "ticks", "[I", true)
  | 1 => ("PoolCoast$Tides", "levels", "[I", true)
  | _ => ("PoolCoast$Tides", "size", "I", false)
def tyX8 : Nat → FieldType := fun k => match k with
  | 0 => .array .int
  | 1 => .array .int
  | _ => .int
abbrev wsX80 : List Cond := u_ws RX8 TX8 3
theorem nmX8 : ∀ a, a < 3 → ∀ b, b < 3 → a ≠ b → (TX8 a).2.1 ≠ (TX8 b).2.1 := by decide +kernel
theorem tyX8_ok : ∀ k, k < 3 → parseFieldDescriptor (TX8 k).2.2.1 = some (tyX8 k) := by decide +kernel
abbrev cX8_init : ByteArray := prog_10_method_1_code
def yX8_init : MethodName := ⟨RX8, "<init>", "()V"⟩
abbrev cX8_takes : ByteArray := prog_10_method_2_code
def yX8_takes : MethodName := ⟨RX8, "takes", "(II)Z"⟩
abbrev cX8_add : ByteArray := prog_10_method_3_code
def yX8_add : MethodName := ⟨RX8, "add", "(II)I"⟩
abbrev cX8_levelAt : ByteArray := prog_10_method_4_code
def yX8_levelAt : MethodName := ⟨RX8, "levelAt", "(I)I"⟩
abbrev cX8_lowByDay : ByteArray := prog_10_method_5_code
def yX8_lowByDay : MethodName := ⟨RX8, "lowByDay", "(II)Z"⟩
abbrev cX8_turnsUpTo : ByteArray := prog_10_method_6_code
def yX8_turnsUpTo : MethodName := ⟨RX8, "turnsUpTo", "(I)I"⟩
abbrev cX8_changeAfter : ByteArray := prog_10_method_7_code
def yX8_changeAfter : MethodName := ⟨RX8, "changeAfter", "(III)I"⟩
def RX9 : String := "PoolCoast$Water"
def TX9 : u_T := fun k => match k with
  | 0 => ("PoolCoast$Water", "units", "I", false)
  | 1 => ("PoolCoast$Water", "old", "J", false)
  | 2 => ("PoolCoast$Water", "dirt", "I", false)
  | _ => ("PoolCoast$Water", "pumped", "I", false)
def tyX9 : Nat → FieldType := fun k => match k with
  | 0 => .int
  | 1 => .long
  | 2 => .int
  | _ => .int
abbrev wsX90 : List Cond := u_ws RX9 TX9 4
theorem nmX9 : ∀ a, a < 4 → ∀ b, b < 4 → a ≠ b → (TX9 a).2.1 ≠ (TX9 b).2.1 := by decide +kernel
theorem tyX9_ok : ∀ k, k < 4 → parseFieldDescriptor (TX9 k).2.2.1 = some (tyX9 k) := by decide +kernel
abbrev cX9_init : ByteArray := prog_11_method_1_code
def yX9_init : MethodName := ⟨RX9, "<init>", "()V"⟩
abbrev cX9_copy : ByteArray := prog_11_method_2_code
def yX9_copy : MethodName := ⟨RX9, "copy", "(LPoolCoast$Water;)V"⟩
abbrev cX9_depthIn : ByteArray := prog_11_method_3_code
def yX9_depthIn : MethodName := ⟨RX9, "depthIn", "(LPoolCoast$Basin;)I"⟩
abbrev cX9_ageInHours : ByteArray := prog_11_method_4_code
def yX9_ageInHours : MethodName := ⟨RX9, "ageInHours", "()I"⟩
abbrev cX9_flow : ByteArray := prog_11_method_5_code
def yX9_flow : MethodName := ⟨RX9, "flow", "(LPoolCoast$Basin;II)V"⟩
abbrev cX9_flowBySluice : ByteArray := prog_11_method_6_code
def yX9_flowBySluice : MethodName := ⟨RX9, "flowBySluice", "(LPoolCoast$Basin;I)V"⟩
abbrev cX9_flowByCrack : ByteArray := prog_11_method_7_code
def yX9_flowByCrack : MethodName := ⟨RX9, "flowByCrack", "(LPoolCoast$Basin;III)V"⟩
abbrev cX9_flowByPump : ByteArray := prog_11_method_8_code
def yX9_flowByPump : MethodName := ⟨RX9, "flowByPump", "(I)V"⟩
abbrev cX9_flowAtWall : ByteArray := prog_11_method_9_code
def yX9_flowAtWall : MethodName := ⟨RX9, "flowAtWall", "(LPoolCoast$Basin;I)V"⟩
abbrev cX9_comeIn : ByteArray := prog_11_method_10_code
def yX9_comeIn : MethodName := ⟨RX9, "comeIn", "(I)V"⟩
abbrev cX9_goOut : ByteArray := prog_11_method_11_code
def yX9_goOut : MethodName := ⟨RX9, "goOut", "(I)V"⟩
def RX10 : String := "PoolCoast$Waves"
def TX10 : u_T := fun k => match k with
  | 0 => ("PoolCoast$Waves", "latest", "[I", true)
  | 1 => ("PoolCoast$Waves", "earlier", "[I", true)
  | 2 => ("PoolCoast$Waves", "knownFrom", "[I", true)
  | 3 => ("PoolCoast$Waves", "heights", "[I", true)
  | 4 => ("PoolCoast$Waves", "size", "I", false)
  | 5 => ("PoolCoast$Waves", "worst", "I", false)
  | _ => ("PoolCoast$Waves", "storm", "I", false)
def tyX10 : Nat → FieldType := fun k => match k with
  | 0 => .array .int
  | 1 => .array .int
  | 2 => .array .int
  | 3 => .array .int
  | 4 => .int
  | 5 => .int
  | _ => .int
abbrev wsX100 : List Cond := u_ws RX10 TX10 7
theorem nmX10 : ∀ a, a < 7 → ∀ b, b < 7 → a ≠ b → (TX10 a).2.1 ≠ (TX10 b).2.1 := by decide +kernel
theorem tyX10_ok : ∀ k, k < 7 → parseFieldDescriptor (TX10 k).2.2.1 = some (tyX10 k) := by decide +kernel
abbrev cX10_init : ByteArray := prog_12_method_1_code
def yX10_init : MethodName := ⟨RX10, "<init>", "()V"⟩
abbrev cX10_add : ByteArray := prog_12_method_2_code
def yX10_add : MethodName := ⟨RX10, "add", "(III)I"⟩
abbrev cX10_heightOf : ByteArray := prog_12_method_3_code
def yX10_heightOf : MethodName := ⟨RX10, "heightOf", "(II)I"⟩
abbrev cX10_stormyDay : ByteArray := prog_12_method_4_code
def yX10_stormyDay : MethodName := ⟨RX10, "stormyDay", "(I)Z"⟩
def RX11 : String := "PoolCoast"
def TX11 : u_T := fun k => match k with
  | 0 => ("PoolCoast", "tides", "LPoolCoast$Tides;", true)
  | 1 => ("PoolCoast", "waves", "LPoolCoast$Waves;", true)
  | 2 => ("PoolCoast", "pools", "[LPoolCoast$Pool;", true)
  | 3 => ("PoolCoast", "reader", "LPoolCoast$Reader;", true)
  | 4 => ("PoolCoast", "rulings", "[LPoolCoast$Ruling;", true)
  | 5 => ("PoolCoast", "samples", "LPoolCoast$Samples;", true)
  | 6 => ("PoolCoast", "leases", "[LPoolCoast$Lease;", true)
  | 7 => ("PoolCoast", "planner", "LPoolCoast$Planner;", true)
  | 8 => ("PoolCoast", "facts", "[I", true)
  | 9 => ("PoolCoast", "soughtLast", "LPoolCoast$Evidence;", false)
  | 10 => ("PoolCoast", "poolCount", "I", false)
  | 11 => ("PoolCoast", "rulingCount", "I", false)
  | 12 => ("PoolCoast", "leaseCount", "I", false)
  | 13 => ("PoolCoast", "now", "I", false)
  | 14 => ("PoolCoast", "hoursWanted", "I", false)
  | _ => ("PoolCoast", "changes", "I", false)
def tyX11 : Nat → FieldType := fun k => match k with
  | 0 => .object "PoolCoast$Tides"
  | 1 => .object "PoolCoast$Waves"
  | 2 => .array (.object "PoolCoast$Pool")
  | 3 => .object "PoolCoast$Reader"
  | 4 => .array (.object "PoolCoast$Ruling")
  | 5 => .object "PoolCoast$Samples"
  | 6 => .array (.object "PoolCoast$Lease")
  | 7 => .object "PoolCoast$Planner"
  | 8 => .array .int
  | 9 => .object "PoolCoast$Evidence"
  | 10 => .int
  | 11 => .int
  | 12 => .int
  | 13 => .int
  | 14 => .int
  | _ => .int
abbrev wsX110 : List Cond := u_ws RX11 TX11 16
theorem nmX11 : ∀ a, a < 16 → ∀ b, b < 16 → a ≠ b → (TX11 a).2.1 ≠ (TX11 b).2.1 := by decide +kernel
theorem tyX11_ok : ∀ k, k < 16 → parseFieldDescriptor (TX11 k).2.2.1 = some (tyX11 k) := by decide +kernel
abbrev cX11_init : ByteArray := prog_1_method_1_code
def yX11_init : MethodName := ⟨RX11, "<init>", "()V"⟩
abbrev cX11_turn : ByteArray := prog_1_method_2_code
def yX11_turn : MethodName := ⟨RX11, "turn", "(II)I"⟩
abbrev cX11_sea : ByteArray := prog_1_method_3_code
def yX11_sea : MethodName := ⟨RX11, "sea", "(I)I"⟩
abbrev cX11_wave : ByteArray := prog_1_method_4_code
def yX11_wave : MethodName := ⟨RX11, "wave", "(II)I"⟩
abbrev cX11_waved : ByteArray := prog_1_method_5_code
def yX11_waved : MethodName := ⟨RX11, "waved", "(II)I"⟩
abbrev cX11_set : ByteArray := prog_1_method_6_code
def yX11_set : MethodName := ⟨RX11, "set", "(II)I"⟩
abbrev cX11_pool : ByteArray := prog_1_method_7_code
def yX11_pool : MethodName := ⟨RX11, "pool", "(IIIIIII)I"⟩
abbrev cX11_dirt : ByteArray := prog_1_method_8_code
def yX11_dirt : MethodName := ⟨RX11, "dirt", "(III)Z"⟩
abbrev cX11_crack : ByteArray := prog_1_method_9_code
def yX11_crack : MethodName := ⟨RX11, "crack", "(III)I"⟩
abbrev cX11_mend : ByteArray := prog_1_method_10_code
def yX11_mend : MethodName := ⟨RX11, "mend", "(I)I"⟩
abbrev cX11_sluice : ByteArray := prog_1_method_11_code
def yX11_sluice : MethodName := ⟨RX11, "sluice", "(IZ)Z"⟩
abbrev cX11_pump : ByteArray := prog_1_method_12_code
def yX11_pump : MethodName := ⟨RX11, "pump", "(II)I"⟩
abbrev cX11_clean : ByteArray := prog_1_method_13_code
def yX11_clean : MethodName := ⟨RX11, "clean", "(I)I"⟩
abbrev cX11_pass : ByteArray := prog_1_method_14_code
def yX11_pass : MethodName := ⟨RX11, "pass", "(I)I"⟩
abbrev cX11_about : ByteArray := prog_1_method_15_code
def yX11_about : MethodName := ⟨RX11, "about", "(II)I"⟩
abbrev cX11_hour : ByteArray := prog_1_method_16_code
def yX11_hour : MethodName := ⟨RX11, "hour", "(III)I"⟩
abbrev cX11_feed : ByteArray := prog_1_method_17_code
def yX11_feed : MethodName := ⟨RX11, "feed", "(IIIII)I"⟩
abbrev cX11_end : ByteArray := prog_1_method_18_code
def yX11_end : MethodName := ⟨RX11, "end", "(I)I"⟩
abbrev cX11_rules : ByteArray := prog_1_method_19_code
def yX11_rules : MethodName := ⟨RX11, "rules", "()I"⟩
abbrev cX11_test : ByteArray := prog_1_method_20_code
def yX11_test : MethodName := ⟨RX11, "test", "(III)I"⟩
abbrev cX11_closed : ByteArray := prog_1_method_21_code
def yX11_closed : MethodName := ⟨RX11, "closed", "(III)I"⟩
abbrev cX11_open : ByteArray := prog_1_method_22_code
def yX11_open : MethodName := ⟨RX11, "open", "(III)I"⟩
abbrev cX11_free : ByteArray := prog_1_method_23_code
def yX11_free : MethodName := ⟨RX11, "free", "(IIZ)Z"⟩
abbrev cX11_low : ByteArray := prog_1_method_24_code
def yX11_low : MethodName := ⟨RX11, "low", "(II)I"⟩
abbrev cX11_plan : ByteArray := prog_1_method_25_code
def yX11_plan : MethodName := ⟨RX11, "plan", "(IIIII)I"⟩
abbrev cX11_planned : ByteArray := prog_1_method_26_code
def yX11_planned : MethodName := ⟨RX11, "planned", "(I)I"⟩
abbrev cX11_race : ByteArray := prog_1_method_27_code
def yX11_race : MethodName := ⟨RX11, "race", "(IIIIIII)I"⟩
abbrev cX11_night : ByteArray := prog_1_method_28_code
def yX11_night : MethodName := ⟨RX11, "night", "(IIII)I"⟩
abbrev cX11_suspect : ByteArray := prog_1_method_29_code
def yX11_suspect : MethodName := ⟨RX11, "suspect", "(III)I"⟩
abbrev cX11_cause : ByteArray := prog_1_method_30_code
def yX11_cause : MethodName := ⟨RX11, "cause", "(I)I"⟩
abbrev cX11_causes : ByteArray := prog_1_method_31_code
def yX11_causes : MethodName := ⟨RX11, "causes", "(II)I"⟩
abbrev cX11_look : ByteArray := prog_1_method_32_code
def yX11_look : MethodName := ⟨RX11, "look", "()I"⟩
abbrev cX11_lease : ByteArray := prog_1_method_33_code
def yX11_lease : MethodName := ⟨RX11, "lease", "(IIII)I"⟩
abbrev cX11_due : ByteArray := prog_1_method_34_code
def yX11_due : MethodName := ⟨RX11, "due", "(II)I"⟩
abbrev cX11_pay : ByteArray := prog_1_method_35_code
def yX11_pay : MethodName := ⟨RX11, "pay", "(I)I"⟩
abbrev cX11_count : ByteArray := prog_1_method_36_code
def yX11_count : MethodName := ⟨RX11, "count", "(I)I"⟩
abbrev cX11_paidOf : ByteArray := prog_1_method_37_code
def yX11_paidOf : MethodName := ⟨RX11, "paidOf", "(I)I"⟩
abbrev cX11_settingOf : ByteArray := prog_1_method_38_code
def yX11_settingOf : MethodName := ⟨RX11, "settingOf", "(I)I"⟩
abbrev cX11_atEnd : ByteArray := prog_1_method_39_code
def yX11_atEnd : MethodName := ⟨RX11, "atEnd", "()Z"⟩
abbrev cX11_hourNow : ByteArray := prog_1_method_40_code
def yX11_hourNow : MethodName := ⟨RX11, "hourNow", "()I"⟩
abbrev cX11_dayNow : ByteArray := prog_1_method_41_code
def yX11_dayNow : MethodName := ⟨RX11, "dayNow", "()I"⟩
abbrev cX11_poolAt : ByteArray := prog_1_method_42_code
def yX11_poolAt : MethodName := ⟨RX11, "poolAt", "(I)LPoolCoast$Pool;"⟩
abbrev cX11_leaseAt : ByteArray := prog_1_method_43_code
def yX11_leaseAt : MethodName := ⟨RX11, "leaseAt", "(I)LPoolCoast$Lease;"⟩
abbrev cX11_tells : ByteArray := prog_1_method_44_code
def yX11_tells : MethodName := ⟨RX11, "tells", "(LPoolCoast$Pool;I)Z"⟩
abbrev cX11_inForce : ByteArray := prog_1_method_45_code
def yX11_inForce : MethodName := ⟨RX11, "inForce", "(I)LPoolCoast$Ruling;"⟩
abbrev cX11_closingClause : ByteArray := prog_1_method_46_code
def yX11_closingClause : MethodName := ⟨RX11, "closingClause", "(LPoolCoast$Pool;II)I"⟩
abbrev cX11_openHours : ByteArray := prog_1_method_47_code
def yX11_openHours : MethodName := ⟨RX11, "openHours", "(LPoolCoast$Pool;II)I"⟩
abbrev cX11_dueOf : ByteArray := prog_1_method_48_code
def yX11_dueOf : MethodName := ⟨RX11, "dueOf", "(LPoolCoast$Lease;I)I"⟩
abbrev cX11_takeIntoPlan : ByteArray := prog_1_method_49_code
def yX11_takeIntoPlan : MethodName := ⟨RX11, "takeIntoPlan", "(LPoolCoast$Pool;III)V"⟩
abbrev cX11_dirtCost : ByteArray := prog_1_method_50_code
def yX11_dirtCost : MethodName := ⟨RX11, "dirtCost", "(IIIII)I"⟩
abbrev cX11_isHour : ByteArray := prog_1_method_51_code
def yX11_isHour : MethodName := ⟨RX11, "isHour", "(I)Z"⟩
abbrev cX11_isDay : ByteArray := prog_1_method_52_code
def yX11_isDay : MethodName := ⟨RX11, "isDay", "(I)Z"⟩
abbrev cX11_within : ByteArray := prog_1_method_53_code
def yX11_within : MethodName := ⟨RX11, "within", "(III)Z"⟩
abbrev cX11_at : ByteArray := prog_1_method_54_code
def yX11_at : MethodName := ⟨RX11, "at", "([II)I"⟩
abbrev cX11_put : ByteArray := prog_1_method_55_code
def yX11_put : MethodName := ⟨RX11, "put", "([III)V"⟩
def RX12 : String := "PoolCoastModel"
def TX12 : u_T := fun k => match k with
  | 0 => ("PoolCoastModel", "now", "I", false)
  | 1 => ("PoolCoastModel", "turns", "I", false)
  | 2 => ("PoolCoastModel", "turnTick", "[I", true)
  | 3 => ("PoolCoastModel", "turnLevel", "[I", true)
  | 4 => ("PoolCoastModel", "rows", "I", false)
  | 5 => ("PoolCoastModel", "rowHour", "[I", true)
  | 6 => ("PoolCoastModel", "rowKnown", "[I", true)
  | 7 => ("PoolCoastModel", "rowHeight", "[I", true)
  | 8 => ("PoolCoastModel", "set", "[I", true)
  | 9 => ("PoolCoastModel", "twelfths", "[I", true)
  | 10 => ("PoolCoastModel", "pools", "I", false)
  | 11 => ("PoolCoastModel", "area", "[I", true)
  | 12 => ("PoolCoastModel", "floor", "[I", true)
  | 13 => ("PoolCoastModel", "wall", "[I", true)
  | 14 => ("PoolCoastModel", "sill", "[I", true)
  | 15 => ("PoolCoastModel", "sluice", "[I", true)
  | 16 => ("PoolCoastModel", "over", "[I", true)
  | 17 => ("PoolCoastModel", "sand", "[I", true)
  | 18 => ("PoolCoastModel", "weed", "[I", true)
  | 19 => ("PoolCoastModel", "isOpen", "[Z", true)
  | 20 => ("PoolCoastModel", "pump", "[I", true)
  | 21 => ("PoolCoastModel", "water", "[I", true)
  | 22 => ("PoolCoastModel", "old", "[J", true)
  | 23 => ("PoolCoastModel", "dirt", "[I", true)
  | 24 => ("PoolCoastModel", "pumped", "[I", true)
  | 25 => ("PoolCoastModel", "came", "[I", true)
  | 26 => ("PoolCoastModel", "cracks", "[I", true)
  | 27 => ("PoolCoastModel", "crackLevel", "[I", true)
  | 28 => ("PoolCoastModel", "crackRate", "[I", true)
  | 29 => ("PoolCoastModel", "keptLevel", "[I", true)
  | 30 => ("PoolCoastModel", "keptAge", "[I", true)
  | 31 => ("PoolCoastModel", "keptDirt", "[I", true)
  | 32 => ("PoolCoastModel", "isFree", "[Z", true)
  | 33 => ("PoolCoastModel", "worked", "I", false)
  | 34 => ("PoolCoastModel", "workedOld", "J", false)
  | 35 => ("PoolCoastModel", "workedDirt", "I", false)
  | 36 => ("PoolCoastModel", "workedPumped", "I", false)
  | 37 => ("PoolCoastModel", "foreMany", "I", false)
  | 38 => ("PoolCoastModel", "foreLevel", "[I", true)
  | 39 => ("PoolCoastModel", "foreAge", "[I", true)
  | 40 => ("PoolCoastModel", "foreDirt", "[I", true)
  | 41 => ("PoolCoastModel", "isLevel", "I", false)
  | 42 => ("PoolCoastModel", "isAge", "I", false)
  | 43 => ("PoolCoastModel", "isDirt", "I", false)
  | 44 => ("PoolCoastModel", "tape", "[B", true)
  | 45 => ("PoolCoastModel", "taped", "I", false)
  | 46 => ("PoolCoastModel", "next", "I", false)
  | 47 => ("PoolCoastModel", "fault", "I", false)
  | 48 => ("PoolCoastModel", "wordSize", "I", false)
  | 49 => ("PoolCoastModel", "words", "[B", true)
  | 50 => ("PoolCoastModel", "read", "I", false)
  | 51 => ("PoolCoastModel", "readClauses", "I", false)
  | 52 => ("PoolCoastModel", "compares", "I", false)
  | 53 => ("PoolCoastModel", "readStep", "[I", true)
  | 54 => ("PoolCoastModel", "readEnd", "[I", true)
  | 55 => ("PoolCoastModel", "open", "[I", true)
  | 56 => ("PoolCoastModel", "opened", "I", false)
  | 57 => ("PoolCoastModel", "ruleMany", "I", false)
  | 58 => ("PoolCoastModel", "ruleKnown", "[I", true)
  | 59 => ("PoolCoastModel", "ruleClauses", "[I", true)
  | 60 => ("PoolCoastModel", "ruleStep", "[I", true)
  | 61 => ("PoolCoastModel", "ruleEnd", "[I", true)
  | 62 => ("PoolCoastModel", "tests", "I", false)
  | 63 => ("PoolCoastModel", "testPool", "[I", true)
  | 64 => ("PoolCoastModel", "testHour", "[I", true)
  | 65 => ("PoolCoastModel", "testKnown", "[I", true)
  | 66 => ("PoolCoastModel", "testIs", "[I", true)
  | 67 => ("PoolCoastModel", "told", "[I", true)
  | 68 => ("PoolCoastModel", "stack", "[Z", true)
  | 69 => ("PoolCoastModel", "planned", "[I", true)
  | 70 => ("PoolCoastModel", "few", "I", false)
  | 71 => ("PoolCoastModel", "fewOf", "[I", true)
  | 72 => ("PoolCoastModel", "fewDirt", "[I", true)
  | 73 => ("PoolCoastModel", "dayOf", "[I", true)
  | 74 => ("PoolCoastModel", "bestDay", "[I", true)
  | 75 => ("PoolCoastModel", "nights", "[I", true)
  | 76 => ("PoolCoastModel", "nightFrom", "[I", true)
  | 77 => ("PoolCoastModel", "nightTo", "[I", true)
  | 78 => ("PoolCoastModel", "nightTicks", "[I", true)
  | 79 => ("PoolCoastModel", "suspects", "[I", true)
  | 80 => ("PoolCoastModel", "suspectDepth", "[I", true)
  | 81 => ("PoolCoastModel", "suspectRate", "[I", true)
  | 82 => ("PoolCoastModel", "causePool", "I", false)
  | 83 => ("PoolCoastModel", "causeMany", "I", false)
  | 84 => ("PoolCoastModel", "causeFirst", "[I", true)
  | 85 => ("PoolCoastModel", "causeSecond", "[I", true)
  | 86 => ("PoolCoastModel", "leases", "I", false)
  | 87 => ("PoolCoastModel", "leasePool", "[I", true)
  | 88 => ("PoolCoastModel", "leaseCoins", "[I", true)
  | 89 => ("PoolCoastModel", "leaseFirst", "[I", true)
  | 90 => ("PoolCoastModel", "leaseLast", "[I", true)
  | _ => ("PoolCoastModel", "paid", "[I", true)
def tyX12 : Nat → FieldType := fun k => match k with
  | 0 => .int
  | 1 => .int
  | 2 => .array .int
  | 3 => .array .int
  | 4 => .int
  | 5 => .array .int
  | 6 => .array .int
  | 7 => .array .int
  | 8 => .array .int
  | 9 => .array .int
  | 10 => .int
  | 11 => .array .int
  | 12 => .array .int
  | 13 => .array .int
  | 14 => .array .int
  | 15 => .array .int
  | 16 => .array .int
  | 17 => .array .int
  | 18 => .array .int
  | 19 => .array .boolean
  | 20 => .array .int
  | 21 => .array .int
  | 22 => .array .long
  | 23 => .array .int
  | 24 => .array .int
  | 25 => .array .int
  | 26 => .array .int
  | 27 => .array .int
  | 28 => .array .int
  | 29 => .array .int
  | 30 => .array .int
  | 31 => .array .int
  | 32 => .array .boolean
  | 33 => .int
  | 34 => .long
  | 35 => .int
  | 36 => .int
  | 37 => .int
  | 38 => .array .int
  | 39 => .array .int
  | 40 => .array .int
  | 41 => .int
  | 42 => .int
  | 43 => .int
  | 44 => .array .byte
  | 45 => .int
  | 46 => .int
  | 47 => .int
  | 48 => .int
  | 49 => .array .byte
  | 50 => .int
  | 51 => .int
  | 52 => .int
  | 53 => .array .int
  | 54 => .array .int
  | 55 => .array .int
  | 56 => .int
  | 57 => .int
  | 58 => .array .int
  | 59 => .array .int
  | 60 => .array .int
  | 61 => .array .int
  | 62 => .int
  | 63 => .array .int
  | 64 => .array .int
  | 65 => .array .int
  | 66 => .array .int
  | 67 => .array .int
  | 68 => .array .boolean
  | 69 => .array .int
  | 70 => .int
  | 71 => .array .int
  | 72 => .array .int
  | 73 => .array .int
  | 74 => .array .int
  | 75 => .array .int
  | 76 => .array .int
  | 77 => .array .int
  | 78 => .array .int
  | 79 => .array .int
  | 80 => .array .int
  | 81 => .array .int
  | 82 => .int
  | 83 => .int
  | 84 => .array .int
  | 85 => .array .int
  | 86 => .int
  | 87 => .array .int
  | 88 => .array .int
  | 89 => .array .int
  | 90 => .array .int
  | _ => .array .int
abbrev wsX120 : List Cond := u_ws RX12 TX12 92
theorem nmX12 : ∀ a, a < 92 → ∀ b, b < 92 → a ≠ b → (TX12 a).2.1 ≠ (TX12 b).2.1 := by decide +kernel
theorem tyX12_ok : ∀ k, k < 92 → parseFieldDescriptor (TX12 k).2.2.1 = some (tyX12 k) := by decide +kernel
abbrev cX12_init : ByteArray := prog_14_method_1_code
def yX12_init : MethodName := ⟨RX12, "<init>", "()V"⟩
abbrev cX12_in : ByteArray := prog_14_method_2_code
def yX12_in : MethodName := ⟨RX12, "in", "(III)Z"⟩
abbrev cX12_isHour : ByteArray := prog_14_method_3_code
def yX12_isHour : MethodName := ⟨RX12, "isHour", "(I)Z"⟩
abbrev cX12_isDay : ByteArray := prog_14_method_4_code
def yX12_isDay : MethodName := ⟨RX12, "isDay", "(I)Z"⟩
abbrev cX12_isOver : ByteArray := prog_14_method_5_code
def yX12_isOver : MethodName := ⟨RX12, "isOver", "()Z"⟩
abbrev cX12_max : ByteArray := prog_14_method_6_code
def yX12_max : MethodName := ⟨RX12, "max", "(II)I"⟩
abbrev cX12_min : ByteArray := prog_14_method_7_code
def yX12_min : MethodName := ⟨RX12, "min", "(II)I"⟩
abbrev cX12_turn : ByteArray := prog_14_method_8_code
def yX12_turn : MethodName := ⟨RX12, "turn", "(II)I"⟩
abbrev cX12_seaAt : ByteArray := prog_14_method_9_code
def yX12_seaAt : MethodName := ⟨RX12, "seaAt", "(I)I"⟩
abbrev cX12_sea : ByteArray := prog_14_method_10_code
def yX12_sea : MethodName := ⟨RX12, "sea", "(I)I"⟩
abbrev cX12_wave : ByteArray := prog_14_method_11_code
def yX12_wave : MethodName := ⟨RX12, "wave", "(II)I"⟩
abbrev cX12_waveAt : ByteArray := prog_14_method_12_code
def yX12_waveAt : MethodName := ⟨RX12, "waveAt", "(II)I"⟩
abbrev cX12_waved : ByteArray := prog_14_method_13_code
def yX12_waved : MethodName := ⟨RX12, "waved", "(II)I"⟩
abbrev cX12_set : ByteArray := prog_14_method_14_code
def yX12_set : MethodName := ⟨RX12, "set", "(II)I"⟩
abbrev cX12_isPool : ByteArray := prog_14_method_15_code
def yX12_isPool : MethodName := ⟨RX12, "isPool", "(I)Z"⟩
abbrev cX12_pool : ByteArray := prog_14_method_16_code
def yX12_pool : MethodName := ⟨RX12, "pool", "(IIIIIII)I"⟩
abbrev cX12_dirt : ByteArray := prog_14_method_17_code
def yX12_dirt : MethodName := ⟨RX12, "dirt", "(III)Z"⟩
abbrev cX12_crack : ByteArray := prog_14_method_18_code
def yX12_crack : MethodName := ⟨RX12, "crack", "(III)I"⟩
abbrev cX12_mend : ByteArray := prog_14_method_19_code
def yX12_mend : MethodName := ⟨RX12, "mend", "(I)I"⟩
abbrev cX12_sluice : ByteArray := prog_14_method_20_code
def yX12_sluice : MethodName := ⟨RX12, "sluice", "(IZ)Z"⟩
abbrev cX12_pump : ByteArray := prog_14_method_21_code
def yX12_pump : MethodName := ⟨RX12, "pump", "(II)I"⟩
abbrev cX12_levelOf : ByteArray := prog_14_method_22_code
def yX12_levelOf : MethodName := ⟨RX12, "levelOf", "(II)I"⟩
abbrev cX12_clean : ByteArray := prog_14_method_23_code
def yX12_clean : MethodName := ⟨RX12, "clean", "(I)I"⟩
abbrev cX12_goesOut : ByteArray := prog_14_method_24_code
def yX12_goesOut : MethodName := ⟨RX12, "goesOut", "(I)V"⟩
abbrev cX12_comesIn : ByteArray := prog_14_method_25_code
def yX12_comesIn : MethodName := ⟨RX12, "comesIn", "(I)V"⟩
abbrev cX12_throughSluice : ByteArray := prog_14_method_26_code
def yX12_throughSluice : MethodName := ⟨RX12, "throughSluice", "(II)V"⟩
abbrev cX12_throughCrack : ByteArray := prog_14_method_27_code
def yX12_throughCrack : MethodName := ⟨RX12, "throughCrack", "(IIII)V"⟩
abbrev cX12_pumps : ByteArray := prog_14_method_28_code
def yX12_pumps : MethodName := ⟨RX12, "pumps", "(I)V"⟩
abbrev cX12_works : ByteArray := prog_14_method_29_code
def yX12_works : MethodName := ⟨RX12, "works", "(III)V"⟩
abbrev cX12_isStorm : ByteArray := prog_14_method_30_code
def yX12_isStorm : MethodName := ⟨RX12, "isStorm", "(II)Z"⟩
abbrev cX12_ageOf : ByteArray := prog_14_method_31_code
def yX12_ageOf : MethodName := ⟨RX12, "ageOf", "(IJ)I"⟩
abbrev cX12_takes : ByteArray := prog_14_method_32_code
def yX12_takes : MethodName := ⟨RX12, "takes", "(I)V"⟩
abbrev cX12_pass : ByteArray := prog_14_method_33_code
def yX12_pass : MethodName := ⟨RX12, "pass", "(I)I"⟩
abbrev cX12_about : ByteArray := prog_14_method_34_code
def yX12_about : MethodName := ⟨RX12, "about", "(II)I"⟩
abbrev cX12_lastTold : ByteArray := prog_14_method_35_code
def yX12_lastTold : MethodName := ⟨RX12, "lastTold", "()I"⟩
abbrev cX12_foretells : ByteArray := prog_14_method_36_code
def yX12_foretells : MethodName := ⟨RX12, "foretells", "(II)V"⟩
abbrev cX12_looks : ByteArray := prog_14_method_37_code
def yX12_looks : MethodName := ⟨RX12, "looks", "(II)V"⟩
abbrev cX12_hour : ByteArray := prog_14_method_38_code
def yX12_hour : MethodName := ⟨RX12, "hour", "(III)I"⟩
abbrev cX12_four : ByteArray := prog_14_method_39_code
def yX12_four : MethodName := ⟨RX12, "four", "(I)V"⟩
abbrev cX12_feed : ByteArray := prog_14_method_40_code
def yX12_feed : MethodName := ⟨RX12, "feed", "(IIIII)I"⟩
abbrev cX12_end : ByteArray := prog_14_method_41_code
def yX12_end : MethodName := ⟨RX12, "end", "(I)I"⟩
abbrev cX12_fails : ByteArray := prog_14_method_42_code
def yX12_fails : MethodName := ⟨RX12, "fails", "(II)Z"⟩
abbrev cX12_see : ByteArray := prog_14_method_43_code
def yX12_see : MethodName := ⟨RX12, "see", "()I"⟩
abbrev cX12_wordHere : ByteArray := prog_14_method_44_code
def yX12_wordHere : MethodName := ⟨RX12, "wordHere", "()I"⟩
abbrev cX12_writes : ByteArray := prog_14_method_45_code
def yX12_writes : MethodName := ⟨RX12, "writes", "(I)V"⟩
abbrev cX12_deep : ByteArray := prog_14_method_46_code
def yX12_deep : MethodName := ⟨RX12, "deep", "()I"⟩
abbrev cX12_compare : ByteArray := prog_14_method_47_code
def yX12_compare : MethodName := ⟨RX12, "compare", "(I)Z"⟩
abbrev cX12_begins : ByteArray := prog_14_method_48_code
def yX12_begins : MethodName := ⟨RX12, "begins", "(Z)Z"⟩
abbrev cX12_closesNots : ByteArray := prog_14_method_49_code
def yX12_closesNots : MethodName := ⟨RX12, "closesNots", "()V"⟩
abbrev cX12_closesDown : ByteArray := prog_14_method_50_code
def yX12_closesDown : MethodName := ⟨RX12, "closesDown", "(I)V"⟩
abbrev cX12_text : ByteArray := prog_14_method_51_code
def yX12_text : MethodName := ⟨RX12, "text", "()Z"⟩
abbrev cX12_rules : ByteArray := prog_14_method_52_code
def yX12_rules : MethodName := ⟨RX12, "rules", "()I"⟩
abbrev cX12_test : ByteArray := prog_14_method_53_code
def yX12_test : MethodName := ⟨RX12, "test", "(III)I"⟩
abbrev cX12_testAt : ByteArray := prog_14_method_54_code
def yX12_testAt : MethodName := ⟨RX12, "testAt", "(III)I"⟩
abbrev cX12_isSo : ByteArray := prog_14_method_55_code
def yX12_isSo : MethodName := ⟨RX12, "isSo", "(III)Z"⟩
abbrev cX12_isTrue : ByteArray := prog_14_method_56_code
def yX12_isTrue : MethodName := ⟨RX12, "isTrue", "(III)Z"⟩
abbrev cX12_rulesAt : ByteArray := prog_14_method_57_code
def yX12_rulesAt : MethodName := ⟨RX12, "rulesAt", "(I)I"⟩
abbrev cX12_closedAt : ByteArray := prog_14_method_58_code
def yX12_closedAt : MethodName := ⟨RX12, "closedAt", "(III)I"⟩
abbrev cX12_closed : ByteArray := prog_14_method_59_code
def yX12_closed : MethodName := ⟨RX12, "closed", "(III)I"⟩
abbrev cX12_openHours : ByteArray := prog_14_method_60_code
def yX12_openHours : MethodName := ⟨RX12, "openHours", "(III)I"⟩
abbrev cX12_open : ByteArray := prog_14_method_61_code
def yX12_open : MethodName := ⟨RX12, "open", "(III)I"⟩
abbrev cX12_free : ByteArray := prog_14_method_62_code
def yX12_free : MethodName := ⟨RX12, "free", "(IIZ)Z"⟩
abbrev cX12_isLow : ByteArray := prog_14_method_63_code
def yX12_isLow : MethodName := ⟨RX12, "isLow", "(II)Z"⟩
abbrev cX12_low : ByteArray := prog_14_method_64_code
def yX12_low : MethodName := ⟨RX12, "low", "(II)I"⟩
abbrev cX12_mayBe : ByteArray := prog_14_method_65_code
def yX12_mayBe : MethodName := ⟨RX12, "mayBe", "(III)Z"⟩
abbrev cX12_costOf : ByteArray := prog_14_method_66_code
def yX12_costOf : MethodName := ⟨RX12, "costOf", "(II)I"⟩
abbrev cX12_plan : ByteArray := prog_14_method_67_code
def yX12_plan : MethodName := ⟨RX12, "plan", "(IIIII)I"⟩
abbrev cX12_planned : ByteArray := prog_14_method_68_code
def yX12_planned : MethodName := ⟨RX12, "planned", "(I)I"⟩
abbrev cX12_race : ByteArray := prog_14_method_69_code
def yX12_race : MethodName := ⟨RX12, "race", "(IIIIIII)I"⟩
abbrev cX12_night : ByteArray := prog_14_method_70_code
def yX12_night : MethodName := ⟨RX12, "night", "(IIII)I"⟩
abbrev cX12_suspect : ByteArray := prog_14_method_71_code
def yX12_suspect : MethodName := ⟨RX12, "suspect", "(III)I"⟩
abbrev cX12_taken : ByteArray := prog_14_method_72_code
def yX12_taken : MethodName := ⟨RX12, "taken", "(III)I"⟩
abbrev cX12_depthBy : ByteArray := prog_14_method_73_code
def yX12_depthBy : MethodName := ⟨RX12, "depthBy", "(IIIII)I"⟩
abbrev cX12_explains : ByteArray := prog_14_method_74_code
def yX12_explains : MethodName := ⟨RX12, "explains", "(III)Z"⟩
abbrev cX12_notes : ByteArray := prog_14_method_75_code
def yX12_notes : MethodName := ⟨RX12, "notes", "(III)V"⟩
abbrev cX12_cause : ByteArray := prog_14_method_76_code
def yX12_cause : MethodName := ⟨RX12, "cause", "(I)I"⟩
abbrev cX12_causes : ByteArray := prog_14_method_77_code
def yX12_causes : MethodName := ⟨RX12, "causes", "(II)I"⟩
abbrev cX12_look : ByteArray := prog_14_method_78_code
def yX12_look : MethodName := ⟨RX12, "look", "()I"⟩
abbrev cX12_lease : ByteArray := prog_14_method_79_code
def yX12_lease : MethodName := ⟨RX12, "lease", "(IIII)I"⟩
abbrev cX12_dueAt : ByteArray := prog_14_method_80_code
def yX12_dueAt : MethodName := ⟨RX12, "dueAt", "(II)I"⟩
abbrev cX12_due : ByteArray := prog_14_method_81_code
def yX12_due : MethodName := ⟨RX12, "due", "(II)I"⟩
abbrev cX12_pay : ByteArray := prog_14_method_82_code
def yX12_pay : MethodName := ⟨RX12, "pay", "(I)I"⟩
abbrev cX12_count : ByteArray := prog_14_method_83_code
def yX12_count : MethodName := ⟨RX12, "count", "(I)I"⟩
def RJ7 : String := "java/util/Arrays"
abbrev cJ7_fill_53178 : ByteArray := prog_21_method_103_code
def yJ7_fill_53178 : MethodName := ⟨RJ7, "fill", "([II)V"⟩
def RL : String := "PoolCoastLaw"
abbrev cL_law : ByteArray := code
def yL_law : MethodName := ⟨RL, "law", "([I)Z"⟩
abbrev vwCl : List vw_C := [(RX0, TX0, 13), (RX1, TX1, 11), (RX2, TX2, 5), (RX3, TX3, 10), (RX4, TX4, 12), (RX5, TX5, 9), (RX6, TX6, 3), (RX7, TX7, 5), (RX8, TX8, 3), (RX9, TX9, 4), (RX10, TX10, 7), (RX11, TX11, 16), (RX12, TX12, 92)]
end
section
/-! own rows: the words that hold at every start, one list for all methods -/
def Wd : List Cond := lw_tbl.filter goodWord
theorem wdm {w : Cond} (i : Nat) (h : lw_tbl[i]? = some w) (g : goodWord w = true) : w ∈ Wd := List.mem_filter.mpr ⟨List.mem_of_getElem? h, g⟩
theorem wdS {ws : List Cond} (ps : List Nat) (hp : ws = ps.filterMap (fun i => lw_tbl[i]?)) (h : ws.all goodWord = true) : ∀ w ∈ ws, w ∈ Wd := by
  intro w hw
  have h1 := List.all_eq_true.mp h w hw
  rw [hp] at hw
  obtain ⟨i, -, hi⟩ := List.mem_filterMap.mp hw
  exact wdm i hi h1
theorem gWd : GoodIn Wd Wd := fun w h => ⟨h, good_of_word (List.mem_filter.mp h).2⟩
theorem gWc {y : MethodName} {b : ByteArray} {n : Nat} {r : Option FieldType} (h : Cond.code y b n r ∈ Wd) : GoodIn Wd (Cond.code y b n r :: Wd) := fun w hw => (List.mem_cons.mp hw).elim (fun e => e ▸ gWd _ h) (gWd w)
theorem gWa {a b : List Cond} (ha : ∀ w ∈ a, w ∈ Wd) (hb : GoodIn Wd b) : GoodIn Wd (a ++ b) := fun w hw => (List.mem_append.mp hw).elim (fun h => gWd w (ha w h)) (hb w)
section KW
variable {R : Room} {s : State} {args : Array Value} {own C : String} {index maxL mc ms : Nat} {y : MethodName} {bytes : ByteArray} {ret : Option FieldType} {rm : Room}
theorem kw_V (n : Nat) (ht : ∀ w ∈ Wd, w.before args s = true) (h1 : Cond.methodLink own index y ∈ Wd) (h2 : Cond.instanceMethod y ∈ Wd) (h3 : Cond.selects C y y ∈ Wd) (h4 : Cond.initialized C ∈ Wd) (h5 : Cond.code y bytes maxL ret ∈ Wd) (hrc : rm.cells = mc) (hrs : rm.slots = ms)
    (hd : y.cls = C ∧ y.cls ≠ "java/lang/invoke/MethodHandle" ∧ y.cls ≠ "java/lang/invoke/VarHandle" ∧ (parseMethodDescriptor y.desc).map (fun d => d.parameters.length) = some n) (hR : rm.frames + 1 ≤ R.frames ∧ 8 + (maxL + 11) + rm.locals ≤ R.locals) :
    CallW R s args own C index y bytes maxL ret (Cond.code y bytes maxL ret :: Wd) rm mc ms n :=
  cwV n ht (gWa (List.forall_mem_cons.mpr ⟨h1, List.forall_mem_cons.mpr ⟨h2, List.forall_mem_cons.mpr ⟨h3, List.forall_mem_cons.mpr ⟨h4, fun _ h => absurd h List.not_mem_nil⟩⟩⟩⟩) (gWc h5)) rfl hrc hrs hd hR
theorem kw_S (n : Nat) (ht : ∀ w ∈ Wd, w.before args s = true) (h1 : Cond.methodLink own index y ∈ Wd) (h2 : Cond.static y ∈ Wd) (h4 : Cond.initialized y.cls ∈ Wd) (h5 : Cond.code y bytes maxL ret ∈ Wd) (hrc : rm.cells = mc) (hrs : rm.slots = ms)
    (hd : y.cls ≠ "java/lang/invoke/MethodHandle" ∧ y.cls ≠ "java/lang/invoke/VarHandle" ∧ (parseMethodDescriptor y.desc).map (fun d => d.parameters.length) = some n) (hR : rm.frames + 1 ≤ R.frames ∧ 8 + (maxL + 11) + rm.locals ≤ R.locals) :
    CallB R s args own index y bytes maxL ret (Cond.code y bytes maxL ret :: Wd) rm mc ms n ∧ (Cond.static y).before args s = true :=
  va_cwS n ht (gWa (List.forall_mem_cons.mpr ⟨h1, List.forall_mem_cons.mpr ⟨h2, List.forall_mem_cons.mpr ⟨h4, fun _ h => absurd h List.not_mem_nil⟩⟩⟩) (gWc h5)) rfl hrc hrs hd hR
theorem kw_I (n : Nat) (ht : ∀ w ∈ Wd, w.before args s = true) (h1 : Cond.methodLink own index y ∈ Wd) (h2 : Cond.instanceMethod y ∈ Wd) (h4 : Cond.initialized y.cls ∈ Wd) (h5 : Cond.code y bytes maxL none ∈ Wd) (hrc : rm.cells = mc) (hrs : rm.slots = ms) (hy1 : y.name = "<init>")
    (hd : y.cls ≠ "java/lang/invoke/MethodHandle" ∧ y.cls ≠ "java/lang/invoke/VarHandle" ∧ (parseMethodDescriptor y.desc).map (fun d => d.parameters.length) = some n) (hR : rm.frames + 1 ≤ R.frames ∧ 8 + (maxL + 11) + rm.locals ≤ R.locals) :
    CallB R s args own index y bytes maxL none (Cond.code y bytes maxL none :: Wd) rm mc ms n ∧ y.name = "<init>" ∧ (Cond.instanceMethod y).before args s = true :=
  cwI n ht (gWc h5) rfl hrc hrs (ht _ h4) (ht _ h1) (ht _ h2) hy1 hd hR
theorem kw_SN {host : String} (n : Nat) (ht : ∀ w ∈ Wd, w.before args s = true) (h1 : va_Nw (.methodLinkNest own index y host) s) (h2 : Cond.static y ∈ Wd) (h4 : Cond.initialized y.cls ∈ Wd) (h5 : Cond.code y bytes maxL ret ∈ Wd) (hrc : rm.cells = mc) (hrs : rm.slots = ms)
    (hd : y.cls ≠ "java/lang/invoke/MethodHandle" ∧ y.cls ≠ "java/lang/invoke/VarHandle" ∧ (parseMethodDescriptor y.desc).map (fun d => d.parameters.length) = some n) (hR : rm.frames + 1 ≤ R.frames ∧ 8 + (maxL + 11) + rm.locals ≤ R.locals) :
    va_CN R s args own index y host bytes maxL ret (Cond.code y bytes maxL ret :: Wd) rm mc ms n ∧ (Cond.static y).before args s = true ∧ True :=
  ⟨va_cnB n ht (gWc h5) rfl hrc hrs h1 (ht _ h4) hd hR, ht _ h2, trivial⟩
theorem kw_IN {host : String} (n : Nat) (ht : ∀ w ∈ Wd, w.before args s = true) (h1 : va_Nw (.methodLinkNest own index y host) s) (h2 : Cond.instanceMethod y ∈ Wd) (h4 : Cond.initialized y.cls ∈ Wd) (h5 : Cond.code y bytes maxL none ∈ Wd) (hrc : rm.cells = mc) (hrs : rm.slots = ms) (hy1 : y.name = "<init>")
    (hd : y.cls ≠ "java/lang/invoke/MethodHandle" ∧ y.cls ≠ "java/lang/invoke/VarHandle" ∧ (parseMethodDescriptor y.desc).map (fun d => d.parameters.length) = some n) (hR : rm.frames + 1 ≤ R.frames ∧ 8 + (maxL + 11) + rm.locals ≤ R.locals) :
    va_CN R s args own index y host bytes maxL none (Cond.code y bytes maxL none :: Wd) rm mc ms n ∧ y.name = "<init>" ∧ (Cond.instanceMethod y).before args s = true :=
  ⟨va_cnB n ht (gWc h5) rfl hrc hrs h1 (ht _ h4) hd hR, hy1, ht _ h2⟩
end KW
/-! own rows: the nest links, worlds with fixed array classes, entry, calls and ends in one step -/
def nwL : List (String × Nat × MethodName) := [(RX11, 11, yX8_init), (RX11, 18, yX10_init), (RX11, 31, yX5_init), (RX11, 44, yX7_init), (RX8, 22, yX11_within), (RX8, 26, yX11_at), (RX8, 30, yX11_put), (RX10, 34, yX11_at), (RX10, 38, yX11_put), (RX4, 11, yX9_init), (RX5, 22, yX11_put)]
def NW (U : State) : Prop := ∀ q ∈ nwL, va_Nw (.methodLinkNest q.1 q.2.1 q.2.2 "PoolCoast") U
theorem NW.warm {s U : State} (hW : s.WarmedH U.vm) (h : NW s) : NW U := fun q hq => va_Nw.warmM hW (h q hq)
theorem NW.same {u U : State} (e : u.vm = U.vm) (h : NW u) : NW U := fun q hq => va_Nw.same rfl e (h q hq)
def aoL : List String := [RX4, RX6, RX2]
abbrev TY (c : Nat → ClassId) : List (ClassId × FieldType) := [(c 0, .int), (c 1, .byte), (c 2, .boolean), (c 3, .long), (c 4, .object RX4), (c 5, .object RX6), (c 6, .object RX2)]
def WB (D : va_G) (c : Nat → ClassId) (ws : va_W) (sz : Nat) (U : State) : Prop := U.heap.size = sz ∧ va_P D vwCl ws U.heap ∧ va_K D vwCl (TY c) U ∧ va_D (fun _ => True) ws ∧ NW U ∧ ∀ C ∈ aoL, va_AO C U
def WE (D : va_G) (c : Nat → ClassId) (A : Nat → Prop) (ws : va_W) (t : State) : Prop := va_P D vwCl ws t.heap ∧ va_K D vwCl (TY c) t ∧ va_D A ws
theorem WB.blind {D : va_G} {c : Nat → ClassId} {As : List Value} {ws : va_W} {sz : Nat} : FrameBlind (va_Pc As (WB D c ws sz)) := fun a U g mk h => by
  obtain ⟨h0, h1, h2, h3, h4, h5, h6⟩ := h
  exact ⟨h0, h1, h2, va_K.moved (u := U) (U := U.calling g mk a) (Vm.Alike.refl U.vm) h3, h4, NW.same rfl h5, fun C hC => va_AO.moved (u := U) (U := U.calling g mk a) (Vm.Alike.refl U.vm) (h6 C hC)⟩
theorem pre_S {s : State} {H : Heap} {D : va_G} {c : Nat → ClassId} {A : Nat → Prop} {wc : va_W} {As : List Value} (hP : va_P D vwCl wc H) (hK : va_K D vwCl (TY c) s) (hD : va_D A wc) (hN : NW s) (hO : ∀ C ∈ aoL, va_AO C s) : PreS s H (va_Pc As (WB D c wc H.size)) As := ⟨WB.blind, fun U hU hW => ⟨rfl, by rw [hU], by rw [hU]; exact hP, va_K.moved hW.alike hK, hD.weaken (fun _ _ _ _ => trivial), hN.warm hW, fun C hC => va_AO.moved hW.alike (hO C hC)⟩⟩
theorem pre_V {s : State} {H : Heap} {D : va_G} {c : Nat → ClassId} {A : Nat → Prop} {wc : va_W} {As : List Value} {b q0 ci : Nat} {q : vw_C} {fs : List Value} (hP : va_P D vwCl wc H) (hK : va_K D vwCl (TY c) s) (hD : va_D A wc) (hN : NW s) (hO : ∀ C ∈ aoL, va_AO C s) (hc : vwCl[ci]? = some q) (he : wc[q0]? = some (b, .inr (ci, fs))) : PreV s H q.1 b (va_Pc (.ref b :: As) (WB D c wc H.size)) As := ⟨WB.blind, va_recv hK hP hc he, fun U hU hW => ⟨rfl, by rw [hU], by rw [hU]; exact hP, va_K.moved hW.alike hK, hD.weaken (fun _ _ _ _ => trivial), hN.warm hW, fun C hC => va_AO.moved hW.alike (hO C hC)⟩⟩
def QI {S : Type} (D : va_G) (c : Nat → ClassId) (post : Int32 → S → Prop) (w1 : S → va_W) (A : Nat → Prop) : Array Value → State → Outcome → State → Prop := va_Qi post (fun u t => WE D c A (w1 u) t) A
def QV {S : Type} (D : va_G) (c : Nat → ClassId) (post : S → Prop) (w1 : S → va_W) (A : Nat → Prop) : Array Value → State → Outcome → State → Prop := va_Qv post (fun u t => WE D c A (w1 u) t) A
def QN {S : Type} (D : va_G) (c : Nat → ClassId) (w1 : S → va_W) (A : Nat → Prop) : Array Value → State → Outcome → State → Prop := va_Qq (fun r _ => r = none) (fun u t => WE D c A (w1 u) t) A
theorem kz_met {l : Launch} {y : MethodName} {D : va_G} {c : Nat → ClassId} {wc : va_W} {sz : Nat} {As : List Value} {cc : ByteArray} {maxL : Nat} {ret : Option FieldType} {rm : Room} {Qc : (Nat → Prop) → Array Value → State → Outcome → State → Prop} {mc ms : Nat} (hy : plainName y.cls = true) (hlen : (lg_sl As).length ≤ maxL)
    (body : ∀ (p : Program) (e : Env) (s : State) (m : MethodId) (below : List Frame) (meth : Method) (cd : Code) (A : Nat → Prop) (ls : Array Slot) (H : Heap), p.tables.exec = Jvm.exec → cd.code = cc → meth.sig.returnType = ret → cd.maxLocals = maxL → (∀ w ∈ Wd, w.before As.toArray s = true) → s.vm.findClass y.cls = some m.cls → meth.locks = false → meth.name = y.name → NW s → (∀ C ∈ aoL, va_AO C s) → va_K D vwCl (TY c) s → va_P D vwCl wc H → va_D A wc → va_S A s.heap H [] → (∀ q : Nat, s.heap.size ≤ q → A q) → lv_has ls maxL (lv_args 0 As) →
      W p l e (headSpec (Cond.code y cc maxL ret :: Wd) rm).room s m As.toArray below meth cd H [] 0 0 (MQ below (Qc A) As.toArray s mc ms A) (F0 m 0 ls [])) : Met l y (Cond.code y cc maxL ret :: Wd) rm (va_Pc As (WB D c wc sz)) (Qc (va_A wc sz)) mc ms (va_A wc sz) := by
  refine Met.ofW (cc := cc) (maxL := maxL) (ret := ret) hy rfl ?_
  intro p e s m args below meth cd s₁ B hml hv
  obtain ⟨rfl, hsz, hP, hK, hD0, hN, hO⟩ := hv
  subst hsz
  have hl := lv_entry As (n := maxL) hlen
  rw [lg_entry_eq]
  exact body p e s m below meth cd _ _ s.heap B.exec B.bytes B.returns hml (fun w hw => atoms_spec (ws := Cond.code y cc maxL ret :: Wd) B.pre w (List.mem_cons_of_mem _ hw)) (findClass_of_methodNamed B.named) B.notSynchronized (name_of_methodNamed B.named B.method).1 hN hO hK hP hD0.self va_S.rf (fun q h => Or.inr h) hl
theorem fm_of_map {α β : Type} {f : α → Option β} {is : List α} {l : List β} (h : is.map f = l.map some) : is.filterMap f = l := by
  have h1 : (is.map f).filterMap id = (l.map some).filterMap id := by rw [h]
  simpa [List.filterMap_map] using h1
section KZ
variable {p : Program} {l : Launch} {e : Env} {R : Room} {s : State} {m : MethodId} {args : Array Value} {below : List Frame} {meth : Method} {cd : Code} {H : Heap} {locs : List Loc} {cells slots : Nat} {Q : State → Prop} {cc : ByteArray} {pc : Nat} {ls : Array Slot} {D : va_G} {c : Nat → ClassId} {A : Nat → Prop} {ws wc wr : va_W} {rest st0 : List Value} {a : Array Value} {H0 : Heap} {mc ms : Nat}
theorem rt_i {S : Type} {post : Int32 → S → Prop} {w1 : S → va_W} {v : Int32} {ty : FieldType} (hx : p.tables.exec = Jvm.exec) (hb : cd.code = cc) (hr : meth.sig.returnType = some ty) (hlocks : meth.locks = false) (hK : va_K D vwCl (TY c) s) (hP : va_P D vwCl ws H) (hD : va_D A ws) (hS : va_S A s.heap H locs) (hn : narrow ty (.int v) = .int v) (hdg : decode cc pc = .ok (.ireturn, 1)) (u : S) (is : List Nat) (hnd : va_nd is = true) (hs : is.map (fun i => ws[i]?) = (w1 u).map some) (hpost : post v u) : W p l e R s m args below meth cd H locs cells slots (MQ below (QI D c post w1 A) args s cells slots A) (F0 m pc ls [.int v]) :=
  W.zret hx hb hr hn (fun t ht hW => ⟨⟨v, u, rfl, hpost, by rw [ht]; exact hP.sub is (fm_of_map hs), va_K.moved hW.alike hK, hD.sub is hnd hs⟩, hS.F ht⟩) hS.2.2 hdg hlocks
theorem rt_v {S : Type} {post : S → Prop} {w1 : S → va_W} (hx : p.tables.exec = Jvm.exec) (hb : cd.code = cc) (hr : meth.sig.returnType = none) (hlocks : meth.locks = false) (hK : va_K D vwCl (TY c) s) (hP : va_P D vwCl ws H) (hD : va_D A ws) (hS : va_S A s.heap H locs) (hdg : decode cc pc = .ok (.return_, 1)) (u : S) (is : List Nat) (hnd : va_nd is = true) (hs : is.map (fun i => ws[i]?) = (w1 u).map some) (hpost : post u) : W p l e R s m args below meth cd H locs cells slots (MQ below (QV D c post w1 A) args s cells slots A) (F0 m pc ls []) :=
  W.vret hx hb hr (fun t ht hW => ⟨⟨u, rfl, hpost, by rw [ht]; exact hP.sub is (fm_of_map hs), va_K.moved hW.alike hK, hD.sub is hnd hs⟩, hS.F ht⟩) hS.2.2 hdg hlocks
theorem rt_n {S : Type} {w1 : S → va_W} {rt : FieldType} (hx : p.tables.exec = Jvm.exec) (hb : cd.code = cc) (hr : meth.sig.returnType = some rt) (hrt : (∃ n, rt = .object n) ∨ ∃ t, rt = .array t) (hlocks : meth.locks = false) (hK : va_K D vwCl (TY c) s) (hP : va_P D vwCl ws H) (hD : va_D A ws) (hS : va_S A s.heap H locs) (hdg : decode cc pc = .ok (.areturn, 1)) (u : S) (is : List Nat) (hnd : va_nd is = true) (hs : is.map (fun i => ws[i]?) = (w1 u).map some) : W p l e R s m args below meth cd H locs cells slots (MQ below (QN D c w1 A) args s cells slots A) (F0 m pc ls [.null]) :=
  W.aret hx hb hr hrt (Or.inl rfl) (fun t ht hW => ⟨⟨none, u, rfl, rfl, by rw [ht]; exact hP.sub is (fm_of_map hs), va_K.moved hW.alike hK, hD.sub is hnd hs⟩, hS.F ht⟩) hS.2.2 hdg hlocks
theorem cl_i {S : Type} {post : Int32 → S → Prop} {w1 : S → va_W} (hr : va_Run p l e R s m args below meth cd H locs cells slots mc ms (F0 m pc ls st0) rest (QI D c post w1 (va_A wc H.size) a) (va_A wc H.size)) (hP : va_P D vwCl ws H) (hD : va_D A ws) (hS : va_S A H0 H locs) (hA : ∀ q, H0.size ≤ q → A q) (isC isR : List Nat) (hC : isC.map (fun i => ws[i]?) = wc.map some) (hR : isR.map (fun i => ws[i]?) = wr.map some) (hn : va_nd isR = true) (hdis : ∀ i ∈ isR, i ∉ isC)
    (kk : ∀ (r : Int32) (u : S) (H1 : Heap) (locs1 : List Loc), post r u → va_P D vwCl (wr ++ w1 u) H1 → va_D A (wr ++ w1 u) → va_S A H0 H1 locs1 → W p l e R s m args below meth cd H1 locs1 (cells + mc) (slots + ms) Q (F0 m (pc + 3) ls (.int r :: rest))) : W p l e R s m args below meth cd H locs cells slots Q (F0 m pc ls st0) := by
  have hF := va_free (wc := wc) hD hS hA isC hC
  refine va_calli hr hS (fun q _ h => hF q h) hF (fun r u t H1 locs1 ht hvm hw hB hz hk hS => ?_)
  obtain ⟨hP1, hK1, hD1⟩ := hB
  rw [ht] at hP1
  obtain ⟨hP, hD⟩ := va_join hP hD isC isR hC hR hn hdis hk hF hP1 hD1
  exact kk r u H1 locs1 hw hP hD hS
theorem cl_v {S : Type} {post : S → Prop} {w1 : S → va_W} (hr : va_Run p l e R s m args below meth cd H locs cells slots mc ms (F0 m pc ls st0) rest (QV D c post w1 (va_A wc H.size) a) (va_A wc H.size)) (hP : va_P D vwCl ws H) (hD : va_D A ws) (hS : va_S A H0 H locs) (hA : ∀ q, H0.size ≤ q → A q) (isC isR : List Nat) (hC : isC.map (fun i => ws[i]?) = wc.map some) (hR : isR.map (fun i => ws[i]?) = wr.map some) (hn : va_nd isR = true) (hdis : ∀ i ∈ isR, i ∉ isC)
    (kk : ∀ (u : S) (H1 : Heap) (locs1 : List Loc), post u → va_P D vwCl (wr ++ w1 u) H1 → va_D A (wr ++ w1 u) → va_S A H0 H1 locs1 → W p l e R s m args below meth cd H1 locs1 (cells + mc) (slots + ms) Q (F0 m (pc + 3) ls rest)) : W p l e R s m args below meth cd H locs cells slots Q (F0 m pc ls st0) := by
  have hF := va_free (wc := wc) hD hS hA isC hC
  refine va_callv hr hS (fun q _ h => hF q h) hF (fun u t H1 locs1 ht hvm hw hB hz hk hS => ?_)
  obtain ⟨hP1, hK1, hD1⟩ := hB
  rw [ht] at hP1
  obtain ⟨hP, hD⟩ := va_join hP hD isC isR hC hR hn hdis hk hF hP1 hD1
  exact kk u H1 locs1 hw hP hD hS
theorem cl_n {S : Type} {w1 : S → va_W} (hr : va_Run p l e R s m args below meth cd H locs cells slots mc ms (F0 m pc ls st0) rest (QN D c w1 (va_A wc H.size) a) (va_A wc H.size)) (hP : va_P D vwCl ws H) (hD : va_D A ws) (hS : va_S A H0 H locs) (hA : ∀ q, H0.size ≤ q → A q) (isC isR : List Nat) (hC : isC.map (fun i => ws[i]?) = wc.map some) (hR : isR.map (fun i => ws[i]?) = wr.map some) (hn : va_nd isR = true) (hdis : ∀ i ∈ isR, i ∉ isC)
    (kk : ∀ (u : S) (H1 : Heap) (locs1 : List Loc), va_P D vwCl (wr ++ w1 u) H1 → va_D A (wr ++ w1 u) → va_S A H0 H1 locs1 → W p l e R s m args below meth cd H1 locs1 (cells + mc) (slots + ms) Q (F0 m (pc + 3) ls (.null :: rest))) : W p l e R s m args below meth cd H locs cells slots Q (F0 m pc ls st0) := by
  have hF := va_free (wc := wc) hD hS hA isC hC
  refine va_callq hr hS (fun q _ h => hF q h) hF (fun r u t H1 locs1 ht hvm hw hB hz hk hS => ?_)
  obtain ⟨hP1, hK1, hD1⟩ := hB
  rw [ht] at hP1
  obtain ⟨hP, hD⟩ := va_join hP hD isC isR hC hR hn hdis hk hF hP1 hD1
  subst hw
  exact kk u H1 locs1 hP hD hS
theorem ty_uniq {cl : List vw_C} {tys : List (ClassId × FieldType)} (hK : va_K D cl tys s) {i j : Nat} {x y : ClassId} {ty : FieldType} (h1 : tys[i]? = some (x, ty)) (h2 : tys[j]? = some (y, ty)) : x = y := by
  have e1 := (hK.2 i _ h1).2
  have e2 := (hK.2 j _ h2).2
  have f : ∀ {z : ClassId}, va_RA s z ty → s.vm.findClass ("[" ++ ty.toString) = some z := by
    intro z hz
    cases ty with
    | object C => obtain ⟨-, -, -, -, -, h⟩ := hz; exact h
    | _ => exact hz
  exact Option.some.inj ((f e1).symm.trans (f e2))
theorem kz_newa (hx : p.tables.exec = Jvm.exec) (hb : cd.code = cc) {atype : ArrayType} {ty : FieldType} (t0 : Nat) {cA : ClassId} (ht : (TY c)[t0]? = some (cA, ty)) (harr : (Cond.arrayClass (newarray.typeOf atype)).before args s = true) (hty : newarray.typeOf atype = ty) (hK : va_K D vwCl (TY c) s) (hP : va_P D vwCl ws H) (hD : va_D A ws) (hS : va_S A H0 H locs) (hA : ∀ q, H0.size ≤ q → A q)
    {n : Int32} {N' : Nat} {a0 : vp_A} (ha : ∀ cA : ClassId, vp_cell cA a0 = arrV cA N' (fun _ => defaultValue ty)) (hn : ¬ n < 0) (hN : n.toNatClampNeg = N') (hbytes : N' * componentBytes ty ≤ 536870912) (hcells : cells + 1 ≤ R.cells) (hslots : slots + N' ≤ R.slots) (hdg : decode cc pc = .ok (.newarray atype, 2))
    (kk : ∀ (q : Nat) (H1 : Heap), va_P D vwCl (ws ++ [(q, .inl (cA, a0))]) H1 → va_D A (ws ++ [(q, .inl (cA, a0))]) → va_S A H0 H1 locs → W p l e R s m args below meth cd H1 locs (cells + 1) (slots + N') Q (F0 m (pc + 2) ls (.ref q :: rest))) : W p l e R s m args below meth cd H locs cells slots Q (F0 m pc ls (.int n :: rest)) :=
  va_newa hx hb harr hty hK hP hD hS hA ha hn hN hbytes hcells hslots hdg (fun q cB H1 hK1 hP1 hD1 hS1 => by
    have e : cB = cA := ty_uniq (ty := ty) hK1 (i := (TY c).length) (j := t0) (List.getElem?_concat_length ..) (by rw [List.getElem?_append_left (List.getElem?_eq_some_iff.mp ht).1]; exact ht)
    subst e
    exact kk q H1 hP1 hD1 hS1)
theorem kz_newq (hx : p.tables.exec = Jvm.exec) (hb : cd.code = cc) {own C : String} {index : Nat} (t0 : Nat) {cA : ClassId} (ht : (TY c)[t0]? = some (cA, .object C)) (hown : s.vm.findClass own = some m.cls) (hclink : (Cond.classLink own index C).before args s = true) (hover : va_AO C s) (hK : va_K D vwCl (TY c) s) (hP : va_P D vwCl ws H) (hD : va_D A ws) (hS : va_S A H0 H locs) (hA : ∀ q, H0.size ≤ q → A q)
    {n : Int32} {N' : Nat} (hn : ¬ n < 0) (hN : n.toNatClampNeg = N') (hbytes : N' * 4 ≤ 536870912) (hcells : cells + 1 ≤ R.cells) (hslots : slots + N' ≤ R.slots) (hdg : decode cc pc = .ok (.anewarray index, 3))
    (kk : ∀ (q : Nat) (H1 : Heap), va_P D vwCl (ws ++ [(q, .inl (cA, N', .inr (.inr (.inr (.inr (fun _ => none))))))]) H1 → va_D A (ws ++ [(q, .inl (cA, N', .inr (.inr (.inr (.inr (fun _ => none))))))]) → va_S A H0 H1 locs → W p l e R s m args below meth cd H1 locs (cells + 1) (slots + N') Q (F0 m (pc + 3) ls (.ref q :: rest))) : W p l e R s m args below meth cd H locs cells slots Q (F0 m pc ls (.int n :: rest)) :=
  va_newq hx hb hown hclink hover hK hP hD hS hA hn hN hbytes hcells hslots hdg (fun q cB H1 hK1 hP1 hD1 hS1 => by
    have e : cB = cA := ty_uniq (ty := .object C) hK1 (i := (TY c).length) (j := t0) (List.getElem?_concat_length ..) (by rw [List.getElem?_append_left (List.getElem?_eq_some_iff.mp ht).1]; exact ht)
    subst e
    exact kk q H1 hP1 hD1 hS1)
end KZ
/-! numbers -/
def inB (v lo hi : Int32) : Int32 := if lo ≤ v ∧ v ≤ hi then 1 else 0
theorem inB_c {v lo hi r : Int32} (h : r = inB v lo hi) : ((lo ≤ v ∧ v ≤ hi) ∧ r = 1) ∨ (¬ (lo ≤ v ∧ v ≤ hi) ∧ r = 0) := by
  unfold inB at h
  by_cases q : lo ≤ v ∧ v ≤ hi
  · exact Or.inl ⟨q, by rw [h, if_pos q]⟩
  · exact Or.inr ⟨q, by rw [h, if_neg q]⟩
theorem inB_no {v lo hi : Int32} (h : hi < lo) : ¬ (lo ≤ v ∧ v ≤ hi) := by
  intro q
  have h1 := Int32.le_iff_toInt_le.mp q.1
  have h2 := Int32.le_iff_toInt_le.mp q.2
  have h3 := Int32.lt_iff_toInt_lt.mp h
  omega
theorem i32_of {n : Nat} (h : n < 2 ^ 31) : (Int32.ofNat n).toInt = (n : Int) := nI_toInt h
theorem vin_2 {i : Int32} {n : Nat} (hn : n < 2 ^ 31) (h1 : ¬ i < 0) (h2 : ¬ Int32.ofNat n ≤ i) : vp_in i n := by
  refine vp_in_iff.mpr ⟨?_, ?_⟩
  · have h := mt Int32.lt_iff_toInt_lt.mpr h1
    have e : (0 : Int32).toInt = 0 := rfl
    omega
  · have h := mt Int32.le_iff_toInt_le.mpr h2
    rw [i32_of hn] at h
    omega
theorem vin_le {i hi : Int32} {n : Nat} (h : 0 ≤ i ∧ i ≤ hi) (hn : hi.toInt < n) : vp_in i n := by
  refine vp_in_iff.mpr ⟨?_, ?_⟩
  · exact Int32.le_iff_toInt_le.mp h.1
  · have := Int32.le_iff_toInt_le.mp h.2
    omega
theorem i32_sub {a b : Int32} (h1 : -1000000000 ≤ a.toInt) (h2 : a.toInt ≤ 1000000000) (h3 : -1000000000 ≤ b.toInt) (h4 : b.toInt ≤ 1000000000) : (a - b).toInt = a.toInt - b.toInt := by
  rw [Int32.toInt_sub]
  exact Int.bmod_eq_of_le (by omega) (by omega)
theorem i32_add {a b : Int32} (h1 : -1000000000 ≤ a.toInt) (h2 : a.toInt ≤ 1000000000) (h3 : -1000000000 ≤ b.toInt) (h4 : b.toInt ≤ 1000000000) : (a + b).toInt = a.toInt + b.toInt := by
  rw [Int32.toInt_add]
  exact Int.bmod_eq_of_le (by omega) (by omega)
def mk (l : List Nat) : Nat → Nat := fun k => l.getD k 0
end
section
/-! the words, by their places -/
theorem wd_12 : (Cond.selects RX5 yX5_skipBlanks yX5_skipBlanks : Cond) ∈ Wd := wdm 12 (by decide +kernel) (by decide +kernel)
theorem wd_39 : (Cond.selects RX11 yX11_leaseAt yX11_leaseAt : Cond) ∈ Wd := wdm 39 (by decide +kernel) (by decide +kernel)
theorem wd_83 : (Cond.initialized RX11 : Cond) ∈ Wd := wdm 83 (by decide +kernel) (by decide +kernel)
theorem wd_84 : (Cond.initialized RX8 : Cond) ∈ Wd := wdm 84 (by decide +kernel) (by decide +kernel)
theorem wd_85 : (Cond.initialized RX10 : Cond) ∈ Wd := wdm 85 (by decide +kernel) (by decide +kernel)
theorem wd_86 : (Cond.initialized RX5 : Cond) ∈ Wd := wdm 86 (by decide +kernel) (by decide +kernel)
theorem wd_87 : (Cond.initialized RX7 : Cond) ∈ Wd := wdm 87 (by decide +kernel) (by decide +kernel)
theorem wd_88 : (Cond.initialized RX3 : Cond) ∈ Wd := wdm 88 (by decide +kernel) (by decide +kernel)
theorem wd_89 : (Cond.initialized "java/util/Arrays" : Cond) ∈ Wd := wdm 89 (by decide +kernel) (by decide +kernel)
theorem wd_90 : (Cond.initialized RX12 : Cond) ∈ Wd := wdm 90 (by decide +kernel) (by decide +kernel)
theorem wd_93 : (Cond.initialized RX9 : Cond) ∈ Wd := wdm 93 (by decide +kernel) (by decide +kernel)
theorem wd_94 : (Cond.initialized RX1 : Cond) ∈ Wd := wdm 94 (by decide +kernel) (by decide +kernel)
theorem wd_95 : (Cond.initialized "java/lang/Math" : Cond) ∈ Wd := wdm 95 (by decide +kernel) (by decide +kernel)
theorem wd_109 : (Cond.methodLink RX11 3 objectInit : Cond) ∈ Wd := wdm 109 (by decide +kernel) (by decide +kernel)
theorem wd_110 : (Cond.instanceMethod objectInit : Cond) ∈ Wd := wdm 110 (by decide +kernel) (by decide +kernel)
theorem wd_111 : (Cond.code objectInit ⟨#[0xb1]⟩ 1 none : Cond) ∈ Wd := wdm 111 (by decide +kernel) (by decide +kernel)
theorem wd_112 : (Cond.classLink RX11 9 RX8 : Cond) ∈ Wd := wdm 112 (by decide +kernel) (by decide +kernel)
theorem wd_113 : (Cond.instantiable RX8 3 : Cond) ∈ Wd := wdm 113 (by decide +kernel) (by decide +kernel)
theorem wd_115 : (Cond.instanceMethod yX8_init : Cond) ∈ Wd := wdm 115 (by decide +kernel) (by decide +kernel)
theorem wd_116 : (Cond.code yX8_init cX8_init 1 none : Cond) ∈ Wd := wdm 116 (by decide +kernel) (by decide +kernel)
theorem wd_117 : (Cond.methodLink RX8 3 objectInit : Cond) ∈ Wd := wdm 117 (by decide +kernel) (by decide +kernel)
theorem wd_118 : (Cond.fieldLink RX8 11 "PoolCoast$Tides" "ticks" "[I" : Cond) ∈ Wd := wdm 118 (by decide +kernel) (by decide +kernel)
theorem wd_119 : (Cond.fieldLink RX8 15 "PoolCoast$Tides" "levels" "[I" : Cond) ∈ Wd := wdm 119 (by decide +kernel) (by decide +kernel)
theorem wd_120 : (Cond.fieldLink RX8 18 "PoolCoast$Tides" "size" "I" : Cond) ∈ Wd := wdm 120 (by decide +kernel) (by decide +kernel)
theorem wd_129 : (Cond.arrayClass .int : Cond) ∈ Wd := wdm 129 (by decide +kernel) (by decide +kernel)
theorem wd_130 : (Cond.classLink RX11 16 RX10 : Cond) ∈ Wd := wdm 130 (by decide +kernel) (by decide +kernel)
theorem wd_131 : (Cond.instantiable RX10 7 : Cond) ∈ Wd := wdm 131 (by decide +kernel) (by decide +kernel)
theorem wd_133 : (Cond.instanceMethod yX10_init : Cond) ∈ Wd := wdm 133 (by decide +kernel) (by decide +kernel)
theorem wd_134 : (Cond.code yX10_init cX10_init 1 none : Cond) ∈ Wd := wdm 134 (by decide +kernel) (by decide +kernel)
theorem wd_135 : (Cond.methodLink RX10 3 objectInit : Cond) ∈ Wd := wdm 135 (by decide +kernel) (by decide +kernel)
theorem wd_136 : (Cond.fieldLink RX10 9 "PoolCoast$Waves" "latest" "[I" : Cond) ∈ Wd := wdm 136 (by decide +kernel) (by decide +kernel)
theorem wd_137 : (Cond.fieldLink RX10 15 "PoolCoast$Waves" "earlier" "[I" : Cond) ∈ Wd := wdm 137 (by decide +kernel) (by decide +kernel)
theorem wd_138 : (Cond.fieldLink RX10 18 "PoolCoast$Waves" "knownFrom" "[I" : Cond) ∈ Wd := wdm 138 (by decide +kernel) (by decide +kernel)
theorem wd_139 : (Cond.fieldLink RX10 21 "PoolCoast$Waves" "heights" "[I" : Cond) ∈ Wd := wdm 139 (by decide +kernel) (by decide +kernel)
theorem wd_140 : (Cond.fieldLink RX10 31 "PoolCoast$Waves" "size" "I" : Cond) ∈ Wd := wdm 140 (by decide +kernel) (by decide +kernel)
theorem wd_142 : (Cond.fieldLink RX10 24 "PoolCoast$Waves" "worst" "I" : Cond) ∈ Wd := wdm 142 (by decide +kernel) (by decide +kernel)
theorem wd_143 : (Cond.fieldLink RX11 113 "PoolCoast$Waves" "worst" "I" : Cond) ∈ Wd := wdm 143 (by decide +kernel) (by decide +kernel)
theorem wd_144 : (Cond.fieldLink RX10 28 "PoolCoast$Waves" "storm" "I" : Cond) ∈ Wd := wdm 144 (by decide +kernel) (by decide +kernel)
theorem wd_145 : (Cond.fieldLink RX11 116 "PoolCoast$Waves" "storm" "I" : Cond) ∈ Wd := wdm 145 (by decide +kernel) (by decide +kernel)
theorem wd_161 : (Cond.classLink RX11 23 RX4 : Cond) ∈ Wd := wdm 161 (by decide +kernel) (by decide +kernel)
theorem wd_163 : (Cond.classLink RX11 29 RX5 : Cond) ∈ Wd := wdm 163 (by decide +kernel) (by decide +kernel)
theorem wd_164 : (Cond.instantiable RX5 9 : Cond) ∈ Wd := wdm 164 (by decide +kernel) (by decide +kernel)
theorem wd_166 : (Cond.instanceMethod yX5_init : Cond) ∈ Wd := wdm 166 (by decide +kernel) (by decide +kernel)
theorem wd_167 : (Cond.code yX5_init cX5_init 1 none : Cond) ∈ Wd := wdm 167 (by decide +kernel) (by decide +kernel)
theorem wd_168 : (Cond.methodLink RX5 3 objectInit : Cond) ∈ Wd := wdm 168 (by decide +kernel) (by decide +kernel)
theorem wd_169 : (Cond.fieldLink RX5 11 "PoolCoast$Reader" "code" "[I" : Cond) ∈ Wd := wdm 169 (by decide +kernel) (by decide +kernel)
theorem wd_171 : (Cond.fieldLink RX5 18 "PoolCoast$Reader" "length" "I" : Cond) ∈ Wd := wdm 171 (by decide +kernel) (by decide +kernel)
theorem wd_173 : (Cond.fieldLink RX5 29 "PoolCoast$Reader" "size" "I" : Cond) ∈ Wd := wdm 173 (by decide +kernel) (by decide +kernel)
theorem wd_175 : (Cond.fieldLink RX5 32 "PoolCoast$Reader" "clauses" "I" : Cond) ∈ Wd := wdm 175 (by decide +kernel) (by decide +kernel)
theorem wd_177 : (Cond.fieldLink RX5 15 "PoolCoast$Reader" "bytes" "[I" : Cond) ∈ Wd := wdm 177 (by decide +kernel) (by decide +kernel)
theorem wd_178 : (Cond.fieldLink RX5 26 "PoolCoast$Reader" "place" "I" : Cond) ∈ Wd := wdm 178 (by decide +kernel) (by decide +kernel)
theorem wd_180 : (Cond.fieldLink RX5 35 "PoolCoast$Reader" "compares" "I" : Cond) ∈ Wd := wdm 180 (by decide +kernel) (by decide +kernel)
theorem wd_181 : (Cond.fieldLink RX5 38 "PoolCoast$Reader" "fault" "I" : Cond) ∈ Wd := wdm 181 (by decide +kernel) (by decide +kernel)
theorem wd_201 : (Cond.classLink RX11 36 RX6 : Cond) ∈ Wd := wdm 201 (by decide +kernel) (by decide +kernel)
theorem wd_203 : (Cond.classLink RX11 42 RX7 : Cond) ∈ Wd := wdm 203 (by decide +kernel) (by decide +kernel)
theorem wd_204 : (Cond.instantiable RX7 5 : Cond) ∈ Wd := wdm 204 (by decide +kernel) (by decide +kernel)
theorem wd_206 : (Cond.instanceMethod yX7_init : Cond) ∈ Wd := wdm 206 (by decide +kernel) (by decide +kernel)
theorem wd_207 : (Cond.code yX7_init cX7_init 1 none : Cond) ∈ Wd := wdm 207 (by decide +kernel) (by decide +kernel)
theorem wd_208 : (Cond.methodLink RX7 3 objectInit : Cond) ∈ Wd := wdm 208 (by decide +kernel) (by decide +kernel)
theorem wd_209 : (Cond.fieldLink RX7 11 "PoolCoast$Samples" "poolsOf" "[I" : Cond) ∈ Wd := wdm 209 (by decide +kernel) (by decide +kernel)
theorem wd_210 : (Cond.fieldLink RX7 15 "PoolCoast$Samples" "hours" "[I" : Cond) ∈ Wd := wdm 210 (by decide +kernel) (by decide +kernel)
theorem wd_211 : (Cond.fieldLink RX7 18 "PoolCoast$Samples" "results" "[I" : Cond) ∈ Wd := wdm 211 (by decide +kernel) (by decide +kernel)
theorem wd_212 : (Cond.fieldLink RX7 21 "PoolCoast$Samples" "knownFrom" "[I" : Cond) ∈ Wd := wdm 212 (by decide +kernel) (by decide +kernel)
theorem wd_226 : (Cond.classLink RX11 49 RX2 : Cond) ∈ Wd := wdm 226 (by decide +kernel) (by decide +kernel)
theorem wd_228 : (Cond.classLink RX11 55 RX3 : Cond) ∈ Wd := wdm 228 (by decide +kernel) (by decide +kernel)
theorem wd_229 : (Cond.instantiable RX3 10 : Cond) ∈ Wd := wdm 229 (by decide +kernel) (by decide +kernel)
theorem wd_230 : (Cond.methodLink RX11 57 yX3_init : Cond) ∈ Wd := wdm 230 (by decide +kernel) (by decide +kernel)
theorem wd_231 : (Cond.instanceMethod yX3_init : Cond) ∈ Wd := wdm 231 (by decide +kernel) (by decide +kernel)
theorem wd_232 : (Cond.code yX3_init cX3_init 1 none : Cond) ∈ Wd := wdm 232 (by decide +kernel) (by decide +kernel)
theorem wd_233 : (Cond.methodLink RX3 3 objectInit : Cond) ∈ Wd := wdm 233 (by decide +kernel) (by decide +kernel)
theorem wd_234 : (Cond.methodLink RX3 30 yJ7_fill_53178 : Cond) ∈ Wd := wdm 234 (by decide +kernel) (by decide +kernel)
theorem wd_235 : (Cond.static yJ7_fill_53178 : Cond) ∈ Wd := wdm 235 (by decide +kernel) (by decide +kernel)
theorem wd_236 : (Cond.code yJ7_fill_53178 cJ7_fill_53178 4 none : Cond) ∈ Wd := wdm 236 (by decide +kernel) (by decide +kernel)
theorem wd_237 : (Cond.fieldLink RX3 9 "PoolCoast$Planner" "dayPlanned" "[I" : Cond) ∈ Wd := wdm 237 (by decide +kernel) (by decide +kernel)
theorem wd_239 : (Cond.fieldLink RX3 15 "PoolCoast$Planner" "numbers" "[I" : Cond) ∈ Wd := wdm 239 (by decide +kernel) (by decide +kernel)
theorem wd_240 : (Cond.fieldLink RX3 18 "PoolCoast$Planner" "costs" "[I" : Cond) ∈ Wd := wdm 240 (by decide +kernel) (by decide +kernel)
theorem wd_241 : (Cond.fieldLink RX3 21 "PoolCoast$Planner" "chosen" "[I" : Cond) ∈ Wd := wdm 241 (by decide +kernel) (by decide +kernel)
theorem wd_242 : (Cond.fieldLink RX3 24 "PoolCoast$Planner" "best" "[I" : Cond) ∈ Wd := wdm 242 (by decide +kernel) (by decide +kernel)
theorem wd_243 : (Cond.fieldLink RX3 27 "PoolCoast$Planner" "busyGangs" "[I" : Cond) ∈ Wd := wdm 243 (by decide +kernel) (by decide +kernel)
theorem wd_269 : (Cond.fieldLink RX11 12 "PoolCoast" "tides" "LPoolCoast$Tides;" : Cond) ∈ Wd := wdm 269 (by decide +kernel) (by decide +kernel)
theorem wd_270 : (Cond.fieldLink RX11 19 "PoolCoast" "waves" "LPoolCoast$Waves;" : Cond) ∈ Wd := wdm 270 (by decide +kernel) (by decide +kernel)
theorem wd_271 : (Cond.fieldLink RX11 25 "PoolCoast" "pools" "[LPoolCoast$Pool;" : Cond) ∈ Wd := wdm 271 (by decide +kernel) (by decide +kernel)
theorem wd_272 : (Cond.fieldLink RX11 32 "PoolCoast" "reader" "LPoolCoast$Reader;" : Cond) ∈ Wd := wdm 272 (by decide +kernel) (by decide +kernel)
theorem wd_273 : (Cond.fieldLink RX11 38 "PoolCoast" "rulings" "[LPoolCoast$Ruling;" : Cond) ∈ Wd := wdm 273 (by decide +kernel) (by decide +kernel)
theorem wd_274 : (Cond.fieldLink RX11 45 "PoolCoast" "samples" "LPoolCoast$Samples;" : Cond) ∈ Wd := wdm 274 (by decide +kernel) (by decide +kernel)
theorem wd_275 : (Cond.fieldLink RX11 51 "PoolCoast" "leases" "[LPoolCoast$Lease;" : Cond) ∈ Wd := wdm 275 (by decide +kernel) (by decide +kernel)
theorem wd_276 : (Cond.fieldLink RX11 58 "PoolCoast" "planner" "LPoolCoast$Planner;" : Cond) ∈ Wd := wdm 276 (by decide +kernel) (by decide +kernel)
theorem wd_277 : (Cond.fieldLink RX11 62 "PoolCoast" "facts" "[I" : Cond) ∈ Wd := wdm 277 (by decide +kernel) (by decide +kernel)
theorem wd_282 : (Cond.fieldLink RX11 173 "PoolCoast" "now" "I" : Cond) ∈ Wd := wdm 282 (by decide +kernel) (by decide +kernel)
theorem wd_283 : (Cond.fieldLink RX11 66 "PoolCoast" "hoursWanted" "I" : Cond) ∈ Wd := wdm 283 (by decide +kernel) (by decide +kernel)
theorem wd_331 : (Cond.static yX11_within : Cond) ∈ Wd := wdm 331 (by decide +kernel) (by decide +kernel)
theorem wd_332 : (Cond.code yX11_within cX11_within 3 (some .boolean) : Cond) ∈ Wd := wdm 332 (by decide +kernel) (by decide +kernel)
theorem wd_334 : (Cond.static yX11_at : Cond) ∈ Wd := wdm 334 (by decide +kernel) (by decide +kernel)
theorem wd_335 : (Cond.code yX11_at cX11_at 2 (some .int) : Cond) ∈ Wd := wdm 335 (by decide +kernel) (by decide +kernel)
theorem wd_341 : (Cond.static yX11_put : Cond) ∈ Wd := wdm 341 (by decide +kernel) (by decide +kernel)
theorem wd_342 : (Cond.code yX11_put cX11_put 3 none : Cond) ∈ Wd := wdm 342 (by decide +kernel) (by decide +kernel)
theorem wd_347 : (Cond.methodLink RX11 85 yX11_within : Cond) ∈ Wd := wdm 347 (by decide +kernel) (by decide +kernel)
theorem wd_403 : (Cond.methodLink RX0 1 objectInit : Cond) ∈ Wd := wdm 403 (by decide +kernel) (by decide +kernel)
theorem wd_404 : (Cond.fieldLink RX0 16 "PoolCoast$Basin" "area" "I" : Cond) ∈ Wd := wdm 404 (by decide +kernel) (by decide +kernel)
theorem wd_405 : (Cond.fieldLink RX4 50 "PoolCoast$Basin" "area" "I" : Cond) ∈ Wd := wdm 405 (by decide +kernel) (by decide +kernel)
theorem wd_408 : (Cond.fieldLink RX0 20 "PoolCoast$Basin" "floor" "I" : Cond) ∈ Wd := wdm 408 (by decide +kernel) (by decide +kernel)
theorem wd_412 : (Cond.fieldLink RX0 23 "PoolCoast$Basin" "wall" "I" : Cond) ∈ Wd := wdm 412 (by decide +kernel) (by decide +kernel)
theorem wd_414 : (Cond.fieldLink RX0 26 "PoolCoast$Basin" "sill" "I" : Cond) ∈ Wd := wdm 414 (by decide +kernel) (by decide +kernel)
theorem wd_416 : (Cond.fieldLink RX0 29 "PoolCoast$Basin" "sluiceRate" "I" : Cond) ∈ Wd := wdm 416 (by decide +kernel) (by decide +kernel)
theorem wd_418 : (Cond.fieldLink RX0 32 "PoolCoast$Basin" "overRate" "I" : Cond) ∈ Wd := wdm 418 (by decide +kernel) (by decide +kernel)
theorem wd_420 : (Cond.fieldLink RX0 9 "PoolCoast$Basin" "crackLevels" "[I" : Cond) ∈ Wd := wdm 420 (by decide +kernel) (by decide +kernel)
theorem wd_422 : (Cond.fieldLink RX0 13 "PoolCoast$Basin" "crackRates" "[I" : Cond) ∈ Wd := wdm 422 (by decide +kernel) (by decide +kernel)
theorem wd_466 : (Cond.methodLink RX4 3 objectInit : Cond) ∈ Wd := wdm 466 (by decide +kernel) (by decide +kernel)
theorem wd_467 : (Cond.classLink RX4 9 RX9 : Cond) ∈ Wd := wdm 467 (by decide +kernel) (by decide +kernel)
theorem wd_468 : (Cond.instantiable RX9 4 : Cond) ∈ Wd := wdm 468 (by decide +kernel) (by decide +kernel)
theorem wd_470 : (Cond.instanceMethod yX9_init : Cond) ∈ Wd := wdm 470 (by decide +kernel) (by decide +kernel)
theorem wd_471 : (Cond.code yX9_init cX9_init 1 none : Cond) ∈ Wd := wdm 471 (by decide +kernel) (by decide +kernel)
theorem wd_472 : (Cond.methodLink RX9 3 objectInit : Cond) ∈ Wd := wdm 472 (by decide +kernel) (by decide +kernel)
theorem wd_473 : (Cond.fieldLink RX4 62 "PoolCoast$Water" "units" "I" : Cond) ∈ Wd := wdm 473 (by decide +kernel) (by decide +kernel)
theorem wd_491 : (Cond.classLink RX4 48 RX1 : Cond) ∈ Wd := wdm 491 (by decide +kernel) (by decide +kernel)
theorem wd_492 : (Cond.instantiable RX1 11 : Cond) ∈ Wd := wdm 492 (by decide +kernel) (by decide +kernel)
theorem wd_493 : (Cond.methodLink RX4 55 yX1_init : Cond) ∈ Wd := wdm 493 (by decide +kernel) (by decide +kernel)
theorem wd_494 : (Cond.instanceMethod yX1_init : Cond) ∈ Wd := wdm 494 (by decide +kernel) (by decide +kernel)
theorem wd_495 : (Cond.code yX1_init cX1_init 2 none : Cond) ∈ Wd := wdm 495 (by decide +kernel) (by decide +kernel)
theorem wd_496 : (Cond.methodLink RX1 3 objectInit : Cond) ∈ Wd := wdm 496 (by decide +kernel) (by decide +kernel)
theorem wd_497 : (Cond.fieldLink RX1 33 "PoolCoast$Evidence" "area" "I" : Cond) ∈ Wd := wdm 497 (by decide +kernel) (by decide +kernel)
theorem wd_498 : (Cond.fieldLink RX1 11 "PoolCoast$Evidence" "from" "[I" : Cond) ∈ Wd := wdm 498 (by decide +kernel) (by decide +kernel)
theorem wd_499 : (Cond.fieldLink RX1 15 "PoolCoast$Evidence" "to" "[I" : Cond) ∈ Wd := wdm 499 (by decide +kernel) (by decide +kernel)
theorem wd_500 : (Cond.fieldLink RX1 18 "PoolCoast$Evidence" "times" "[I" : Cond) ∈ Wd := wdm 500 (by decide +kernel) (by decide +kernel)
theorem wd_501 : (Cond.fieldLink RX1 21 "PoolCoast$Evidence" "depths" "[I" : Cond) ∈ Wd := wdm 501 (by decide +kernel) (by decide +kernel)
theorem wd_502 : (Cond.fieldLink RX1 24 "PoolCoast$Evidence" "rates" "[I" : Cond) ∈ Wd := wdm 502 (by decide +kernel) (by decide +kernel)
theorem wd_503 : (Cond.fieldLink RX1 27 "PoolCoast$Evidence" "ones" "[I" : Cond) ∈ Wd := wdm 503 (by decide +kernel) (by decide +kernel)
theorem wd_504 : (Cond.fieldLink RX1 30 "PoolCoast$Evidence" "others" "[I" : Cond) ∈ Wd := wdm 504 (by decide +kernel) (by decide +kernel)
theorem wd_531 : (Cond.fieldLink RX4 38 "PoolCoast$Pool" "basin" "LPoolCoast$Basin;" : Cond) ∈ Wd := wdm 531 (by decide +kernel) (by decide +kernel)
theorem wd_533 : (Cond.fieldLink RX4 42 "PoolCoast$Pool" "number" "I" : Cond) ∈ Wd := wdm 533 (by decide +kernel) (by decide +kernel)
theorem wd_535 : (Cond.fieldLink RX4 45 "PoolCoast$Pool" "came" "I" : Cond) ∈ Wd := wdm 535 (by decide +kernel) (by decide +kernel)
theorem wd_537 : (Cond.fieldLink RX4 12 "PoolCoast$Pool" "water" "LPoolCoast$Water;" : Cond) ∈ Wd := wdm 537 (by decide +kernel) (by decide +kernel)
theorem wd_539 : (Cond.fieldLink RX4 58 "PoolCoast$Pool" "evidence" "LPoolCoast$Evidence;" : Cond) ∈ Wd := wdm 539 (by decide +kernel) (by decide +kernel)
theorem wd_541 : (Cond.fieldLink RX4 18 "PoolCoast$Pool" "levels" "[I" : Cond) ∈ Wd := wdm 541 (by decide +kernel) (by decide +kernel)
theorem wd_543 : (Cond.fieldLink RX4 22 "PoolCoast$Pool" "ages" "[I" : Cond) ∈ Wd := wdm 543 (by decide +kernel) (by decide +kernel)
theorem wd_545 : (Cond.fieldLink RX4 25 "PoolCoast$Pool" "dirts" "[I" : Cond) ∈ Wd := wdm 545 (by decide +kernel) (by decide +kernel)
theorem wd_547 : (Cond.fieldLink RX4 28 "PoolCoast$Pool" "freeDays" "[I" : Cond) ∈ Wd := wdm 547 (by decide +kernel) (by decide +kernel)
theorem wd_549 : (Cond.fieldLink RX4 31 "PoolCoast$Pool" "foretold" "LPoolCoast$Water;" : Cond) ∈ Wd := wdm 549 (by decide +kernel) (by decide +kernel)
theorem wd_551 : (Cond.fieldLink RX4 34 "PoolCoast$Pool" "foretoldAt" "I" : Cond) ∈ Wd := wdm 551 (by decide +kernel) (by decide +kernel)
theorem wd_639 : (Cond.static Lib.Math.min.name : Cond) ∈ Wd := wdm 639 (by decide +kernel) (by decide +kernel)
theorem wd_640 : (Cond.code Lib.Math.min.name Lib.Math.min.code 2 (some .int) : Cond) ∈ Wd := wdm 640 (by decide +kernel) (by decide +kernel)
theorem wd_646 : (Cond.static Lib.Math.max.name : Cond) ∈ Wd := wdm 646 (by decide +kernel) (by decide +kernel)
theorem wd_647 : (Cond.code Lib.Math.max.name Lib.Math.max.code 2 (some .int) : Cond) ∈ Wd := wdm 647 (by decide +kernel) (by decide +kernel)
theorem wd_722 : (Cond.methodLink RX5 41 yX5_skipBlanks : Cond) ∈ Wd := wdm 722 (by decide +kernel) (by decide +kernel)
theorem wd_724 : (Cond.instanceMethod yX5_skipBlanks : Cond) ∈ Wd := wdm 724 (by decide +kernel) (by decide +kernel)
theorem wd_725 : (Cond.code yX5_skipBlanks cX5_skipBlanks 1 none : Cond) ∈ Wd := wdm 725 (by decide +kernel) (by decide +kernel)
theorem wd_855 : (Cond.methodLink RX6 3 objectInit : Cond) ∈ Wd := wdm 855 (by decide +kernel) (by decide +kernel)
theorem wd_856 : (Cond.methodLink RX6 15 Lib.Math.min.name : Cond) ∈ Wd := wdm 856 (by decide +kernel) (by decide +kernel)
theorem wd_857 : (Cond.methodLink RX6 21 Lib.Math.max.name : Cond) ∈ Wd := wdm 857 (by decide +kernel) (by decide +kernel)
theorem wd_860 : (Cond.fieldLink RX6 9 "PoolCoast$Ruling" "knownFrom" "I" : Cond) ∈ Wd := wdm 860 (by decide +kernel) (by decide +kernel)
theorem wd_862 : (Cond.fieldLink RX6 33 "PoolCoast$Ruling" "namesTest" "Z" : Cond) ∈ Wd := wdm 862 (by decide +kernel) (by decide +kernel)
theorem wd_864 : (Cond.fieldLink RX6 24 "PoolCoast$Ruling" "code" "[I" : Cond) ∈ Wd := wdm 864 (by decide +kernel) (by decide +kernel)
theorem wd_872 : (Cond.arrayClass .byte : Cond) ∈ Wd := wdm 872 (by decide +kernel) (by decide +kernel)
theorem wd_1093 : (Cond.methodLink RX11 321 yX11_leaseAt : Cond) ∈ Wd := wdm 1093 (by decide +kernel) (by decide +kernel)
theorem wd_1095 : (Cond.instanceMethod yX11_leaseAt : Cond) ∈ Wd := wdm 1095 (by decide +kernel) (by decide +kernel)
theorem wd_1096 : (Cond.code yX11_leaseAt cX11_leaseAt 2 (some (.object "PoolCoast$Lease")) : Cond) ∈ Wd := wdm 1096 (by decide +kernel) (by decide +kernel)
theorem wd_1119 : (Cond.methodLink RX12 1 objectInit : Cond) ∈ Wd := wdm 1119 (by decide +kernel) (by decide +kernel)
theorem wd_1122 : (Cond.fieldLink RX12 7 "PoolCoastModel" "turnTick" "[I" : Cond) ∈ Wd := wdm 1122 (by decide +kernel) (by decide +kernel)
theorem wd_1123 : (Cond.fieldLink RX12 13 "PoolCoastModel" "turnLevel" "[I" : Cond) ∈ Wd := wdm 1123 (by decide +kernel) (by decide +kernel)
theorem wd_1125 : (Cond.fieldLink RX12 16 "PoolCoastModel" "rowHour" "[I" : Cond) ∈ Wd := wdm 1125 (by decide +kernel) (by decide +kernel)
theorem wd_1126 : (Cond.fieldLink RX12 19 "PoolCoastModel" "rowKnown" "[I" : Cond) ∈ Wd := wdm 1126 (by decide +kernel) (by decide +kernel)
theorem wd_1127 : (Cond.fieldLink RX12 22 "PoolCoastModel" "rowHeight" "[I" : Cond) ∈ Wd := wdm 1127 (by decide +kernel) (by decide +kernel)
theorem wd_1128 : (Cond.fieldLink RX12 25 "PoolCoastModel" "set" "[I" : Cond) ∈ Wd := wdm 1128 (by decide +kernel) (by decide +kernel)
theorem wd_1129 : (Cond.fieldLink RX12 28 "PoolCoastModel" "twelfths" "[I" : Cond) ∈ Wd := wdm 1129 (by decide +kernel) (by decide +kernel)
theorem wd_1131 : (Cond.fieldLink RX12 31 "PoolCoastModel" "area" "[I" : Cond) ∈ Wd := wdm 1131 (by decide +kernel) (by decide +kernel)
theorem wd_1132 : (Cond.fieldLink RX12 34 "PoolCoastModel" "floor" "[I" : Cond) ∈ Wd := wdm 1132 (by decide +kernel) (by decide +kernel)
theorem wd_1133 : (Cond.fieldLink RX12 37 "PoolCoastModel" "wall" "[I" : Cond) ∈ Wd := wdm 1133 (by decide +kernel) (by decide +kernel)
theorem wd_1134 : (Cond.fieldLink RX12 40 "PoolCoastModel" "sill" "[I" : Cond) ∈ Wd := wdm 1134 (by decide +kernel) (by decide +kernel)
theorem wd_1135 : (Cond.fieldLink RX12 43 "PoolCoastModel" "sluice" "[I" : Cond) ∈ Wd := wdm 1135 (by decide +kernel) (by decide +kernel)
theorem wd_1136 : (Cond.fieldLink RX12 46 "PoolCoastModel" "over" "[I" : Cond) ∈ Wd := wdm 1136 (by decide +kernel) (by decide +kernel)
theorem wd_1137 : (Cond.fieldLink RX12 49 "PoolCoastModel" "sand" "[I" : Cond) ∈ Wd := wdm 1137 (by decide +kernel) (by decide +kernel)
theorem wd_1138 : (Cond.fieldLink RX12 52 "PoolCoastModel" "weed" "[I" : Cond) ∈ Wd := wdm 1138 (by decide +kernel) (by decide +kernel)
theorem wd_1139 : (Cond.fieldLink RX12 55 "PoolCoastModel" "isOpen" "[Z" : Cond) ∈ Wd := wdm 1139 (by decide +kernel) (by decide +kernel)
theorem wd_1140 : (Cond.fieldLink RX12 59 "PoolCoastModel" "pump" "[I" : Cond) ∈ Wd := wdm 1140 (by decide +kernel) (by decide +kernel)
theorem wd_1141 : (Cond.fieldLink RX12 62 "PoolCoastModel" "water" "[I" : Cond) ∈ Wd := wdm 1141 (by decide +kernel) (by decide +kernel)
theorem wd_1142 : (Cond.fieldLink RX12 65 "PoolCoastModel" "old" "[J" : Cond) ∈ Wd := wdm 1142 (by decide +kernel) (by decide +kernel)
theorem wd_1143 : (Cond.fieldLink RX12 69 "PoolCoastModel" "dirt" "[I" : Cond) ∈ Wd := wdm 1143 (by decide +kernel) (by decide +kernel)
theorem wd_1144 : (Cond.fieldLink RX12 72 "PoolCoastModel" "pumped" "[I" : Cond) ∈ Wd := wdm 1144 (by decide +kernel) (by decide +kernel)
theorem wd_1145 : (Cond.fieldLink RX12 75 "PoolCoastModel" "came" "[I" : Cond) ∈ Wd := wdm 1145 (by decide +kernel) (by decide +kernel)
theorem wd_1146 : (Cond.fieldLink RX12 78 "PoolCoastModel" "cracks" "[I" : Cond) ∈ Wd := wdm 1146 (by decide +kernel) (by decide +kernel)
theorem wd_1147 : (Cond.fieldLink RX12 81 "PoolCoastModel" "crackLevel" "[I" : Cond) ∈ Wd := wdm 1147 (by decide +kernel) (by decide +kernel)
theorem wd_1148 : (Cond.fieldLink RX12 84 "PoolCoastModel" "crackRate" "[I" : Cond) ∈ Wd := wdm 1148 (by decide +kernel) (by decide +kernel)
theorem wd_1149 : (Cond.fieldLink RX12 87 "PoolCoastModel" "keptLevel" "[I" : Cond) ∈ Wd := wdm 1149 (by decide +kernel) (by decide +kernel)
theorem wd_1150 : (Cond.fieldLink RX12 90 "PoolCoastModel" "keptAge" "[I" : Cond) ∈ Wd := wdm 1150 (by decide +kernel) (by decide +kernel)
theorem wd_1151 : (Cond.fieldLink RX12 93 "PoolCoastModel" "keptDirt" "[I" : Cond) ∈ Wd := wdm 1151 (by decide +kernel) (by decide +kernel)
theorem wd_1152 : (Cond.fieldLink RX12 96 "PoolCoastModel" "isFree" "[Z" : Cond) ∈ Wd := wdm 1152 (by decide +kernel) (by decide +kernel)
theorem wd_1158 : (Cond.fieldLink RX12 99 "PoolCoastModel" "foreLevel" "[I" : Cond) ∈ Wd := wdm 1158 (by decide +kernel) (by decide +kernel)
theorem wd_1159 : (Cond.fieldLink RX12 102 "PoolCoastModel" "foreAge" "[I" : Cond) ∈ Wd := wdm 1159 (by decide +kernel) (by decide +kernel)
theorem wd_1160 : (Cond.fieldLink RX12 105 "PoolCoastModel" "foreDirt" "[I" : Cond) ∈ Wd := wdm 1160 (by decide +kernel) (by decide +kernel)
theorem wd_1164 : (Cond.fieldLink RX12 108 "PoolCoastModel" "tape" "[B" : Cond) ∈ Wd := wdm 1164 (by decide +kernel) (by decide +kernel)
theorem wd_1169 : (Cond.fieldLink RX12 112 "PoolCoastModel" "words" "[B" : Cond) ∈ Wd := wdm 1169 (by decide +kernel) (by decide +kernel)
theorem wd_1173 : (Cond.fieldLink RX12 115 "PoolCoastModel" "readStep" "[I" : Cond) ∈ Wd := wdm 1173 (by decide +kernel) (by decide +kernel)
theorem wd_1174 : (Cond.fieldLink RX12 118 "PoolCoastModel" "readEnd" "[I" : Cond) ∈ Wd := wdm 1174 (by decide +kernel) (by decide +kernel)
theorem wd_1175 : (Cond.fieldLink RX12 121 "PoolCoastModel" "open" "[I" : Cond) ∈ Wd := wdm 1175 (by decide +kernel) (by decide +kernel)
theorem wd_1178 : (Cond.fieldLink RX12 124 "PoolCoastModel" "ruleKnown" "[I" : Cond) ∈ Wd := wdm 1178 (by decide +kernel) (by decide +kernel)
theorem wd_1179 : (Cond.fieldLink RX12 127 "PoolCoastModel" "ruleClauses" "[I" : Cond) ∈ Wd := wdm 1179 (by decide +kernel) (by decide +kernel)
theorem wd_1180 : (Cond.fieldLink RX12 130 "PoolCoastModel" "ruleStep" "[I" : Cond) ∈ Wd := wdm 1180 (by decide +kernel) (by decide +kernel)
theorem wd_1181 : (Cond.fieldLink RX12 133 "PoolCoastModel" "ruleEnd" "[I" : Cond) ∈ Wd := wdm 1181 (by decide +kernel) (by decide +kernel)
theorem wd_1183 : (Cond.fieldLink RX12 136 "PoolCoastModel" "testPool" "[I" : Cond) ∈ Wd := wdm 1183 (by decide +kernel) (by decide +kernel)
theorem wd_1184 : (Cond.fieldLink RX12 139 "PoolCoastModel" "testHour" "[I" : Cond) ∈ Wd := wdm 1184 (by decide +kernel) (by decide +kernel)
theorem wd_1185 : (Cond.fieldLink RX12 142 "PoolCoastModel" "testKnown" "[I" : Cond) ∈ Wd := wdm 1185 (by decide +kernel) (by decide +kernel)
theorem wd_1186 : (Cond.fieldLink RX12 145 "PoolCoastModel" "testIs" "[I" : Cond) ∈ Wd := wdm 1186 (by decide +kernel) (by decide +kernel)
theorem wd_1187 : (Cond.fieldLink RX12 148 "PoolCoastModel" "told" "[I" : Cond) ∈ Wd := wdm 1187 (by decide +kernel) (by decide +kernel)
theorem wd_1188 : (Cond.fieldLink RX12 151 "PoolCoastModel" "stack" "[Z" : Cond) ∈ Wd := wdm 1188 (by decide +kernel) (by decide +kernel)
theorem wd_1189 : (Cond.fieldLink RX12 154 "PoolCoastModel" "planned" "[I" : Cond) ∈ Wd := wdm 1189 (by decide +kernel) (by decide +kernel)
theorem wd_1191 : (Cond.fieldLink RX12 157 "PoolCoastModel" "fewOf" "[I" : Cond) ∈ Wd := wdm 1191 (by decide +kernel) (by decide +kernel)
theorem wd_1192 : (Cond.fieldLink RX12 160 "PoolCoastModel" "fewDirt" "[I" : Cond) ∈ Wd := wdm 1192 (by decide +kernel) (by decide +kernel)
theorem wd_1193 : (Cond.fieldLink RX12 163 "PoolCoastModel" "dayOf" "[I" : Cond) ∈ Wd := wdm 1193 (by decide +kernel) (by decide +kernel)
theorem wd_1194 : (Cond.fieldLink RX12 166 "PoolCoastModel" "bestDay" "[I" : Cond) ∈ Wd := wdm 1194 (by decide +kernel) (by decide +kernel)
theorem wd_1195 : (Cond.fieldLink RX12 169 "PoolCoastModel" "nights" "[I" : Cond) ∈ Wd := wdm 1195 (by decide +kernel) (by decide +kernel)
theorem wd_1196 : (Cond.fieldLink RX12 172 "PoolCoastModel" "nightFrom" "[I" : Cond) ∈ Wd := wdm 1196 (by decide +kernel) (by decide +kernel)
theorem wd_1197 : (Cond.fieldLink RX12 175 "PoolCoastModel" "nightTo" "[I" : Cond) ∈ Wd := wdm 1197 (by decide +kernel) (by decide +kernel)
theorem wd_1198 : (Cond.fieldLink RX12 178 "PoolCoastModel" "nightTicks" "[I" : Cond) ∈ Wd := wdm 1198 (by decide +kernel) (by decide +kernel)
theorem wd_1199 : (Cond.fieldLink RX12 181 "PoolCoastModel" "suspects" "[I" : Cond) ∈ Wd := wdm 1199 (by decide +kernel) (by decide +kernel)
theorem wd_1200 : (Cond.fieldLink RX12 184 "PoolCoastModel" "suspectDepth" "[I" : Cond) ∈ Wd := wdm 1200 (by decide +kernel) (by decide +kernel)
theorem wd_1201 : (Cond.fieldLink RX12 187 "PoolCoastModel" "suspectRate" "[I" : Cond) ∈ Wd := wdm 1201 (by decide +kernel) (by decide +kernel)
theorem wd_1204 : (Cond.fieldLink RX12 190 "PoolCoastModel" "causeFirst" "[I" : Cond) ∈ Wd := wdm 1204 (by decide +kernel) (by decide +kernel)
theorem wd_1205 : (Cond.fieldLink RX12 193 "PoolCoastModel" "causeSecond" "[I" : Cond) ∈ Wd := wdm 1205 (by decide +kernel) (by decide +kernel)
theorem wd_1207 : (Cond.fieldLink RX12 196 "PoolCoastModel" "leasePool" "[I" : Cond) ∈ Wd := wdm 1207 (by decide +kernel) (by decide +kernel)
theorem wd_1208 : (Cond.fieldLink RX12 199 "PoolCoastModel" "leaseCoins" "[I" : Cond) ∈ Wd := wdm 1208 (by decide +kernel) (by decide +kernel)
theorem wd_1209 : (Cond.fieldLink RX12 202 "PoolCoastModel" "leaseFirst" "[I" : Cond) ∈ Wd := wdm 1209 (by decide +kernel) (by decide +kernel)
theorem wd_1210 : (Cond.fieldLink RX12 205 "PoolCoastModel" "leaseLast" "[I" : Cond) ∈ Wd := wdm 1210 (by decide +kernel) (by decide +kernel)
theorem wd_1211 : (Cond.fieldLink RX12 208 "PoolCoastModel" "paid" "[I" : Cond) ∈ Wd := wdm 1211 (by decide +kernel) (by decide +kernel)
theorem wd_1397 : (Cond.arrayClass .boolean : Cond) ∈ Wd := wdm 1397 (by decide +kernel) (by decide +kernel)
theorem wd_1398 : (Cond.arrayClass .long : Cond) ∈ Wd := wdm 1398 (by decide +kernel) (by decide +kernel)
theorem wd_1407 : (Cond.methodLink RX12 211 yX12_in : Cond) ∈ Wd := wdm 1407 (by decide +kernel) (by decide +kernel)
theorem wd_1408 : (Cond.static yX12_in : Cond) ∈ Wd := wdm 1408 (by decide +kernel) (by decide +kernel)
theorem wd_1409 : (Cond.code yX12_in cX12_in 3 (some .boolean) : Cond) ∈ Wd := wdm 1409 (by decide +kernel) (by decide +kernel)
theorem inW_0 : ∀ w ∈ wsX00, w ∈ Wd := wdS [435, 437, 439, 441, 443, 445, 447, 449, 451, 453, 455, 457, 459] (by decide +kernel) (by decide +kernel)
theorem inW_1 : ∀ w ∈ wsX10, w ∈ Wd := wdS [508, 510, 512, 514, 516, 518, 520, 522, 524, 526, 528] (by decide +kernel) (by decide +kernel)
theorem inW_2 : ∀ w ∈ wsX20, w ∈ Wd := wdS [1078, 1080, 1082, 1084, 1086] (by decide +kernel) (by decide +kernel)
theorem inW_3 : ∀ w ∈ wsX30, w ∈ Wd := wdS [248, 250, 252, 254, 256, 258, 260, 262, 264, 266] (by decide +kernel) (by decide +kernel)
theorem inW_4 : ∀ w ∈ wsX40, w ∈ Wd := wdS [552, 554, 556, 558, 560, 562, 564, 566, 568, 570, 572, 574] (by decide +kernel) (by decide +kernel)
theorem inW_5 : ∀ w ∈ wsX50, w ∈ Wd := wdS [182, 184, 186, 188, 190, 192, 194, 196, 198] (by decide +kernel) (by decide +kernel)
theorem inW_6 : ∀ w ∈ wsX60, w ∈ Wd := wdS [865, 867, 869] (by decide +kernel) (by decide +kernel)
theorem inW_7 : ∀ w ∈ wsX70, w ∈ Wd := wdS [215, 217, 219, 221, 223] (by decide +kernel) (by decide +kernel)
theorem inW_8 : ∀ w ∈ wsX80, w ∈ Wd := wdS [122, 124, 126] (by decide +kernel) (by decide +kernel)
theorem inW_9 : ∀ w ∈ wsX90, w ∈ Wd := wdS [482, 484, 486, 488] (by decide +kernel) (by decide +kernel)
theorem inW_10 : ∀ w ∈ wsX100, w ∈ Wd := wdS [146, 148, 150, 152, 154, 156, 158] (by decide +kernel) (by decide +kernel)
theorem inW_11 : ∀ w ∈ wsX110, w ∈ Wd := wdS [285, 287, 289, 291, 293, 295, 297, 299, 301, 303, 305, 307, 309, 311, 313, 315] (by decide +kernel) (by decide +kernel)
theorem inW_12 : ∀ w ∈ wsX120, w ∈ Wd := wdS [1212, 1214, 1216, 1218, 1220, 1222, 1224, 1226, 1228, 1230, 1232, 1234, 1236, 1238, 1240, 1242, 1244, 1246, 1248, 1250, 1252, 1254, 1256, 1258, 1260, 1262, 1264, 1266, 1268, 1270, 1272, 1274, 1276, 1278, 1280, 1282, 1284, 1286, 1288, 1290, 1292, 1294, 1296, 1298, 1300, 1302, 1304, 1306, 1308, 1310, 1312, 1314, 1316, 1318, 1320, 1322, 1324, 1326, 1328, 1330, 1332, 1334, 1336, 1338, 1340, 1342, 1344, 1346, 1348, 1350, 1352, 1354, 1356, 1358, 1360, 1362, 1364, 1366, 1368, 1370, 1372, 1374, 1376, 1378, 1380, 1382, 1384, 1386, 1388, 1390, 1392, 1394] (by decide +kernel) (by decide +kernel)
def nwX0 : List Value := [.int 0, .int 0, .int 0, .int 0, .int 0, .int 0, .null, .null, .int 0, .int 0, .int 0, .int 0, .int 0]
theorem nwX0_ok : ∀ j, j < 13 → defaultValue (tyX0 j) = vp_V nwX0 j := by decide +kernel
def nwX1 : List Value := [.int 0, .null, .null, .null, .null, .null, .null, .null, .int 0, .int 0, .int 0]
theorem nwX1_ok : ∀ j, j < 11 → defaultValue (tyX1 j) = vp_V nwX1 j := by decide +kernel
def nwX2 : List Value := [.int 0, .int 0, .int 0, .int 0, .int 0]
theorem nwX2_ok : ∀ j, j < 5 → defaultValue (tyX2 j) = vp_V nwX2 j := by decide +kernel
def nwX3 : List Value := [.null, .null, .null, .null, .null, .null, .int 0, .int 0, .int 0, .int 0]
theorem nwX3_ok : ∀ j, j < 10 → defaultValue (tyX3 j) = vp_V nwX3 j := by decide +kernel
def nwX4 : List Value := [.null, .int 0, .int 0, .null, .null, .null, .null, .null, .null, .null, .int 0, .int 0]
theorem nwX4_ok : ∀ j, j < 12 → defaultValue (tyX4 j) = vp_V nwX4 j := by decide +kernel
def nwX5 : List Value := [.null, .int 0, .int 0, .int 0, .null, .int 0, .int 0, .int 0, .int 0]
theorem nwX5_ok : ∀ j, j < 9 → defaultValue (tyX5 j) = vp_V nwX5 j := by decide +kernel
def nwX6 : List Value := [.int 0, .int 0, .null]
theorem nwX6_ok : ∀ j, j < 3 → defaultValue (tyX6 j) = vp_V nwX6 j := by decide +kernel
def nwX7 : List Value := [.null, .null, .null, .null, .int 0]
theorem nwX7_ok : ∀ j, j < 5 → defaultValue (tyX7 j) = vp_V nwX7 j := by decide +kernel
def nwX8 : List Value := [.null, .null, .int 0]
theorem nwX8_ok : ∀ j, j < 3 → defaultValue (tyX8 j) = vp_V nwX8 j := by decide +kernel
def nwX9 : List Value := [.int 0, .long 0, .int 0, .int 0]
theorem nwX9_ok : ∀ j, j < 4 → defaultValue (tyX9 j) = vp_V nwX9 j := by decide +kernel
def nwX10 : List Value := [.null, .null, .null, .null, .int 0, .int 0, .int 0]
theorem nwX10_ok : ∀ j, j < 7 → defaultValue (tyX10 j) = vp_V nwX10 j := by decide +kernel
def nwX11 : List Value := [.null, .null, .null, .null, .null, .null, .null, .null, .null, .null, .int 0, .int 0, .int 0, .int 0, .int 0, .int 0]
theorem nwX11_ok : ∀ j, j < 16 → defaultValue (tyX11 j) = vp_V nwX11 j := by decide +kernel
def nwX12 : List Value := [.int 0, .int 0, .null, .null, .int 0, .null, .null, .null, .null, .null, .int 0, .null, .null, .null, .null, .null, .null, .null, .null, .null, .null, .null, .null, .null, .null, .null, .null, .null, .null, .null, .null, .null, .null, .int 0, .long 0, .int 0, .int 0, .int 0, .null, .null, .null, .int 0, .int 0, .int 0, .null, .int 0, .int 0, .int 0, .int 0, .null, .int 0, .int 0, .int 0, .null, .null, .null, .int 0, .int 0, .null, .null, .null, .null, .int 0, .null, .null, .null, .null, .null, .null, .null, .int 0, .null, .null, .null, .null, .null, .null, .null, .null, .null, .null, .null, .int 0, .int 0, .null, .null, .int 0, .null, .null, .null, .null, .null]
theorem nwX12_ok : ∀ j, j < 92 → defaultValue (tyX12 j) = vp_V nwX12 j := by decide +kernel
end
section
theorem dX0_init_0 : decode cX0_init 0 = .ok (.aload_n 0, 1) := by decide +kernel
theorem dX0_init_1 : decode cX0_init 1 = .ok (.invokespecial 1, 3) := by decide +kernel
theorem dX0_init_4 : decode cX0_init 4 = .ok (.aload_n 0, 1) := by decide +kernel
theorem dX0_init_5 : decode cX0_init 5 = .ok (.iconst 4, 1) := by decide +kernel
theorem dX0_init_6 : decode cX0_init 6 = .ok (.newarray .int, 2) := by decide +kernel
theorem dX0_init_8 : decode cX0_init 8 = .ok (.putfield 9, 3) := by decide +kernel
theorem dX0_init_11 : decode cX0_init 11 = .ok (.aload_n 0, 1) := by decide +kernel
theorem dX0_init_12 : decode cX0_init 12 = .ok (.iconst 4, 1) := by decide +kernel
theorem dX0_init_13 : decode cX0_init 13 = .ok (.newarray .int, 2) := by decide +kernel
theorem dX0_init_15 : decode cX0_init 15 = .ok (.putfield 13, 3) := by decide +kernel
theorem dX0_init_18 : decode cX0_init 18 = .ok (.aload_n 0, 1) := by decide +kernel
theorem dX0_init_19 : decode cX0_init 19 = .ok (.iload_n 1, 1) := by decide +kernel
theorem dX0_init_20 : decode cX0_init 20 = .ok (.putfield 16, 3) := by decide +kernel
theorem dX0_init_23 : decode cX0_init 23 = .ok (.aload_n 0, 1) := by decide +kernel
theorem dX0_init_24 : decode cX0_init 24 = .ok (.iload_n 2, 1) := by decide +kernel
theorem dX0_init_25 : decode cX0_init 25 = .ok (.putfield 20, 3) := by decide +kernel
theorem dX0_init_28 : decode cX0_init 28 = .ok (.aload_n 0, 1) := by decide +kernel
theorem dX0_init_29 : decode cX0_init 29 = .ok (.iload_n 3, 1) := by decide +kernel
theorem dX0_init_30 : decode cX0_init 30 = .ok (.putfield 23, 3) := by decide +kernel
theorem dX0_init_33 : decode cX0_init 33 = .ok (.aload_n 0, 1) := by decide +kernel
theorem dX0_init_34 : decode cX0_init 34 = .ok (.iload 4, 2) := by decide +kernel
theorem dX0_init_36 : decode cX0_init 36 = .ok (.putfield 26, 3) := by decide +kernel
theorem dX0_init_39 : decode cX0_init 39 = .ok (.aload_n 0, 1) := by decide +kernel
theorem dX0_init_40 : decode cX0_init 40 = .ok (.iload 5, 2) := by decide +kernel
theorem dX0_init_42 : decode cX0_init 42 = .ok (.putfield 29, 3) := by decide +kernel
theorem dX0_init_45 : decode cX0_init 45 = .ok (.aload_n 0, 1) := by decide +kernel
theorem dX0_init_46 : decode cX0_init 46 = .ok (.iload 6, 2) := by decide +kernel
theorem dX0_init_48 : decode cX0_init 48 = .ok (.putfield 32, 3) := by decide +kernel
theorem dX0_init_51 : decode cX0_init 51 = .ok (.return_, 1) := by decide +kernel
theorem dX1_init_0 : decode cX1_init 0 = .ok (.aload_n 0, 1) := by decide +kernel
theorem dX1_init_1 : decode cX1_init 1 = .ok (.invokespecial 3, 3) := by decide +kernel
theorem dX1_init_4 : decode cX1_init 4 = .ok (.aload_n 0, 1) := by decide +kernel
theorem dX1_init_5 : decode cX1_init 5 = .ok (.bipush 20, 2) := by decide +kernel
theorem dX1_init_7 : decode cX1_init 7 = .ok (.newarray .int, 2) := by decide +kernel
theorem dX1_init_9 : decode cX1_init 9 = .ok (.putfield 11, 3) := by decide +kernel
theorem dX1_init_12 : decode cX1_init 12 = .ok (.aload_n 0, 1) := by decide +kernel
theorem dX1_init_13 : decode cX1_init 13 = .ok (.bipush 20, 2) := by decide +kernel
theorem dX1_init_15 : decode cX1_init 15 = .ok (.newarray .int, 2) := by decide +kernel
theorem dX1_init_17 : decode cX1_init 17 = .ok (.putfield 15, 3) := by decide +kernel
theorem dX1_init_20 : decode cX1_init 20 = .ok (.aload_n 0, 1) := by decide +kernel
theorem dX1_init_21 : decode cX1_init 21 = .ok (.bipush 20, 2) := by decide +kernel
theorem dX1_init_23 : decode cX1_init 23 = .ok (.newarray .int, 2) := by decide +kernel
theorem dX1_init_25 : decode cX1_init 25 = .ok (.putfield 18, 3) := by decide +kernel
theorem dX1_init_28 : decode cX1_init 28 = .ok (.aload_n 0, 1) := by decide +kernel
theorem dX1_init_29 : decode cX1_init 29 = .ok (.bipush 8, 2) := by decide +kernel
theorem dX1_init_31 : decode cX1_init 31 = .ok (.newarray .int, 2) := by decide +kernel
theorem dX1_init_33 : decode cX1_init 33 = .ok (.putfield 21, 3) := by decide +kernel
theorem dX1_init_36 : decode cX1_init 36 = .ok (.aload_n 0, 1) := by decide +kernel
theorem dX1_init_37 : decode cX1_init 37 = .ok (.bipush 8, 2) := by decide +kernel
theorem dX1_init_39 : decode cX1_init 39 = .ok (.newarray .int, 2) := by decide +kernel
theorem dX1_init_41 : decode cX1_init 41 = .ok (.putfield 24, 3) := by decide +kernel
theorem dX1_init_44 : decode cX1_init 44 = .ok (.aload_n 0, 1) := by decide +kernel
theorem dX1_init_45 : decode cX1_init 45 = .ok (.bipush 36, 2) := by decide +kernel
theorem dX1_init_47 : decode cX1_init 47 = .ok (.newarray .int, 2) := by decide +kernel
theorem dX1_init_49 : decode cX1_init 49 = .ok (.putfield 27, 3) := by decide +kernel
theorem dX1_init_52 : decode cX1_init 52 = .ok (.aload_n 0, 1) := by decide +kernel
theorem dX1_init_53 : decode cX1_init 53 = .ok (.bipush 36, 2) := by decide +kernel
theorem dX1_init_55 : decode cX1_init 55 = .ok (.newarray .int, 2) := by decide +kernel
theorem dX1_init_57 : decode cX1_init 57 = .ok (.putfield 30, 3) := by decide +kernel
theorem dX1_init_60 : decode cX1_init 60 = .ok (.aload_n 0, 1) := by decide +kernel
theorem dX1_init_61 : decode cX1_init 61 = .ok (.iload_n 1, 1) := by decide +kernel
theorem dX1_init_62 : decode cX1_init 62 = .ok (.putfield 33, 3) := by decide +kernel
theorem dX1_init_65 : decode cX1_init 65 = .ok (.return_, 1) := by decide +kernel
theorem dX3_init_0 : decode cX3_init 0 = .ok (.aload_n 0, 1) := by decide +kernel
theorem dX3_init_1 : decode cX3_init 1 = .ok (.invokespecial 3, 3) := by decide +kernel
theorem dX3_init_4 : decode cX3_init 4 = .ok (.aload_n 0, 1) := by decide +kernel
theorem dX3_init_5 : decode cX3_init 5 = .ok (.bipush 11, 2) := by decide +kernel
theorem dX3_init_7 : decode cX3_init 7 = .ok (.newarray .int, 2) := by decide +kernel
theorem dX3_init_9 : decode cX3_init 9 = .ok (.putfield 9, 3) := by decide +kernel
theorem dX3_init_12 : decode cX3_init 12 = .ok (.aload_n 0, 1) := by decide +kernel
theorem dX3_init_13 : decode cX3_init 13 = .ok (.iconst 4, 1) := by decide +kernel
theorem dX3_init_14 : decode cX3_init 14 = .ok (.newarray .int, 2) := by decide +kernel
theorem dX3_init_16 : decode cX3_init 16 = .ok (.putfield 15, 3) := by decide +kernel
theorem dX3_init_19 : decode cX3_init 19 = .ok (.aload_n 0, 1) := by decide +kernel
theorem dX3_init_20 : decode cX3_init 20 = .ok (.bipush 28, 2) := by decide +kernel
theorem dX3_init_22 : decode cX3_init 22 = .ok (.newarray .int, 2) := by decide +kernel
theorem dX3_init_24 : decode cX3_init 24 = .ok (.putfield 18, 3) := by decide +kernel
theorem dX3_init_27 : decode cX3_init 27 = .ok (.aload_n 0, 1) := by decide +kernel
theorem dX3_init_28 : decode cX3_init 28 = .ok (.iconst 4, 1) := by decide +kernel
theorem dX3_init_29 : decode cX3_init 29 = .ok (.newarray .int, 2) := by decide +kernel
theorem dX3_init_31 : decode cX3_init 31 = .ok (.putfield 21, 3) := by decide +kernel
theorem dX3_init_34 : decode cX3_init 34 = .ok (.aload_n 0, 1) := by decide +kernel
theorem dX3_init_35 : decode cX3_init 35 = .ok (.iconst 4, 1) := by decide +kernel
theorem dX3_init_36 : decode cX3_init 36 = .ok (.newarray .int, 2) := by decide +kernel
theorem dX3_init_38 : decode cX3_init 38 = .ok (.putfield 24, 3) := by decide +kernel
theorem dX3_init_41 : decode cX3_init 41 = .ok (.aload_n 0, 1) := by decide +kernel
theorem dX3_init_42 : decode cX3_init 42 = .ok (.bipush 7, 2) := by decide +kernel
theorem dX3_init_44 : decode cX3_init 44 = .ok (.newarray .int, 2) := by decide +kernel
theorem dX3_init_46 : decode cX3_init 46 = .ok (.putfield 27, 3) := by decide +kernel
theorem dX3_init_49 : decode cX3_init 49 = .ok (.aload_n 0, 1) := by decide +kernel
theorem dX3_init_50 : decode cX3_init 50 = .ok (.getfield 9, 3) := by decide +kernel
theorem dX3_init_53 : decode cX3_init 53 = .ok (.iconst (-1), 1) := by decide +kernel
theorem dX3_init_54 : decode cX3_init 54 = .ok (.invokestatic 30, 3) := by decide +kernel
theorem dX3_init_57 : decode cX3_init 57 = .ok (.return_, 1) := by decide +kernel
theorem dX4_init_0 : decode cX4_init 0 = .ok (.aload_n 0, 1) := by decide +kernel
theorem dX4_init_1 : decode cX4_init 1 = .ok (.invokespecial 3, 3) := by decide +kernel
theorem dX4_init_4 : decode cX4_init 4 = .ok (.aload_n 0, 1) := by decide +kernel
theorem dX4_init_5 : decode cX4_init 5 = .ok (.new 9, 3) := by decide +kernel
theorem dX4_init_8 : decode cX4_init 8 = .ok (.dup, 1) := by decide +kernel
theorem dX4_init_9 : decode cX4_init 9 = .ok (.invokespecial 11, 3) := by decide +kernel
theorem dX4_init_12 : decode cX4_init 12 = .ok (.putfield 12, 3) := by decide +kernel
theorem dX4_init_15 : decode cX4_init 15 = .ok (.aload_n 0, 1) := by decide +kernel
theorem dX4_init_16 : decode cX4_init 16 = .ok (.sipush 2400, 3) := by decide +kernel
theorem dX4_init_19 : decode cX4_init 19 = .ok (.newarray .int, 2) := by decide +kernel
theorem dX4_init_21 : decode cX4_init 21 = .ok (.putfield 18, 3) := by decide +kernel
theorem dX4_init_24 : decode cX4_init 24 = .ok (.aload_n 0, 1) := by decide +kernel
theorem dX4_init_25 : decode cX4_init 25 = .ok (.sipush 2400, 3) := by decide +kernel
theorem dX4_init_28 : decode cX4_init 28 = .ok (.newarray .int, 2) := by decide +kernel
theorem dX4_init_30 : decode cX4_init 30 = .ok (.putfield 22, 3) := by decide +kernel
theorem dX4_init_33 : decode cX4_init 33 = .ok (.aload_n 0, 1) := by decide +kernel
theorem dX4_init_34 : decode cX4_init 34 = .ok (.sipush 2400, 3) := by decide +kernel
theorem dX4_init_37 : decode cX4_init 37 = .ok (.newarray .int, 2) := by decide +kernel
theorem dX4_init_39 : decode cX4_init 39 = .ok (.putfield 25, 3) := by decide +kernel
theorem dX4_init_42 : decode cX4_init 42 = .ok (.aload_n 0, 1) := by decide +kernel
theorem dX4_init_43 : decode cX4_init 43 = .ok (.bipush 100, 2) := by decide +kernel
theorem dX4_init_45 : decode cX4_init 45 = .ok (.newarray .int, 2) := by decide +kernel
theorem dX4_init_47 : decode cX4_init 47 = .ok (.putfield 28, 3) := by decide +kernel
theorem dX4_init_50 : decode cX4_init 50 = .ok (.aload_n 0, 1) := by decide +kernel
theorem dX4_init_51 : decode cX4_init 51 = .ok (.new 9, 3) := by decide +kernel
theorem dX4_init_54 : decode cX4_init 54 = .ok (.dup, 1) := by decide +kernel
theorem dX4_init_55 : decode cX4_init 55 = .ok (.invokespecial 11, 3) := by decide +kernel
theorem dX4_init_58 : decode cX4_init 58 = .ok (.putfield 31, 3) := by decide +kernel
theorem dX4_init_61 : decode cX4_init 61 = .ok (.aload_n 0, 1) := by decide +kernel
theorem dX4_init_62 : decode cX4_init 62 = .ok (.iconst (-1), 1) := by decide +kernel
theorem dX4_init_63 : decode cX4_init 63 = .ok (.putfield 34, 3) := by decide +kernel
theorem dX4_init_66 : decode cX4_init 66 = .ok (.aload_n 0, 1) := by decide +kernel
theorem dX4_init_67 : decode cX4_init 67 = .ok (.aload_n 1, 1) := by decide +kernel
theorem dX4_init_68 : decode cX4_init 68 = .ok (.putfield 38, 3) := by decide +kernel
theorem dX4_init_71 : decode cX4_init 71 = .ok (.aload_n 0, 1) := by decide +kernel
theorem dX4_init_72 : decode cX4_init 72 = .ok (.iload_n 2, 1) := by decide +kernel
theorem dX4_init_73 : decode cX4_init 73 = .ok (.putfield 42, 3) := by decide +kernel
theorem dX4_init_76 : decode cX4_init 76 = .ok (.aload_n 0, 1) := by decide +kernel
theorem dX4_init_77 : decode cX4_init 77 = .ok (.iload 4, 2) := by decide +kernel
theorem dX4_init_79 : decode cX4_init 79 = .ok (.putfield 45, 3) := by decide +kernel
theorem dX4_init_82 : decode cX4_init 82 = .ok (.aload_n 0, 1) := by decide +kernel
theorem dX4_init_83 : decode cX4_init 83 = .ok (.new 48, 3) := by decide +kernel
theorem dX4_init_86 : decode cX4_init 86 = .ok (.dup, 1) := by decide +kernel
theorem dX4_init_87 : decode cX4_init 87 = .ok (.aload_n 1, 1) := by decide +kernel
theorem dX4_init_88 : decode cX4_init 88 = .ok (.getfield 50, 3) := by decide +kernel
theorem dX4_init_91 : decode cX4_init 91 = .ok (.invokespecial 55, 3) := by decide +kernel
theorem dX4_init_94 : decode cX4_init 94 = .ok (.putfield 58, 3) := by decide +kernel
theorem dX4_init_97 : decode cX4_init 97 = .ok (.aload_n 0, 1) := by decide +kernel
theorem dX4_init_98 : decode cX4_init 98 = .ok (.getfield 12, 3) := by decide +kernel
theorem dX4_init_101 : decode cX4_init 101 = .ok (.aload_n 1, 1) := by decide +kernel
theorem dX4_init_102 : decode cX4_init 102 = .ok (.getfield 50, 3) := by decide +kernel
theorem dX4_init_105 : decode cX4_init 105 = .ok (.iload_n 3, 1) := by decide +kernel
theorem dX4_init_106 : decode cX4_init 106 = .ok (.imul, 1) := by decide +kernel
theorem dX4_init_107 : decode cX4_init 107 = .ok (.putfield 62, 3) := by decide +kernel
theorem dX4_init_110 : decode cX4_init 110 = .ok (.return_, 1) := by decide +kernel
theorem dX5_init_0 : decode cX5_init 0 = .ok (.aload_n 0, 1) := by decide +kernel
theorem dX5_init_1 : decode cX5_init 1 = .ok (.invokespecial 3, 3) := by decide +kernel
theorem dX5_init_4 : decode cX5_init 4 = .ok (.aload_n 0, 1) := by decide +kernel
theorem dX5_init_5 : decode cX5_init 5 = .ok (.sipush 320, 3) := by decide +kernel
theorem dX5_init_8 : decode cX5_init 8 = .ok (.newarray .int, 2) := by decide +kernel
theorem dX5_init_10 : decode cX5_init 10 = .ok (.putfield 11, 3) := by decide +kernel
theorem dX5_init_13 : decode cX5_init 13 = .ok (.aload_n 0, 1) := by decide +kernel
theorem dX5_init_14 : decode cX5_init 14 = .ok (.sipush 300, 3) := by decide +kernel
theorem dX5_init_17 : decode cX5_init 17 = .ok (.newarray .int, 2) := by decide +kernel
theorem dX5_init_19 : decode cX5_init 19 = .ok (.putfield 15, 3) := by decide +kernel
theorem dX5_init_22 : decode cX5_init 22 = .ok (.return_, 1) := by decide +kernel
theorem dX5_append_0 : decode cX5_append 0 = .ok (.bipush 24, 2) := by decide +kernel
theorem dX5_append_2 : decode cX5_append 2 = .ok (.istore_n 2, 1) := by decide +kernel
theorem dX5_append_3 : decode cX5_append 3 = .ok (.iload_n 2, 1) := by decide +kernel
theorem dX5_append_4 : decode cX5_append 4 = .ok (.ifCond .lt 37, 3) := by decide +kernel
theorem dX5_append_7 : decode cX5_append 7 = .ok (.aload_n 0, 1) := by decide +kernel
theorem dX5_append_8 : decode cX5_append 8 = .ok (.getfield 15, 3) := by decide +kernel
theorem dX5_append_11 : decode cX5_append 11 = .ok (.aload_n 0, 1) := by decide +kernel
theorem dX5_append_12 : decode cX5_append 12 = .ok (.getfield 18, 3) := by decide +kernel
theorem dX5_append_15 : decode cX5_append 15 = .ok (.iload_n 1, 1) := by decide +kernel
theorem dX5_append_16 : decode cX5_append 16 = .ok (.iload_n 2, 1) := by decide +kernel
theorem dX5_append_17 : decode cX5_append 17 = .ok (.ishr, 1) := by decide +kernel
theorem dX5_append_18 : decode cX5_append 18 = .ok (.sipush 255, 3) := by decide +kernel
theorem dX5_append_21 : decode cX5_append 21 = .ok (.iand, 1) := by decide +kernel
theorem dX5_append_22 : decode cX5_append 22 = .ok (.invokestatic 22, 3) := by decide +kernel
theorem dX5_append_25 : decode cX5_append 25 = .ok (.aload_n 0, 1) := by decide +kernel
theorem dX5_append_26 : decode cX5_append 26 = .ok (.dup, 1) := by decide +kernel
theorem dX5_append_27 : decode cX5_append 27 = .ok (.getfield 18, 3) := by decide +kernel
theorem dX5_append_30 : decode cX5_append 30 = .ok (.iconst 1, 1) := by decide +kernel
theorem dX5_append_31 : decode cX5_append 31 = .ok (.iadd, 1) := by decide +kernel
theorem dX5_append_32 : decode cX5_append 32 = .ok (.putfield 18, 3) := by decide +kernel
theorem dX5_append_35 : decode cX5_append 35 = .ok (.iinc 2 (-8), 3) := by decide +kernel
theorem dX5_append_38 : decode cX5_append 38 = .ok (.goto (-35), 3) := by decide +kernel
theorem dX5_append_41 : decode cX5_append 41 = .ok (.return_, 1) := by decide +kernel
theorem dX5_read_0 : decode cX5_read 0 = .ok (.aload_n 0, 1) := by decide +kernel
theorem dX5_read_1 : decode cX5_read 1 = .ok (.iconst 0, 1) := by decide +kernel
theorem dX5_read_2 : decode cX5_read 2 = .ok (.putfield 26, 3) := by decide +kernel
theorem dX5_read_5 : decode cX5_read 5 = .ok (.aload_n 0, 1) := by decide +kernel
theorem dX5_read_6 : decode cX5_read 6 = .ok (.iconst 0, 1) := by decide +kernel
theorem dX5_read_7 : decode cX5_read 7 = .ok (.putfield 29, 3) := by decide +kernel
theorem dX5_read_10 : decode cX5_read 10 = .ok (.aload_n 0, 1) := by decide +kernel
theorem dX5_read_11 : decode cX5_read 11 = .ok (.iconst 0, 1) := by decide +kernel
theorem dX5_read_12 : decode cX5_read 12 = .ok (.putfield 32, 3) := by decide +kernel
theorem dX5_read_15 : decode cX5_read 15 = .ok (.aload_n 0, 1) := by decide +kernel
theorem dX5_read_16 : decode cX5_read 16 = .ok (.iconst 0, 1) := by decide +kernel
theorem dX5_read_17 : decode cX5_read 17 = .ok (.putfield 35, 3) := by decide +kernel
theorem dX5_read_20 : decode cX5_read 20 = .ok (.aload_n 0, 1) := by decide +kernel
theorem dX5_read_21 : decode cX5_read 21 = .ok (.iconst 0, 1) := by decide +kernel
theorem dX5_read_22 : decode cX5_read 22 = .ok (.putfield 38, 3) := by decide +kernel
theorem dX5_read_25 : decode cX5_read 25 = .ok (.aload_n 0, 1) := by decide +kernel
theorem dX5_read_26 : decode cX5_read 26 = .ok (.invokevirtual 41, 3) := by decide +kernel
theorem dX5_read_29 : decode cX5_read 29 = .ok (.aload_n 0, 1) := by decide +kernel
theorem dX5_read_30 : decode cX5_read 30 = .ok (.getfield 26, 3) := by decide +kernel
theorem dX5_read_33 : decode cX5_read 33 = .ok (.aload_n 0, 1) := by decide +kernel
theorem dX5_read_34 : decode cX5_read 34 = .ok (.getfield 18, 3) := by decide +kernel
theorem dX5_read_37 : decode cX5_read 37 = .ok (.if_icmp .ge 7, 3) := by decide +kernel
theorem dX5_read_44 : decode cX5_read 44 = .ok (.iconst 0, 1) := by decide +kernel
theorem dX5_read_45 : decode cX5_read 45 = .ok (.istore_n 1, 1) := by decide +kernel
theorem dX5_read_46 : decode cX5_read 46 = .ok (.iconst 0, 1) := by decide +kernel
theorem dX5_read_47 : decode cX5_read 47 = .ok (.istore_n 2, 1) := by decide +kernel
theorem dX5_read_48 : decode cX5_read 48 = .ok (.iload_n 1, 1) := by decide +kernel
theorem dX5_read_49 : decode cX5_read 49 = .ok (.ifCond .eq 112, 3) := by decide +kernel
theorem dX5_read_161 : decode cX5_read 161 = .ok (.aload_n 0, 1) := by decide +kernel
theorem dX5_read_162 : decode cX5_read 162 = .ok (.getfield 38, 3) := by decide +kernel
theorem dX5_read_165 : decode cX5_read 165 = .ok (.ireturn, 1) := by decide +kernel
theorem dX5_skipBlanks_0 : decode cX5_skipBlanks 0 = .ok (.aload_n 0, 1) := by decide +kernel
theorem dX5_skipBlanks_1 : decode cX5_skipBlanks 1 = .ok (.getfield 26, 3) := by decide +kernel
theorem dX5_skipBlanks_4 : decode cX5_skipBlanks 4 = .ok (.aload_n 0, 1) := by decide +kernel
theorem dX5_skipBlanks_5 : decode cX5_skipBlanks 5 = .ok (.getfield 18, 3) := by decide +kernel
theorem dX5_skipBlanks_8 : decode cX5_skipBlanks 8 = .ok (.if_icmp .ge 25, 3) := by decide +kernel
theorem dX5_skipBlanks_33 : decode cX5_skipBlanks 33 = .ok (.return_, 1) := by decide +kernel
theorem dX6_init_0 : decode cX6_init 0 = .ok (.aload_n 0, 1) := by decide +kernel
theorem dX6_init_1 : decode cX6_init 1 = .ok (.invokespecial 3, 3) := by decide +kernel
theorem dX6_init_4 : decode cX6_init 4 = .ok (.aload_n 0, 1) := by decide +kernel
theorem dX6_init_5 : decode cX6_init 5 = .ok (.iload_n 3, 1) := by decide +kernel
theorem dX6_init_6 : decode cX6_init 6 = .ok (.putfield 9, 3) := by decide +kernel
theorem dX6_init_9 : decode cX6_init 9 = .ok (.aload_n 0, 1) := by decide +kernel
theorem dX6_init_10 : decode cX6_init 10 = .ok (.iconst 0, 1) := by decide +kernel
theorem dX6_init_11 : decode cX6_init 11 = .ok (.iload_n 2, 1) := by decide +kernel
theorem dX6_init_12 : decode cX6_init 12 = .ok (.aload_n 1, 1) := by decide +kernel
theorem dX6_init_13 : decode cX6_init 13 = .ok (.arraylength, 1) := by decide +kernel
theorem dX6_init_14 : decode cX6_init 14 = .ok (.invokestatic 15, 3) := by decide +kernel
theorem dX6_init_17 : decode cX6_init 17 = .ok (.invokestatic 21, 3) := by decide +kernel
theorem dX6_init_20 : decode cX6_init 20 = .ok (.newarray .int, 2) := by decide +kernel
theorem dX6_init_22 : decode cX6_init 22 = .ok (.putfield 24, 3) := by decide +kernel
theorem dX6_init_25 : decode cX6_init 25 = .ok (.iconst 0, 1) := by decide +kernel
theorem dX6_init_26 : decode cX6_init 26 = .ok (.istore 4, 2) := by decide +kernel
theorem dX6_init_28 : decode cX6_init 28 = .ok (.iconst 0, 1) := by decide +kernel
theorem dX6_init_29 : decode cX6_init 29 = .ok (.istore 5, 2) := by decide +kernel
theorem dX6_init_31 : decode cX6_init 31 = .ok (.iload 5, 2) := by decide +kernel
theorem dX6_init_33 : decode cX6_init 33 = .ok (.aload_n 0, 1) := by decide +kernel
theorem dX6_init_34 : decode cX6_init 34 = .ok (.getfield 24, 3) := by decide +kernel
theorem dX6_init_37 : decode cX6_init 37 = .ok (.arraylength, 1) := by decide +kernel
theorem dX6_init_38 : decode cX6_init 38 = .ok (.if_icmp .ge 64, 3) := by decide +kernel
theorem dX6_init_102 : decode cX6_init 102 = .ok (.aload_n 0, 1) := by decide +kernel
theorem dX6_init_103 : decode cX6_init 103 = .ok (.iload 4, 2) := by decide +kernel
theorem dX6_init_105 : decode cX6_init 105 = .ok (.putfield 33, 3) := by decide +kernel
theorem dX6_init_108 : decode cX6_init 108 = .ok (.return_, 1) := by decide +kernel
theorem dX7_init_0 : decode cX7_init 0 = .ok (.aload_n 0, 1) := by decide +kernel
theorem dX7_init_1 : decode cX7_init 1 = .ok (.invokespecial 3, 3) := by decide +kernel
theorem dX7_init_4 : decode cX7_init 4 = .ok (.aload_n 0, 1) := by decide +kernel
theorem dX7_init_5 : decode cX7_init 5 = .ok (.sipush 500, 3) := by decide +kernel
theorem dX7_init_8 : decode cX7_init 8 = .ok (.newarray .int, 2) := by decide +kernel
theorem dX7_init_10 : decode cX7_init 10 = .ok (.putfield 11, 3) := by decide +kernel
theorem dX7_init_13 : decode cX7_init 13 = .ok (.aload_n 0, 1) := by decide +kernel
theorem dX7_init_14 : decode cX7_init 14 = .ok (.sipush 500, 3) := by decide +kernel
theorem dX7_init_17 : decode cX7_init 17 = .ok (.newarray .int, 2) := by decide +kernel
theorem dX7_init_19 : decode cX7_init 19 = .ok (.putfield 15, 3) := by decide +kernel
theorem dX7_init_22 : decode cX7_init 22 = .ok (.aload_n 0, 1) := by decide +kernel
theorem dX7_init_23 : decode cX7_init 23 = .ok (.sipush 500, 3) := by decide +kernel
theorem dX7_init_26 : decode cX7_init 26 = .ok (.newarray .int, 2) := by decide +kernel
theorem dX7_init_28 : decode cX7_init 28 = .ok (.putfield 18, 3) := by decide +kernel
theorem dX7_init_31 : decode cX7_init 31 = .ok (.aload_n 0, 1) := by decide +kernel
theorem dX7_init_32 : decode cX7_init 32 = .ok (.sipush 500, 3) := by decide +kernel
theorem dX7_init_35 : decode cX7_init 35 = .ok (.newarray .int, 2) := by decide +kernel
theorem dX7_init_37 : decode cX7_init 37 = .ok (.putfield 21, 3) := by decide +kernel
theorem dX7_init_40 : decode cX7_init 40 = .ok (.return_, 1) := by decide +kernel
theorem dX8_init_0 : decode cX8_init 0 = .ok (.aload_n 0, 1) := by decide +kernel
theorem dX8_init_1 : decode cX8_init 1 = .ok (.invokespecial 3, 3) := by decide +kernel
theorem dX8_init_4 : decode cX8_init 4 = .ok (.aload_n 0, 1) := by decide +kernel
theorem dX8_init_5 : decode cX8_init 5 = .ok (.sipush 500, 3) := by decide +kernel
theorem dX8_init_8 : decode cX8_init 8 = .ok (.newarray .int, 2) := by decide +kernel
theorem dX8_init_10 : decode cX8_init 10 = .ok (.putfield 11, 3) := by decide +kernel
theorem dX8_init_13 : decode cX8_init 13 = .ok (.aload_n 0, 1) := by decide +kernel
theorem dX8_init_14 : decode cX8_init 14 = .ok (.sipush 500, 3) := by decide +kernel
theorem dX8_init_17 : decode cX8_init 17 = .ok (.newarray .int, 2) := by decide +kernel
theorem dX8_init_19 : decode cX8_init 19 = .ok (.putfield 15, 3) := by decide +kernel
theorem dX8_init_22 : decode cX8_init 22 = .ok (.return_, 1) := by decide +kernel
theorem dX8_takes_0 : decode cX8_takes 0 = .ok (.aload_n 0, 1) := by decide +kernel
theorem dX8_takes_1 : decode cX8_takes 1 = .ok (.getfield 18, 3) := by decide +kernel
theorem dX8_takes_4 : decode cX8_takes 4 = .ok (.sipush 500, 3) := by decide +kernel
theorem dX8_takes_7 : decode cX8_takes 7 = .ok (.if_icmp .ge 27, 3) := by decide +kernel
theorem dX8_takes_10 : decode cX8_takes 10 = .ok (.iload_n 1, 1) := by decide +kernel
theorem dX8_takes_11 : decode cX8_takes 11 = .ok (.iconst 0, 1) := by decide +kernel
theorem dX8_takes_12 : decode cX8_takes 12 = .ok (.sipush 14399, 3) := by decide +kernel
theorem dX8_takes_15 : decode cX8_takes 15 = .ok (.invokestatic 22, 3) := by decide +kernel
theorem dX8_takes_18 : decode cX8_takes 18 = .ok (.ifCond .eq 16, 3) := by decide +kernel
theorem dX8_takes_21 : decode cX8_takes 21 = .ok (.iload_n 2, 1) := by decide +kernel
theorem dX8_takes_22 : decode cX8_takes 22 = .ok (.sipush (-500), 3) := by decide +kernel
theorem dX8_takes_25 : decode cX8_takes 25 = .ok (.sipush 900, 3) := by decide +kernel
theorem dX8_takes_28 : decode cX8_takes 28 = .ok (.invokestatic 22, 3) := by decide +kernel
theorem dX8_takes_31 : decode cX8_takes 31 = .ok (.ifCond .ne 5, 3) := by decide +kernel
theorem dX8_takes_34 : decode cX8_takes 34 = .ok (.iconst 0, 1) := by decide +kernel
theorem dX8_takes_35 : decode cX8_takes 35 = .ok (.ireturn, 1) := by decide +kernel
theorem dX8_takes_36 : decode cX8_takes 36 = .ok (.aload_n 0, 1) := by decide +kernel
theorem dX8_takes_37 : decode cX8_takes 37 = .ok (.getfield 18, 3) := by decide +kernel
theorem dX8_takes_40 : decode cX8_takes 40 = .ok (.ifCond .eq 28, 3) := by decide +kernel
theorem dX8_takes_68 : decode cX8_takes 68 = .ok (.iconst 1, 1) := by decide +kernel
theorem dX8_takes_69 : decode cX8_takes 69 = .ok (.goto 4, 3) := by decide +kernel
theorem dX8_takes_73 : decode cX8_takes 73 = .ok (.ireturn, 1) := by decide +kernel
theorem dX8_add_0 : decode cX8_add 0 = .ok (.aload_n 0, 1) := by decide +kernel
theorem dX8_add_1 : decode cX8_add 1 = .ok (.getfield 11, 3) := by decide +kernel
theorem dX8_add_4 : decode cX8_add 4 = .ok (.aload_n 0, 1) := by decide +kernel
theorem dX8_add_5 : decode cX8_add 5 = .ok (.getfield 18, 3) := by decide +kernel
theorem dX8_add_8 : decode cX8_add 8 = .ok (.iload_n 1, 1) := by decide +kernel
theorem dX8_add_9 : decode cX8_add 9 = .ok (.invokestatic 30, 3) := by decide +kernel
theorem dX8_add_12 : decode cX8_add 12 = .ok (.aload_n 0, 1) := by decide +kernel
theorem dX8_add_13 : decode cX8_add 13 = .ok (.getfield 15, 3) := by decide +kernel
theorem dX8_add_16 : decode cX8_add 16 = .ok (.aload_n 0, 1) := by decide +kernel
theorem dX8_add_17 : decode cX8_add 17 = .ok (.getfield 18, 3) := by decide +kernel
theorem dX8_add_20 : decode cX8_add 20 = .ok (.iload_n 2, 1) := by decide +kernel
theorem dX8_add_21 : decode cX8_add 21 = .ok (.invokestatic 30, 3) := by decide +kernel
theorem dX8_add_24 : decode cX8_add 24 = .ok (.aload_n 0, 1) := by decide +kernel
theorem dX8_add_25 : decode cX8_add 25 = .ok (.dup, 1) := by decide +kernel
theorem dX8_add_26 : decode cX8_add 26 = .ok (.getfield 18, 3) := by decide +kernel
theorem dX8_add_29 : decode cX8_add 29 = .ok (.iconst 1, 1) := by decide +kernel
theorem dX8_add_30 : decode cX8_add 30 = .ok (.iadd, 1) := by decide +kernel
theorem dX8_add_31 : decode cX8_add 31 = .ok (.putfield 18, 3) := by decide +kernel
theorem dX8_add_34 : decode cX8_add 34 = .ok (.aload_n 0, 1) := by decide +kernel
theorem dX8_add_35 : decode cX8_add 35 = .ok (.getfield 18, 3) := by decide +kernel
theorem dX8_add_38 : decode cX8_add 38 = .ok (.ireturn, 1) := by decide +kernel
theorem dX8_levelAt_0 : decode cX8_levelAt 0 = .ok (.aload_n 0, 1) := by decide +kernel
theorem dX8_levelAt_1 : decode cX8_levelAt 1 = .ok (.getfield 18, 3) := by decide +kernel
theorem dX8_levelAt_4 : decode cX8_levelAt 4 = .ok (.ifCond .ne 5, 3) := by decide +kernel
theorem dX8_levelAt_7 : decode cX8_levelAt 7 = .ok (.iconst 0, 1) := by decide +kernel
theorem dX8_levelAt_8 : decode cX8_levelAt 8 = .ok (.ireturn, 1) := by decide +kernel
theorem dX9_init_0 : decode cX9_init 0 = .ok (.aload_n 0, 1) := by decide +kernel
theorem dX9_init_1 : decode cX9_init 1 = .ok (.invokespecial 3, 3) := by decide +kernel
theorem dX9_init_4 : decode cX9_init 4 = .ok (.return_, 1) := by decide +kernel
theorem dX10_init_0 : decode cX10_init 0 = .ok (.aload_n 0, 1) := by decide +kernel
theorem dX10_init_1 : decode cX10_init 1 = .ok (.invokespecial 3, 3) := by decide +kernel
theorem dX10_init_4 : decode cX10_init 4 = .ok (.aload_n 0, 1) := by decide +kernel
theorem dX10_init_5 : decode cX10_init 5 = .ok (.sipush 2400, 3) := by decide +kernel
theorem dX10_init_8 : decode cX10_init 8 = .ok (.newarray .int, 2) := by decide +kernel
theorem dX10_init_10 : decode cX10_init 10 = .ok (.putfield 9, 3) := by decide +kernel
theorem dX10_init_13 : decode cX10_init 13 = .ok (.aload_n 0, 1) := by decide +kernel
theorem dX10_init_14 : decode cX10_init 14 = .ok (.sipush 1500, 3) := by decide +kernel
theorem dX10_init_17 : decode cX10_init 17 = .ok (.newarray .int, 2) := by decide +kernel
theorem dX10_init_19 : decode cX10_init 19 = .ok (.putfield 15, 3) := by decide +kernel
theorem dX10_init_22 : decode cX10_init 22 = .ok (.aload_n 0, 1) := by decide +kernel
theorem dX10_init_23 : decode cX10_init 23 = .ok (.sipush 1500, 3) := by decide +kernel
theorem dX10_init_26 : decode cX10_init 26 = .ok (.newarray .int, 2) := by decide +kernel
theorem dX10_init_28 : decode cX10_init 28 = .ok (.putfield 18, 3) := by decide +kernel
theorem dX10_init_31 : decode cX10_init 31 = .ok (.aload_n 0, 1) := by decide +kernel
theorem dX10_init_32 : decode cX10_init 32 = .ok (.sipush 1500, 3) := by decide +kernel
theorem dX10_init_35 : decode cX10_init 35 = .ok (.newarray .int, 2) := by decide +kernel
theorem dX10_init_37 : decode cX10_init 37 = .ok (.putfield 21, 3) := by decide +kernel
theorem dX10_init_40 : decode cX10_init 40 = .ok (.aload_n 0, 1) := by decide +kernel
theorem dX10_init_41 : decode cX10_init 41 = .ok (.bipush 100, 2) := by decide +kernel
theorem dX10_init_43 : decode cX10_init 43 = .ok (.putfield 24, 3) := by decide +kernel
theorem dX10_init_46 : decode cX10_init 46 = .ok (.aload_n 0, 1) := by decide +kernel
theorem dX10_init_47 : decode cX10_init 47 = .ok (.sipush 150, 3) := by decide +kernel
theorem dX10_init_50 : decode cX10_init 50 = .ok (.putfield 28, 3) := by decide +kernel
theorem dX10_init_53 : decode cX10_init 53 = .ok (.return_, 1) := by decide +kernel
theorem dX10_add_0 : decode cX10_add 0 = .ok (.aload_n 0, 1) := by decide +kernel
theorem dX10_add_1 : decode cX10_add 1 = .ok (.getfield 15, 3) := by decide +kernel
theorem dX10_add_4 : decode cX10_add 4 = .ok (.aload_n 0, 1) := by decide +kernel
theorem dX10_add_5 : decode cX10_add 5 = .ok (.getfield 31, 3) := by decide +kernel
theorem dX10_add_8 : decode cX10_add 8 = .ok (.aload_n 0, 1) := by decide +kernel
theorem dX10_add_9 : decode cX10_add 9 = .ok (.getfield 9, 3) := by decide +kernel
theorem dX10_add_12 : decode cX10_add 12 = .ok (.iload_n 1, 1) := by decide +kernel
theorem dX10_add_13 : decode cX10_add 13 = .ok (.invokestatic 34, 3) := by decide +kernel
theorem dX10_add_16 : decode cX10_add 16 = .ok (.invokestatic 38, 3) := by decide +kernel
theorem dX10_add_19 : decode cX10_add 19 = .ok (.aload_n 0, 1) := by decide +kernel
theorem dX10_add_20 : decode cX10_add 20 = .ok (.getfield 18, 3) := by decide +kernel
theorem dX10_add_23 : decode cX10_add 23 = .ok (.aload_n 0, 1) := by decide +kernel
theorem dX10_add_24 : decode cX10_add 24 = .ok (.getfield 31, 3) := by decide +kernel
theorem dX10_add_27 : decode cX10_add 27 = .ok (.iload_n 3, 1) := by decide +kernel
theorem dX10_add_28 : decode cX10_add 28 = .ok (.invokestatic 38, 3) := by decide +kernel
theorem dX10_add_31 : decode cX10_add 31 = .ok (.aload_n 0, 1) := by decide +kernel
theorem dX10_add_32 : decode cX10_add 32 = .ok (.getfield 21, 3) := by decide +kernel
theorem dX10_add_35 : decode cX10_add 35 = .ok (.aload_n 0, 1) := by decide +kernel
theorem dX10_add_36 : decode cX10_add 36 = .ok (.getfield 31, 3) := by decide +kernel
theorem dX10_add_39 : decode cX10_add 39 = .ok (.iload_n 2, 1) := by decide +kernel
theorem dX10_add_40 : decode cX10_add 40 = .ok (.invokestatic 38, 3) := by decide +kernel
theorem dX10_add_43 : decode cX10_add 43 = .ok (.aload_n 0, 1) := by decide +kernel
theorem dX10_add_44 : decode cX10_add 44 = .ok (.dup, 1) := by decide +kernel
theorem dX10_add_45 : decode cX10_add 45 = .ok (.getfield 31, 3) := by decide +kernel
theorem dX10_add_48 : decode cX10_add 48 = .ok (.iconst 1, 1) := by decide +kernel
theorem dX10_add_49 : decode cX10_add 49 = .ok (.iadd, 1) := by decide +kernel
theorem dX10_add_50 : decode cX10_add 50 = .ok (.putfield 31, 3) := by decide +kernel
theorem dX10_add_53 : decode cX10_add 53 = .ok (.aload_n 0, 1) := by decide +kernel
theorem dX10_add_54 : decode cX10_add 54 = .ok (.getfield 9, 3) := by decide +kernel
theorem dX10_add_57 : decode cX10_add 57 = .ok (.iload_n 1, 1) := by decide +kernel
theorem dX10_add_58 : decode cX10_add 58 = .ok (.aload_n 0, 1) := by decide +kernel
theorem dX10_add_59 : decode cX10_add 59 = .ok (.getfield 31, 3) := by decide +kernel
theorem dX10_add_62 : decode cX10_add 62 = .ok (.invokestatic 38, 3) := by decide +kernel
theorem dX10_add_65 : decode cX10_add 65 = .ok (.aload_n 0, 1) := by decide +kernel
theorem dX10_add_66 : decode cX10_add 66 = .ok (.getfield 31, 3) := by decide +kernel
theorem dX10_add_69 : decode cX10_add 69 = .ok (.ireturn, 1) := by decide +kernel
theorem dX10_heightOf_0 : decode cX10_heightOf 0 = .ok (.aload_n 0, 1) := by decide +kernel
theorem dX10_heightOf_1 : decode cX10_heightOf 1 = .ok (.getfield 9, 3) := by decide +kernel
theorem dX10_heightOf_4 : decode cX10_heightOf 4 = .ok (.iload_n 1, 1) := by decide +kernel
theorem dX10_heightOf_5 : decode cX10_heightOf 5 = .ok (.invokestatic 34, 3) := by decide +kernel
theorem dX10_heightOf_8 : decode cX10_heightOf 8 = .ok (.istore_n 3, 1) := by decide +kernel
theorem dX10_heightOf_9 : decode cX10_heightOf 9 = .ok (.iconst 0, 1) := by decide +kernel
theorem dX10_heightOf_10 : decode cX10_heightOf 10 = .ok (.istore 4, 2) := by decide +kernel
theorem dX10_heightOf_12 : decode cX10_heightOf 12 = .ok (.iload_n 3, 1) := by decide +kernel
theorem dX10_heightOf_13 : decode cX10_heightOf 13 = .ok (.ifCond .le 53, 3) := by decide +kernel
theorem dX10_heightOf_66 : decode cX10_heightOf 66 = .ok (.aload_n 0, 1) := by decide +kernel
theorem dX10_heightOf_67 : decode cX10_heightOf 67 = .ok (.getfield 24, 3) := by decide +kernel
theorem dX10_heightOf_70 : decode cX10_heightOf 70 = .ok (.ireturn, 1) := by decide +kernel
theorem dX11_init_0 : decode cX11_init 0 = .ok (.aload_n 0, 1) := by decide +kernel
theorem dX11_init_1 : decode cX11_init 1 = .ok (.invokespecial 3, 3) := by decide +kernel
theorem dX11_init_4 : decode cX11_init 4 = .ok (.aload_n 0, 1) := by decide +kernel
theorem dX11_init_5 : decode cX11_init 5 = .ok (.new 9, 3) := by decide +kernel
theorem dX11_init_8 : decode cX11_init 8 = .ok (.dup, 1) := by decide +kernel
theorem dX11_init_9 : decode cX11_init 9 = .ok (.invokespecial 11, 3) := by decide +kernel
theorem dX11_init_12 : decode cX11_init 12 = .ok (.putfield 12, 3) := by decide +kernel
theorem dX11_init_15 : decode cX11_init 15 = .ok (.aload_n 0, 1) := by decide +kernel
theorem dX11_init_16 : decode cX11_init 16 = .ok (.new 16, 3) := by decide +kernel
theorem dX11_init_19 : decode cX11_init 19 = .ok (.dup, 1) := by decide +kernel
theorem dX11_init_20 : decode cX11_init 20 = .ok (.invokespecial 18, 3) := by decide +kernel
theorem dX11_init_23 : decode cX11_init 23 = .ok (.putfield 19, 3) := by decide +kernel
theorem dX11_init_26 : decode cX11_init 26 = .ok (.aload_n 0, 1) := by decide +kernel
theorem dX11_init_27 : decode cX11_init 27 = .ok (.bipush 11, 2) := by decide +kernel
theorem dX11_init_29 : decode cX11_init 29 = .ok (.anewarray 23, 3) := by decide +kernel
theorem dX11_init_32 : decode cX11_init 32 = .ok (.putfield 25, 3) := by decide +kernel
theorem dX11_init_35 : decode cX11_init 35 = .ok (.aload_n 0, 1) := by decide +kernel
theorem dX11_init_36 : decode cX11_init 36 = .ok (.new 29, 3) := by decide +kernel
theorem dX11_init_39 : decode cX11_init 39 = .ok (.dup, 1) := by decide +kernel
theorem dX11_init_40 : decode cX11_init 40 = .ok (.invokespecial 31, 3) := by decide +kernel
theorem dX11_init_43 : decode cX11_init 43 = .ok (.putfield 32, 3) := by decide +kernel
theorem dX11_init_46 : decode cX11_init 46 = .ok (.aload_n 0, 1) := by decide +kernel
theorem dX11_init_47 : decode cX11_init 47 = .ok (.bipush 10, 2) := by decide +kernel
theorem dX11_init_49 : decode cX11_init 49 = .ok (.anewarray 36, 3) := by decide +kernel
theorem dX11_init_52 : decode cX11_init 52 = .ok (.putfield 38, 3) := by decide +kernel
theorem dX11_init_55 : decode cX11_init 55 = .ok (.aload_n 0, 1) := by decide +kernel
theorem dX11_init_56 : decode cX11_init 56 = .ok (.new 42, 3) := by decide +kernel
theorem dX11_init_59 : decode cX11_init 59 = .ok (.dup, 1) := by decide +kernel
theorem dX11_init_60 : decode cX11_init 60 = .ok (.invokespecial 44, 3) := by decide +kernel
theorem dX11_init_63 : decode cX11_init 63 = .ok (.putfield 45, 3) := by decide +kernel
theorem dX11_init_66 : decode cX11_init 66 = .ok (.aload_n 0, 1) := by decide +kernel
theorem dX11_init_67 : decode cX11_init 67 = .ok (.bipush 10, 2) := by decide +kernel
theorem dX11_init_69 : decode cX11_init 69 = .ok (.anewarray 49, 3) := by decide +kernel
theorem dX11_init_72 : decode cX11_init 72 = .ok (.putfield 51, 3) := by decide +kernel
theorem dX11_init_75 : decode cX11_init 75 = .ok (.aload_n 0, 1) := by decide +kernel
theorem dX11_init_76 : decode cX11_init 76 = .ok (.new 55, 3) := by decide +kernel
theorem dX11_init_79 : decode cX11_init 79 = .ok (.dup, 1) := by decide +kernel
theorem dX11_init_80 : decode cX11_init 80 = .ok (.invokespecial 57, 3) := by decide +kernel
theorem dX11_init_83 : decode cX11_init 83 = .ok (.putfield 58, 3) := by decide +kernel
theorem dX11_init_86 : decode cX11_init 86 = .ok (.aload_n 0, 1) := by decide +kernel
theorem dX11_init_87 : decode cX11_init 87 = .ok (.bipush 8, 2) := by decide +kernel
theorem dX11_init_89 : decode cX11_init 89 = .ok (.newarray .int, 2) := by decide +kernel
theorem dX11_init_91 : decode cX11_init 91 = .ok (.putfield 62, 3) := by decide +kernel
theorem dX11_init_94 : decode cX11_init 94 = .ok (.aload_n 0, 1) := by decide +kernel
theorem dX11_init_95 : decode cX11_init 95 = .ok (.bipush 8, 2) := by decide +kernel
theorem dX11_init_97 : decode cX11_init 97 = .ok (.putfield 66, 3) := by decide +kernel
theorem dX11_init_100 : decode cX11_init 100 = .ok (.return_, 1) := by decide +kernel
theorem dX11_paidOf_0 : decode cX11_paidOf 0 = .ok (.aload_n 0, 1) := by decide +kernel
theorem dX11_paidOf_1 : decode cX11_paidOf 1 = .ok (.iload_n 1, 1) := by decide +kernel
theorem dX11_paidOf_2 : decode cX11_paidOf 2 = .ok (.invokevirtual 321, 3) := by decide +kernel
theorem dX11_paidOf_5 : decode cX11_paidOf 5 = .ok (.astore_n 2, 1) := by decide +kernel
theorem dX11_paidOf_6 : decode cX11_paidOf 6 = .ok (.aload_n 2, 1) := by decide +kernel
theorem dX11_paidOf_7 : decode cX11_paidOf 7 = .ok (.ifnonnull 7, 3) := by decide +kernel
theorem dX11_paidOf_10 : decode cX11_paidOf 10 = .ok (.iconst (-1), 1) := by decide +kernel
theorem dX11_paidOf_11 : decode cX11_paidOf 11 = .ok (.goto 7, 3) := by decide +kernel
theorem dX11_paidOf_18 : decode cX11_paidOf 18 = .ok (.ireturn, 1) := by decide +kernel
theorem dX11_settingOf_0 : decode cX11_settingOf 0 = .ok (.iload_n 1, 1) := by decide +kernel
theorem dX11_settingOf_1 : decode cX11_settingOf 1 = .ok (.lookupswitch 43 #[(0, 27), (1, 35)], 27) := by decide +kernel
theorem dX11_settingOf_28 : decode cX11_settingOf 28 = .ok (.aload_n 0, 1) := by decide +kernel
theorem dX11_settingOf_29 : decode cX11_settingOf 29 = .ok (.getfield 19, 3) := by decide +kernel
theorem dX11_settingOf_32 : decode cX11_settingOf 32 = .ok (.getfield 113, 3) := by decide +kernel
theorem dX11_settingOf_35 : decode cX11_settingOf 35 = .ok (.ireturn, 1) := by decide +kernel
theorem dX11_settingOf_36 : decode cX11_settingOf 36 = .ok (.aload_n 0, 1) := by decide +kernel
theorem dX11_settingOf_37 : decode cX11_settingOf 37 = .ok (.getfield 19, 3) := by decide +kernel
theorem dX11_settingOf_40 : decode cX11_settingOf 40 = .ok (.getfield 116, 3) := by decide +kernel
theorem dX11_settingOf_43 : decode cX11_settingOf 43 = .ok (.ireturn, 1) := by decide +kernel
theorem dX11_settingOf_44 : decode cX11_settingOf 44 = .ok (.aload_n 0, 1) := by decide +kernel
theorem dX11_settingOf_45 : decode cX11_settingOf 45 = .ok (.getfield 66, 3) := by decide +kernel
theorem dX11_settingOf_48 : decode cX11_settingOf 48 = .ok (.ireturn, 1) := by decide +kernel
theorem dX11_atEnd_0 : decode cX11_atEnd 0 = .ok (.aload_n 0, 1) := by decide +kernel
theorem dX11_atEnd_1 : decode cX11_atEnd 1 = .ok (.getfield 173, 3) := by decide +kernel
theorem dX11_atEnd_4 : decode cX11_atEnd 4 = .ok (.sipush 14400, 3) := by decide +kernel
theorem dX11_atEnd_7 : decode cX11_atEnd 7 = .ok (.if_icmp .lt 7, 3) := by decide +kernel
theorem dX11_atEnd_14 : decode cX11_atEnd 14 = .ok (.iconst 0, 1) := by decide +kernel
theorem dX11_atEnd_15 : decode cX11_atEnd 15 = .ok (.ireturn, 1) := by decide +kernel
theorem dX11_hourNow_0 : decode cX11_hourNow 0 = .ok (.aload_n 0, 1) := by decide +kernel
theorem dX11_hourNow_1 : decode cX11_hourNow 1 = .ok (.getfield 173, 3) := by decide +kernel
theorem dX11_hourNow_4 : decode cX11_hourNow 4 = .ok (.bipush 6, 2) := by decide +kernel
theorem dX11_hourNow_6 : decode cX11_hourNow 6 = .ok (.idiv, 1) := by decide +kernel
theorem dX11_hourNow_7 : decode cX11_hourNow 7 = .ok (.ireturn, 1) := by decide +kernel
theorem dX11_dayNow_0 : decode cX11_dayNow 0 = .ok (.aload_n 0, 1) := by decide +kernel
theorem dX11_dayNow_1 : decode cX11_dayNow 1 = .ok (.getfield 173, 3) := by decide +kernel
theorem dX11_dayNow_4 : decode cX11_dayNow 4 = .ok (.sipush 144, 3) := by decide +kernel
theorem dX11_dayNow_7 : decode cX11_dayNow 7 = .ok (.idiv, 1) := by decide +kernel
theorem dX11_dayNow_8 : decode cX11_dayNow 8 = .ok (.ireturn, 1) := by decide +kernel
theorem dX11_poolAt_0 : decode cX11_poolAt 0 = .ok (.iload_n 1, 1) := by decide +kernel
theorem dX11_poolAt_1 : decode cX11_poolAt 1 = .ok (.ifCond .lt 21, 3) := by decide +kernel
theorem dX11_poolAt_4 : decode cX11_poolAt 4 = .ok (.iload_n 1, 1) := by decide +kernel
theorem dX11_poolAt_5 : decode cX11_poolAt 5 = .ok (.aload_n 0, 1) := by decide +kernel
theorem dX11_poolAt_6 : decode cX11_poolAt 6 = .ok (.getfield 25, 3) := by decide +kernel
theorem dX11_poolAt_9 : decode cX11_poolAt 9 = .ok (.arraylength, 1) := by decide +kernel
theorem dX11_poolAt_10 : decode cX11_poolAt 10 = .ok (.if_icmp .ge 12, 3) := by decide +kernel
theorem dX11_poolAt_13 : decode cX11_poolAt 13 = .ok (.aload_n 0, 1) := by decide +kernel
theorem dX11_poolAt_14 : decode cX11_poolAt 14 = .ok (.getfield 25, 3) := by decide +kernel
theorem dX11_poolAt_17 : decode cX11_poolAt 17 = .ok (.iload_n 1, 1) := by decide +kernel
theorem dX11_poolAt_18 : decode cX11_poolAt 18 = .ok (.aaload, 1) := by decide +kernel
theorem dX11_poolAt_19 : decode cX11_poolAt 19 = .ok (.goto 4, 3) := by decide +kernel
theorem dX11_poolAt_22 : decode cX11_poolAt 22 = .ok (.aconst_null, 1) := by decide +kernel
theorem dX11_poolAt_23 : decode cX11_poolAt 23 = .ok (.areturn, 1) := by decide +kernel
theorem dX11_leaseAt_0 : decode cX11_leaseAt 0 = .ok (.iload_n 1, 1) := by decide +kernel
theorem dX11_leaseAt_1 : decode cX11_leaseAt 1 = .ok (.ifCond .lt 21, 3) := by decide +kernel
theorem dX11_leaseAt_4 : decode cX11_leaseAt 4 = .ok (.iload_n 1, 1) := by decide +kernel
theorem dX11_leaseAt_5 : decode cX11_leaseAt 5 = .ok (.aload_n 0, 1) := by decide +kernel
theorem dX11_leaseAt_6 : decode cX11_leaseAt 6 = .ok (.getfield 51, 3) := by decide +kernel
theorem dX11_leaseAt_9 : decode cX11_leaseAt 9 = .ok (.arraylength, 1) := by decide +kernel
theorem dX11_leaseAt_10 : decode cX11_leaseAt 10 = .ok (.if_icmp .ge 12, 3) := by decide +kernel
theorem dX11_leaseAt_13 : decode cX11_leaseAt 13 = .ok (.aload_n 0, 1) := by decide +kernel
theorem dX11_leaseAt_14 : decode cX11_leaseAt 14 = .ok (.getfield 51, 3) := by decide +kernel
theorem dX11_leaseAt_17 : decode cX11_leaseAt 17 = .ok (.iload_n 1, 1) := by decide +kernel
theorem dX11_leaseAt_18 : decode cX11_leaseAt 18 = .ok (.aaload, 1) := by decide +kernel
theorem dX11_leaseAt_19 : decode cX11_leaseAt 19 = .ok (.goto 4, 3) := by decide +kernel
theorem dX11_leaseAt_22 : decode cX11_leaseAt 22 = .ok (.aconst_null, 1) := by decide +kernel
theorem dX11_leaseAt_23 : decode cX11_leaseAt 23 = .ok (.areturn, 1) := by decide +kernel
theorem dX11_isHour_0 : decode cX11_isHour 0 = .ok (.iload_n 0, 1) := by decide +kernel
theorem dX11_isHour_1 : decode cX11_isHour 1 = .ok (.iconst 0, 1) := by decide +kernel
theorem dX11_isHour_2 : decode cX11_isHour 2 = .ok (.sipush 2399, 3) := by decide +kernel
theorem dX11_isHour_5 : decode cX11_isHour 5 = .ok (.invokestatic 85, 3) := by decide +kernel
theorem dX11_isHour_8 : decode cX11_isHour 8 = .ok (.ireturn, 1) := by decide +kernel
theorem dX11_isDay_0 : decode cX11_isDay 0 = .ok (.iload_n 0, 1) := by decide +kernel
theorem dX11_isDay_1 : decode cX11_isDay 1 = .ok (.iconst 0, 1) := by decide +kernel
theorem dX11_isDay_2 : decode cX11_isDay 2 = .ok (.bipush 99, 2) := by decide +kernel
theorem dX11_isDay_4 : decode cX11_isDay 4 = .ok (.invokestatic 85, 3) := by decide +kernel
theorem dX11_isDay_7 : decode cX11_isDay 7 = .ok (.ireturn, 1) := by decide +kernel
theorem dX11_within_0 : decode cX11_within 0 = .ok (.iload_n 0, 1) := by decide +kernel
theorem dX11_within_1 : decode cX11_within 1 = .ok (.iload_n 1, 1) := by decide +kernel
theorem dX11_within_2 : decode cX11_within 2 = .ok (.if_icmp .lt 12, 3) := by decide +kernel
theorem dX11_within_5 : decode cX11_within 5 = .ok (.iload_n 0, 1) := by decide +kernel
theorem dX11_within_6 : decode cX11_within 6 = .ok (.iload_n 2, 1) := by decide +kernel
theorem dX11_within_7 : decode cX11_within 7 = .ok (.if_icmp .gt 7, 3) := by decide +kernel
theorem dX11_within_10 : decode cX11_within 10 = .ok (.iconst 1, 1) := by decide +kernel
theorem dX11_within_11 : decode cX11_within 11 = .ok (.goto 4, 3) := by decide +kernel
theorem dX11_within_14 : decode cX11_within 14 = .ok (.iconst 0, 1) := by decide +kernel
theorem dX11_within_15 : decode cX11_within 15 = .ok (.ireturn, 1) := by decide +kernel
theorem dX11_at_0 : decode cX11_at 0 = .ok (.iload_n 1, 1) := by decide +kernel
theorem dX11_at_1 : decode cX11_at 1 = .ok (.ifCond .lt 15, 3) := by decide +kernel
theorem dX11_at_4 : decode cX11_at 4 = .ok (.iload_n 1, 1) := by decide +kernel
theorem dX11_at_5 : decode cX11_at 5 = .ok (.aload_n 0, 1) := by decide +kernel
theorem dX11_at_6 : decode cX11_at 6 = .ok (.arraylength, 1) := by decide +kernel
theorem dX11_at_7 : decode cX11_at 7 = .ok (.if_icmp .ge 9, 3) := by decide +kernel
theorem dX11_at_10 : decode cX11_at 10 = .ok (.aload_n 0, 1) := by decide +kernel
theorem dX11_at_11 : decode cX11_at 11 = .ok (.iload_n 1, 1) := by decide +kernel
theorem dX11_at_12 : decode cX11_at 12 = .ok (.iaload, 1) := by decide +kernel
theorem dX11_at_13 : decode cX11_at 13 = .ok (.goto 4, 3) := by decide +kernel
theorem dX11_at_16 : decode cX11_at 16 = .ok (.iconst 0, 1) := by decide +kernel
theorem dX11_at_17 : decode cX11_at 17 = .ok (.ireturn, 1) := by decide +kernel
theorem dX11_put_0 : decode cX11_put 0 = .ok (.iload_n 1, 1) := by decide +kernel
theorem dX11_put_1 : decode cX11_put 1 = .ok (.ifCond .lt 13, 3) := by decide +kernel
theorem dX11_put_4 : decode cX11_put 4 = .ok (.iload_n 1, 1) := by decide +kernel
theorem dX11_put_5 : decode cX11_put 5 = .ok (.aload_n 0, 1) := by decide +kernel
theorem dX11_put_6 : decode cX11_put 6 = .ok (.arraylength, 1) := by decide +kernel
theorem dX11_put_7 : decode cX11_put 7 = .ok (.if_icmp .ge 7, 3) := by decide +kernel
theorem dX11_put_10 : decode cX11_put 10 = .ok (.aload_n 0, 1) := by decide +kernel
theorem dX11_put_11 : decode cX11_put 11 = .ok (.iload_n 1, 1) := by decide +kernel
theorem dX11_put_12 : decode cX11_put 12 = .ok (.iload_n 2, 1) := by decide +kernel
theorem dX11_put_13 : decode cX11_put 13 = .ok (.iastore, 1) := by decide +kernel
theorem dX11_put_14 : decode cX11_put 14 = .ok (.return_, 1) := by decide +kernel
theorem dX12_init_0 : decode cX12_init 0 = .ok (.aload_n 0, 1) := by decide +kernel
theorem dX12_init_1 : decode cX12_init 1 = .ok (.invokespecial 1, 3) := by decide +kernel
theorem dX12_init_4 : decode cX12_init 4 = .ok (.aload_n 0, 1) := by decide +kernel
theorem dX12_init_5 : decode cX12_init 5 = .ok (.sipush 500, 3) := by decide +kernel
theorem dX12_init_8 : decode cX12_init 8 = .ok (.newarray .int, 2) := by decide +kernel
theorem dX12_init_10 : decode cX12_init 10 = .ok (.putfield 7, 3) := by decide +kernel
theorem dX12_init_13 : decode cX12_init 13 = .ok (.aload_n 0, 1) := by decide +kernel
theorem dX12_init_14 : decode cX12_init 14 = .ok (.sipush 500, 3) := by decide +kernel
theorem dX12_init_17 : decode cX12_init 17 = .ok (.newarray .int, 2) := by decide +kernel
theorem dX12_init_19 : decode cX12_init 19 = .ok (.putfield 13, 3) := by decide +kernel
theorem dX12_init_22 : decode cX12_init 22 = .ok (.aload_n 0, 1) := by decide +kernel
theorem dX12_init_23 : decode cX12_init 23 = .ok (.sipush 1500, 3) := by decide +kernel
theorem dX12_init_26 : decode cX12_init 26 = .ok (.newarray .int, 2) := by decide +kernel
theorem dX12_init_28 : decode cX12_init 28 = .ok (.putfield 16, 3) := by decide +kernel
theorem dX12_init_31 : decode cX12_init 31 = .ok (.aload_n 0, 1) := by decide +kernel
theorem dX12_init_32 : decode cX12_init 32 = .ok (.sipush 1500, 3) := by decide +kernel
theorem dX12_init_35 : decode cX12_init 35 = .ok (.newarray .int, 2) := by decide +kernel
theorem dX12_init_37 : decode cX12_init 37 = .ok (.putfield 19, 3) := by decide +kernel
theorem dX12_init_40 : decode cX12_init 40 = .ok (.aload_n 0, 1) := by decide +kernel
theorem dX12_init_41 : decode cX12_init 41 = .ok (.sipush 1500, 3) := by decide +kernel
theorem dX12_init_44 : decode cX12_init 44 = .ok (.newarray .int, 2) := by decide +kernel
theorem dX12_init_46 : decode cX12_init 46 = .ok (.putfield 22, 3) := by decide +kernel
theorem dX12_init_49 : decode cX12_init 49 = .ok (.aload_n 0, 1) := by decide +kernel
theorem dX12_init_50 : decode cX12_init 50 = .ok (.iconst 3, 1) := by decide +kernel
theorem dX12_init_51 : decode cX12_init 51 = .ok (.newarray .int, 2) := by decide +kernel
theorem dX12_init_53 : decode cX12_init 53 = .ok (.dup, 1) := by decide +kernel
theorem dX12_init_54 : decode cX12_init 54 = .ok (.iconst 0, 1) := by decide +kernel
theorem dX12_init_55 : decode cX12_init 55 = .ok (.bipush 100, 2) := by decide +kernel
theorem dX12_init_57 : decode cX12_init 57 = .ok (.iastore, 1) := by decide +kernel
theorem dX12_init_58 : decode cX12_init 58 = .ok (.dup, 1) := by decide +kernel
theorem dX12_init_59 : decode cX12_init 59 = .ok (.iconst 1, 1) := by decide +kernel
theorem dX12_init_60 : decode cX12_init 60 = .ok (.sipush 150, 3) := by decide +kernel
theorem dX12_init_63 : decode cX12_init 63 = .ok (.iastore, 1) := by decide +kernel
theorem dX12_init_64 : decode cX12_init 64 = .ok (.dup, 1) := by decide +kernel
theorem dX12_init_65 : decode cX12_init 65 = .ok (.iconst 2, 1) := by decide +kernel
theorem dX12_init_66 : decode cX12_init 66 = .ok (.bipush 8, 2) := by decide +kernel
theorem dX12_init_68 : decode cX12_init 68 = .ok (.iastore, 1) := by decide +kernel
theorem dX12_init_69 : decode cX12_init 69 = .ok (.putfield 25, 3) := by decide +kernel
theorem dX12_init_72 : decode cX12_init 72 = .ok (.aload_n 0, 1) := by decide +kernel
theorem dX12_init_73 : decode cX12_init 73 = .ok (.bipush 7, 2) := by decide +kernel
theorem dX12_init_75 : decode cX12_init 75 = .ok (.newarray .int, 2) := by decide +kernel
theorem dX12_init_77 : decode cX12_init 77 = .ok (.dup, 1) := by decide +kernel
theorem dX12_init_78 : decode cX12_init 78 = .ok (.iconst 0, 1) := by decide +kernel
theorem dX12_init_79 : decode cX12_init 79 = .ok (.iconst 0, 1) := by decide +kernel
theorem dX12_init_80 : decode cX12_init 80 = .ok (.iastore, 1) := by decide +kernel
theorem dX12_init_81 : decode cX12_init 81 = .ok (.dup, 1) := by decide +kernel
theorem dX12_init_82 : decode cX12_init 82 = .ok (.iconst 1, 1) := by decide +kernel
theorem dX12_init_83 : decode cX12_init 83 = .ok (.iconst 1, 1) := by decide +kernel
theorem dX12_init_84 : decode cX12_init 84 = .ok (.iastore, 1) := by decide +kernel
theorem dX12_init_85 : decode cX12_init 85 = .ok (.dup, 1) := by decide +kernel
theorem dX12_init_86 : decode cX12_init 86 = .ok (.iconst 2, 1) := by decide +kernel
theorem dX12_init_87 : decode cX12_init 87 = .ok (.iconst 3, 1) := by decide +kernel
theorem dX12_init_88 : decode cX12_init 88 = .ok (.iastore, 1) := by decide +kernel
theorem dX12_init_89 : decode cX12_init 89 = .ok (.dup, 1) := by decide +kernel
theorem dX12_init_90 : decode cX12_init 90 = .ok (.iconst 3, 1) := by decide +kernel
theorem dX12_init_91 : decode cX12_init 91 = .ok (.bipush 6, 2) := by decide +kernel
theorem dX12_init_93 : decode cX12_init 93 = .ok (.iastore, 1) := by decide +kernel
theorem dX12_init_94 : decode cX12_init 94 = .ok (.dup, 1) := by decide +kernel
theorem dX12_init_95 : decode cX12_init 95 = .ok (.iconst 4, 1) := by decide +kernel
theorem dX12_init_96 : decode cX12_init 96 = .ok (.bipush 9, 2) := by decide +kernel
theorem dX12_init_98 : decode cX12_init 98 = .ok (.iastore, 1) := by decide +kernel
theorem dX12_init_99 : decode cX12_init 99 = .ok (.dup, 1) := by decide +kernel
theorem dX12_init_100 : decode cX12_init 100 = .ok (.iconst 5, 1) := by decide +kernel
theorem dX12_init_101 : decode cX12_init 101 = .ok (.bipush 11, 2) := by decide +kernel
theorem dX12_init_103 : decode cX12_init 103 = .ok (.iastore, 1) := by decide +kernel
theorem dX12_init_104 : decode cX12_init 104 = .ok (.dup, 1) := by decide +kernel
theorem dX12_init_105 : decode cX12_init 105 = .ok (.bipush 6, 2) := by decide +kernel
theorem dX12_init_107 : decode cX12_init 107 = .ok (.bipush 12, 2) := by decide +kernel
theorem dX12_init_109 : decode cX12_init 109 = .ok (.iastore, 1) := by decide +kernel
theorem dX12_init_110 : decode cX12_init 110 = .ok (.putfield 28, 3) := by decide +kernel
theorem dX12_init_113 : decode cX12_init 113 = .ok (.aload_n 0, 1) := by decide +kernel
theorem dX12_init_114 : decode cX12_init 114 = .ok (.bipush 11, 2) := by decide +kernel
theorem dX12_init_116 : decode cX12_init 116 = .ok (.newarray .int, 2) := by decide +kernel
theorem dX12_init_118 : decode cX12_init 118 = .ok (.putfield 31, 3) := by decide +kernel
theorem dX12_init_121 : decode cX12_init 121 = .ok (.aload_n 0, 1) := by decide +kernel
theorem dX12_init_122 : decode cX12_init 122 = .ok (.bipush 11, 2) := by decide +kernel
theorem dX12_init_124 : decode cX12_init 124 = .ok (.newarray .int, 2) := by decide +kernel
theorem dX12_init_126 : decode cX12_init 126 = .ok (.putfield 34, 3) := by decide +kernel
theorem dX12_init_129 : decode cX12_init 129 = .ok (.aload_n 0, 1) := by decide +kernel
theorem dX12_init_130 : decode cX12_init 130 = .ok (.bipush 11, 2) := by decide +kernel
theorem dX12_init_132 : decode cX12_init 132 = .ok (.newarray .int, 2) := by decide +kernel
theorem dX12_init_134 : decode cX12_init 134 = .ok (.putfield 37, 3) := by decide +kernel
theorem dX12_init_137 : decode cX12_init 137 = .ok (.aload_n 0, 1) := by decide +kernel
theorem dX12_init_138 : decode cX12_init 138 = .ok (.bipush 11, 2) := by decide +kernel
theorem dX12_init_140 : decode cX12_init 140 = .ok (.newarray .int, 2) := by decide +kernel
theorem dX12_init_142 : decode cX12_init 142 = .ok (.putfield 40, 3) := by decide +kernel
theorem dX12_init_145 : decode cX12_init 145 = .ok (.aload_n 0, 1) := by decide +kernel
theorem dX12_init_146 : decode cX12_init 146 = .ok (.bipush 11, 2) := by decide +kernel
theorem dX12_init_148 : decode cX12_init 148 = .ok (.newarray .int, 2) := by decide +kernel
theorem dX12_init_150 : decode cX12_init 150 = .ok (.putfield 43, 3) := by decide +kernel
theorem dX12_init_153 : decode cX12_init 153 = .ok (.aload_n 0, 1) := by decide +kernel
theorem dX12_init_154 : decode cX12_init 154 = .ok (.bipush 11, 2) := by decide +kernel
theorem dX12_init_156 : decode cX12_init 156 = .ok (.newarray .int, 2) := by decide +kernel
theorem dX12_init_158 : decode cX12_init 158 = .ok (.putfield 46, 3) := by decide +kernel
theorem dX12_init_161 : decode cX12_init 161 = .ok (.aload_n 0, 1) := by decide +kernel
theorem dX12_init_162 : decode cX12_init 162 = .ok (.bipush 11, 2) := by decide +kernel
theorem dX12_init_164 : decode cX12_init 164 = .ok (.newarray .int, 2) := by decide +kernel
theorem dX12_init_166 : decode cX12_init 166 = .ok (.putfield 49, 3) := by decide +kernel
theorem dX12_init_169 : decode cX12_init 169 = .ok (.aload_n 0, 1) := by decide +kernel
theorem dX12_init_170 : decode cX12_init 170 = .ok (.bipush 11, 2) := by decide +kernel
theorem dX12_init_172 : decode cX12_init 172 = .ok (.newarray .int, 2) := by decide +kernel
theorem dX12_init_174 : decode cX12_init 174 = .ok (.putfield 52, 3) := by decide +kernel
theorem dX12_init_177 : decode cX12_init 177 = .ok (.aload_n 0, 1) := by decide +kernel
theorem dX12_init_178 : decode cX12_init 178 = .ok (.bipush 11, 2) := by decide +kernel
theorem dX12_init_180 : decode cX12_init 180 = .ok (.newarray .boolean, 2) := by decide +kernel
theorem dX12_init_182 : decode cX12_init 182 = .ok (.putfield 55, 3) := by decide +kernel
theorem dX12_init_185 : decode cX12_init 185 = .ok (.aload_n 0, 1) := by decide +kernel
theorem dX12_init_186 : decode cX12_init 186 = .ok (.bipush 11, 2) := by decide +kernel
theorem dX12_init_188 : decode cX12_init 188 = .ok (.newarray .int, 2) := by decide +kernel
theorem dX12_init_190 : decode cX12_init 190 = .ok (.putfield 59, 3) := by decide +kernel
theorem dX12_init_193 : decode cX12_init 193 = .ok (.aload_n 0, 1) := by decide +kernel
theorem dX12_init_194 : decode cX12_init 194 = .ok (.bipush 11, 2) := by decide +kernel
theorem dX12_init_196 : decode cX12_init 196 = .ok (.newarray .int, 2) := by decide +kernel
theorem dX12_init_198 : decode cX12_init 198 = .ok (.putfield 62, 3) := by decide +kernel
theorem dX12_init_201 : decode cX12_init 201 = .ok (.aload_n 0, 1) := by decide +kernel
theorem dX12_init_202 : decode cX12_init 202 = .ok (.bipush 11, 2) := by decide +kernel
theorem dX12_init_204 : decode cX12_init 204 = .ok (.newarray .long, 2) := by decide +kernel
theorem dX12_init_206 : decode cX12_init 206 = .ok (.putfield 65, 3) := by decide +kernel
theorem dX12_init_209 : decode cX12_init 209 = .ok (.aload_n 0, 1) := by decide +kernel
theorem dX12_init_210 : decode cX12_init 210 = .ok (.bipush 11, 2) := by decide +kernel
theorem dX12_init_212 : decode cX12_init 212 = .ok (.newarray .int, 2) := by decide +kernel
theorem dX12_init_214 : decode cX12_init 214 = .ok (.putfield 69, 3) := by decide +kernel
theorem dX12_init_217 : decode cX12_init 217 = .ok (.aload_n 0, 1) := by decide +kernel
theorem dX12_init_218 : decode cX12_init 218 = .ok (.bipush 11, 2) := by decide +kernel
theorem dX12_init_220 : decode cX12_init 220 = .ok (.newarray .int, 2) := by decide +kernel
theorem dX12_init_222 : decode cX12_init 222 = .ok (.putfield 72, 3) := by decide +kernel
theorem dX12_init_225 : decode cX12_init 225 = .ok (.aload_n 0, 1) := by decide +kernel
theorem dX12_init_226 : decode cX12_init 226 = .ok (.bipush 11, 2) := by decide +kernel
theorem dX12_init_228 : decode cX12_init 228 = .ok (.newarray .int, 2) := by decide +kernel
theorem dX12_init_230 : decode cX12_init 230 = .ok (.putfield 75, 3) := by decide +kernel
theorem dX12_init_233 : decode cX12_init 233 = .ok (.aload_n 0, 1) := by decide +kernel
theorem dX12_init_234 : decode cX12_init 234 = .ok (.bipush 11, 2) := by decide +kernel
theorem dX12_init_236 : decode cX12_init 236 = .ok (.newarray .int, 2) := by decide +kernel
theorem dX12_init_238 : decode cX12_init 238 = .ok (.putfield 78, 3) := by decide +kernel
theorem dX12_init_241 : decode cX12_init 241 = .ok (.aload_n 0, 1) := by decide +kernel
theorem dX12_init_242 : decode cX12_init 242 = .ok (.bipush 44, 2) := by decide +kernel
theorem dX12_init_244 : decode cX12_init 244 = .ok (.newarray .int, 2) := by decide +kernel
theorem dX12_init_246 : decode cX12_init 246 = .ok (.putfield 81, 3) := by decide +kernel
theorem dX12_init_249 : decode cX12_init 249 = .ok (.aload_n 0, 1) := by decide +kernel
theorem dX12_init_250 : decode cX12_init 250 = .ok (.bipush 44, 2) := by decide +kernel
theorem dX12_init_252 : decode cX12_init 252 = .ok (.newarray .int, 2) := by decide +kernel
theorem dX12_init_254 : decode cX12_init 254 = .ok (.putfield 84, 3) := by decide +kernel
theorem dX12_init_257 : decode cX12_init 257 = .ok (.aload_n 0, 1) := by decide +kernel
theorem dX12_init_258 : decode cX12_init 258 = .ok (.sipush 26400, 3) := by decide +kernel
theorem dX12_init_261 : decode cX12_init 261 = .ok (.newarray .int, 2) := by decide +kernel
theorem dX12_init_263 : decode cX12_init 263 = .ok (.putfield 87, 3) := by decide +kernel
theorem dX12_init_266 : decode cX12_init 266 = .ok (.aload_n 0, 1) := by decide +kernel
theorem dX12_init_267 : decode cX12_init 267 = .ok (.sipush 26400, 3) := by decide +kernel
theorem dX12_init_270 : decode cX12_init 270 = .ok (.newarray .int, 2) := by decide +kernel
theorem dX12_init_272 : decode cX12_init 272 = .ok (.putfield 90, 3) := by decide +kernel
theorem dX12_init_275 : decode cX12_init 275 = .ok (.aload_n 0, 1) := by decide +kernel
theorem dX12_init_276 : decode cX12_init 276 = .ok (.sipush 26400, 3) := by decide +kernel
theorem dX12_init_279 : decode cX12_init 279 = .ok (.newarray .int, 2) := by decide +kernel
theorem dX12_init_281 : decode cX12_init 281 = .ok (.putfield 93, 3) := by decide +kernel
theorem dX12_init_284 : decode cX12_init 284 = .ok (.aload_n 0, 1) := by decide +kernel
theorem dX12_init_285 : decode cX12_init 285 = .ok (.sipush 1100, 3) := by decide +kernel
theorem dX12_init_288 : decode cX12_init 288 = .ok (.newarray .boolean, 2) := by decide +kernel
theorem dX12_init_290 : decode cX12_init 290 = .ok (.putfield 96, 3) := by decide +kernel
theorem dX12_init_293 : decode cX12_init 293 = .ok (.aload_n 0, 1) := by decide +kernel
theorem dX12_init_294 : decode cX12_init 294 = .ok (.sipush 241, 3) := by decide +kernel
theorem dX12_init_297 : decode cX12_init 297 = .ok (.newarray .int, 2) := by decide +kernel
theorem dX12_init_299 : decode cX12_init 299 = .ok (.putfield 99, 3) := by decide +kernel
theorem dX12_init_302 : decode cX12_init 302 = .ok (.aload_n 0, 1) := by decide +kernel
theorem dX12_init_303 : decode cX12_init 303 = .ok (.sipush 241, 3) := by decide +kernel
theorem dX12_init_306 : decode cX12_init 306 = .ok (.newarray .int, 2) := by decide +kernel
theorem dX12_init_308 : decode cX12_init 308 = .ok (.putfield 102, 3) := by decide +kernel
theorem dX12_init_311 : decode cX12_init 311 = .ok (.aload_n 0, 1) := by decide +kernel
theorem dX12_init_312 : decode cX12_init 312 = .ok (.sipush 241, 3) := by decide +kernel
theorem dX12_init_315 : decode cX12_init 315 = .ok (.newarray .int, 2) := by decide +kernel
theorem dX12_init_317 : decode cX12_init 317 = .ok (.putfield 105, 3) := by decide +kernel
theorem dX12_init_320 : decode cX12_init 320 = .ok (.aload_n 0, 1) := by decide +kernel
theorem dX12_init_321 : decode cX12_init 321 = .ok (.sipush 300, 3) := by decide +kernel
theorem dX12_init_324 : decode cX12_init 324 = .ok (.newarray .byte, 2) := by decide +kernel
theorem dX12_init_326 : decode cX12_init 326 = .ok (.putfield 108, 3) := by decide +kernel
theorem dX12_init_329 : decode cX12_init 329 = .ok (.aload_n 0, 1) := by decide +kernel
theorem dX12_init_330 : decode cX12_init 330 = .ok (.bipush 55, 2) := by decide +kernel
theorem dX12_init_332 : decode cX12_init 332 = .ok (.newarray .byte, 2) := by decide +kernel
theorem dX12_init_334 : decode cX12_init 334 = .ok (.dup, 1) := by decide +kernel
theorem dX12_init_335 : decode cX12_init 335 = .ok (.iconst 0, 1) := by decide +kernel
theorem dX12_init_336 : decode cX12_init 336 = .ok (.bipush 111, 2) := by decide +kernel
theorem dX12_init_338 : decode cX12_init 338 = .ok (.bastore, 1) := by decide +kernel
theorem dX12_init_339 : decode cX12_init 339 = .ok (.dup, 1) := by decide +kernel
theorem dX12_init_340 : decode cX12_init 340 = .ok (.iconst 1, 1) := by decide +kernel
theorem dX12_init_341 : decode cX12_init 341 = .ok (.bipush 114, 2) := by decide +kernel
theorem dX12_init_343 : decode cX12_init 343 = .ok (.bastore, 1) := by decide +kernel
theorem dX12_init_344 : decode cX12_init 344 = .ok (.dup, 1) := by decide +kernel
theorem dX12_init_345 : decode cX12_init 345 = .ok (.iconst 2, 1) := by decide +kernel
theorem dX12_init_346 : decode cX12_init 346 = .ok (.iconst 0, 1) := by decide +kernel
theorem dX12_init_347 : decode cX12_init 347 = .ok (.bastore, 1) := by decide +kernel
theorem dX12_init_348 : decode cX12_init 348 = .ok (.dup, 1) := by decide +kernel
theorem dX12_init_349 : decode cX12_init 349 = .ok (.iconst 3, 1) := by decide +kernel
theorem dX12_init_350 : decode cX12_init 350 = .ok (.iconst 0, 1) := by decide +kernel
theorem dX12_init_351 : decode cX12_init 351 = .ok (.bastore, 1) := by decide +kernel
theorem dX12_init_352 : decode cX12_init 352 = .ok (.dup, 1) := by decide +kernel
theorem dX12_init_353 : decode cX12_init 353 = .ok (.iconst 4, 1) := by decide +kernel
theorem dX12_init_354 : decode cX12_init 354 = .ok (.iconst 0, 1) := by decide +kernel
theorem dX12_init_355 : decode cX12_init 355 = .ok (.bastore, 1) := by decide +kernel
theorem dX12_init_356 : decode cX12_init 356 = .ok (.dup, 1) := by decide +kernel
theorem dX12_init_357 : decode cX12_init 357 = .ok (.iconst 5, 1) := by decide +kernel
theorem dX12_init_358 : decode cX12_init 358 = .ok (.bipush 97, 2) := by decide +kernel
theorem dX12_init_360 : decode cX12_init 360 = .ok (.bastore, 1) := by decide +kernel
theorem dX12_init_361 : decode cX12_init 361 = .ok (.dup, 1) := by decide +kernel
theorem dX12_init_362 : decode cX12_init 362 = .ok (.bipush 6, 2) := by decide +kernel
theorem dX12_init_364 : decode cX12_init 364 = .ok (.bipush 110, 2) := by decide +kernel
theorem dX12_init_366 : decode cX12_init 366 = .ok (.bastore, 1) := by decide +kernel
theorem dX12_init_367 : decode cX12_init 367 = .ok (.dup, 1) := by decide +kernel
theorem dX12_init_368 : decode cX12_init 368 = .ok (.bipush 7, 2) := by decide +kernel
theorem dX12_init_370 : decode cX12_init 370 = .ok (.bipush 100, 2) := by decide +kernel
theorem dX12_init_372 : decode cX12_init 372 = .ok (.bastore, 1) := by decide +kernel
theorem dX12_init_373 : decode cX12_init 373 = .ok (.dup, 1) := by decide +kernel
theorem dX12_init_374 : decode cX12_init 374 = .ok (.bipush 8, 2) := by decide +kernel
theorem dX12_init_376 : decode cX12_init 376 = .ok (.iconst 0, 1) := by decide +kernel
theorem dX12_init_377 : decode cX12_init 377 = .ok (.bastore, 1) := by decide +kernel
theorem dX12_init_378 : decode cX12_init 378 = .ok (.dup, 1) := by decide +kernel
theorem dX12_init_379 : decode cX12_init 379 = .ok (.bipush 9, 2) := by decide +kernel
theorem dX12_init_381 : decode cX12_init 381 = .ok (.iconst 0, 1) := by decide +kernel
theorem dX12_init_382 : decode cX12_init 382 = .ok (.bastore, 1) := by decide +kernel
theorem dX12_init_383 : decode cX12_init 383 = .ok (.dup, 1) := by decide +kernel
theorem dX12_init_384 : decode cX12_init 384 = .ok (.bipush 10, 2) := by decide +kernel
theorem dX12_init_386 : decode cX12_init 386 = .ok (.bipush 110, 2) := by decide +kernel
theorem dX12_init_388 : decode cX12_init 388 = .ok (.bastore, 1) := by decide +kernel
theorem dX12_init_389 : decode cX12_init 389 = .ok (.dup, 1) := by decide +kernel
theorem dX12_init_390 : decode cX12_init 390 = .ok (.bipush 11, 2) := by decide +kernel
theorem dX12_init_392 : decode cX12_init 392 = .ok (.bipush 111, 2) := by decide +kernel
theorem dX12_init_394 : decode cX12_init 394 = .ok (.bastore, 1) := by decide +kernel
theorem dX12_init_395 : decode cX12_init 395 = .ok (.dup, 1) := by decide +kernel
theorem dX12_init_396 : decode cX12_init 396 = .ok (.bipush 12, 2) := by decide +kernel
theorem dX12_init_398 : decode cX12_init 398 = .ok (.bipush 116, 2) := by decide +kernel
theorem dX12_init_400 : decode cX12_init 400 = .ok (.bastore, 1) := by decide +kernel
theorem dX12_init_401 : decode cX12_init 401 = .ok (.dup, 1) := by decide +kernel
theorem dX12_init_402 : decode cX12_init 402 = .ok (.bipush 13, 2) := by decide +kernel
theorem dX12_init_404 : decode cX12_init 404 = .ok (.iconst 0, 1) := by decide +kernel
theorem dX12_init_405 : decode cX12_init 405 = .ok (.bastore, 1) := by decide +kernel
theorem dX12_init_406 : decode cX12_init 406 = .ok (.dup, 1) := by decide +kernel
theorem dX12_init_407 : decode cX12_init 407 = .ok (.bipush 14, 2) := by decide +kernel
theorem dX12_init_409 : decode cX12_init 409 = .ok (.iconst 0, 1) := by decide +kernel
theorem dX12_init_410 : decode cX12_init 410 = .ok (.bastore, 1) := by decide +kernel
theorem dX12_init_411 : decode cX12_init 411 = .ok (.dup, 1) := by decide +kernel
theorem dX12_init_412 : decode cX12_init 412 = .ok (.bipush 15, 2) := by decide +kernel
theorem dX12_init_414 : decode cX12_init 414 = .ok (.bipush 100, 2) := by decide +kernel
theorem dX12_init_416 : decode cX12_init 416 = .ok (.bastore, 1) := by decide +kernel
theorem dX12_init_417 : decode cX12_init 417 = .ok (.dup, 1) := by decide +kernel
theorem dX12_init_418 : decode cX12_init 418 = .ok (.bipush 16, 2) := by decide +kernel
theorem dX12_init_420 : decode cX12_init 420 = .ok (.bipush 101, 2) := by decide +kernel
theorem dX12_init_422 : decode cX12_init 422 = .ok (.bastore, 1) := by decide +kernel
theorem dX12_init_423 : decode cX12_init 423 = .ok (.dup, 1) := by decide +kernel
theorem dX12_init_424 : decode cX12_init 424 = .ok (.bipush 17, 2) := by decide +kernel
theorem dX12_init_426 : decode cX12_init 426 = .ok (.bipush 112, 2) := by decide +kernel
theorem dX12_init_428 : decode cX12_init 428 = .ok (.bastore, 1) := by decide +kernel
theorem dX12_init_429 : decode cX12_init 429 = .ok (.dup, 1) := by decide +kernel
theorem dX12_init_430 : decode cX12_init 430 = .ok (.bipush 18, 2) := by decide +kernel
theorem dX12_init_432 : decode cX12_init 432 = .ok (.bipush 116, 2) := by decide +kernel
theorem dX12_init_434 : decode cX12_init 434 = .ok (.bastore, 1) := by decide +kernel
theorem dX12_init_435 : decode cX12_init 435 = .ok (.dup, 1) := by decide +kernel
theorem dX12_init_436 : decode cX12_init 436 = .ok (.bipush 19, 2) := by decide +kernel
theorem dX12_init_438 : decode cX12_init 438 = .ok (.bipush 104, 2) := by decide +kernel
theorem dX12_init_440 : decode cX12_init 440 = .ok (.bastore, 1) := by decide +kernel
theorem dX12_init_441 : decode cX12_init 441 = .ok (.dup, 1) := by decide +kernel
theorem dX12_init_442 : decode cX12_init 442 = .ok (.bipush 20, 2) := by decide +kernel
theorem dX12_init_444 : decode cX12_init 444 = .ok (.bipush 115, 2) := by decide +kernel
theorem dX12_init_446 : decode cX12_init 446 = .ok (.bastore, 1) := by decide +kernel
theorem dX12_init_447 : decode cX12_init 447 = .ok (.dup, 1) := by decide +kernel
theorem dX12_init_448 : decode cX12_init 448 = .ok (.bipush 21, 2) := by decide +kernel
theorem dX12_init_450 : decode cX12_init 450 = .ok (.bipush 101, 2) := by decide +kernel
theorem dX12_init_452 : decode cX12_init 452 = .ok (.bastore, 1) := by decide +kernel
theorem dX12_init_453 : decode cX12_init 453 = .ok (.dup, 1) := by decide +kernel
theorem dX12_init_454 : decode cX12_init 454 = .ok (.bipush 22, 2) := by decide +kernel
theorem dX12_init_456 : decode cX12_init 456 = .ok (.bipush 97, 2) := by decide +kernel
theorem dX12_init_458 : decode cX12_init 458 = .ok (.bastore, 1) := by decide +kernel
theorem dX12_init_459 : decode cX12_init 459 = .ok (.dup, 1) := by decide +kernel
theorem dX12_init_460 : decode cX12_init 460 = .ok (.bipush 23, 2) := by decide +kernel
theorem dX12_init_462 : decode cX12_init 462 = .ok (.iconst 0, 1) := by decide +kernel
theorem dX12_init_463 : decode cX12_init 463 = .ok (.bastore, 1) := by decide +kernel
theorem dX12_init_464 : decode cX12_init 464 = .ok (.dup, 1) := by decide +kernel
theorem dX12_init_465 : decode cX12_init 465 = .ok (.bipush 24, 2) := by decide +kernel
theorem dX12_init_467 : decode cX12_init 467 = .ok (.iconst 0, 1) := by decide +kernel
theorem dX12_init_468 : decode cX12_init 468 = .ok (.bastore, 1) := by decide +kernel
theorem dX12_init_469 : decode cX12_init 469 = .ok (.dup, 1) := by decide +kernel
theorem dX12_init_470 : decode cX12_init 470 = .ok (.bipush 25, 2) := by decide +kernel
theorem dX12_init_472 : decode cX12_init 472 = .ok (.bipush 119, 2) := by decide +kernel
theorem dX12_init_474 : decode cX12_init 474 = .ok (.bastore, 1) := by decide +kernel
theorem dX12_init_475 : decode cX12_init 475 = .ok (.dup, 1) := by decide +kernel
theorem dX12_init_476 : decode cX12_init 476 = .ok (.bipush 26, 2) := by decide +kernel
theorem dX12_init_478 : decode cX12_init 478 = .ok (.bipush 97, 2) := by decide +kernel
theorem dX12_init_480 : decode cX12_init 480 = .ok (.bastore, 1) := by decide +kernel
theorem dX12_init_481 : decode cX12_init 481 = .ok (.dup, 1) := by decide +kernel
theorem dX12_init_482 : decode cX12_init 482 = .ok (.bipush 27, 2) := by decide +kernel
theorem dX12_init_484 : decode cX12_init 484 = .ok (.bipush 118, 2) := by decide +kernel
theorem dX12_init_486 : decode cX12_init 486 = .ok (.bastore, 1) := by decide +kernel
theorem dX12_init_487 : decode cX12_init 487 = .ok (.dup, 1) := by decide +kernel
theorem dX12_init_488 : decode cX12_init 488 = .ok (.bipush 28, 2) := by decide +kernel
theorem dX12_init_490 : decode cX12_init 490 = .ok (.bipush 101, 2) := by decide +kernel
theorem dX12_init_492 : decode cX12_init 492 = .ok (.bastore, 1) := by decide +kernel
theorem dX12_init_493 : decode cX12_init 493 = .ok (.dup, 1) := by decide +kernel
theorem dX12_init_494 : decode cX12_init 494 = .ok (.bipush 29, 2) := by decide +kernel
theorem dX12_init_496 : decode cX12_init 496 = .ok (.iconst 0, 1) := by decide +kernel
theorem dX12_init_497 : decode cX12_init 497 = .ok (.bastore, 1) := by decide +kernel
theorem dX12_init_498 : decode cX12_init 498 = .ok (.dup, 1) := by decide +kernel
theorem dX12_init_499 : decode cX12_init 499 = .ok (.bipush 30, 2) := by decide +kernel
theorem dX12_init_501 : decode cX12_init 501 = .ok (.bipush 97, 2) := by decide +kernel
theorem dX12_init_503 : decode cX12_init 503 = .ok (.bastore, 1) := by decide +kernel
theorem dX12_init_504 : decode cX12_init 504 = .ok (.dup, 1) := by decide +kernel
theorem dX12_init_505 : decode cX12_init 505 = .ok (.bipush 31, 2) := by decide +kernel
theorem dX12_init_507 : decode cX12_init 507 = .ok (.bipush 103, 2) := by decide +kernel
theorem dX12_init_509 : decode cX12_init 509 = .ok (.bastore, 1) := by decide +kernel
theorem dX12_init_510 : decode cX12_init 510 = .ok (.dup, 1) := by decide +kernel
theorem dX12_init_511 : decode cX12_init 511 = .ok (.bipush 32, 2) := by decide +kernel
theorem dX12_init_513 : decode cX12_init 513 = .ok (.bipush 101, 2) := by decide +kernel
theorem dX12_init_515 : decode cX12_init 515 = .ok (.bastore, 1) := by decide +kernel
theorem dX12_init_516 : decode cX12_init 516 = .ok (.dup, 1) := by decide +kernel
theorem dX12_init_517 : decode cX12_init 517 = .ok (.bipush 33, 2) := by decide +kernel
theorem dX12_init_519 : decode cX12_init 519 = .ok (.iconst 0, 1) := by decide +kernel
theorem dX12_init_520 : decode cX12_init 520 = .ok (.bastore, 1) := by decide +kernel
theorem dX12_init_521 : decode cX12_init 521 = .ok (.dup, 1) := by decide +kernel
theorem dX12_init_522 : decode cX12_init 522 = .ok (.bipush 34, 2) := by decide +kernel
theorem dX12_init_524 : decode cX12_init 524 = .ok (.iconst 0, 1) := by decide +kernel
theorem dX12_init_525 : decode cX12_init 525 = .ok (.bastore, 1) := by decide +kernel
theorem dX12_init_526 : decode cX12_init 526 = .ok (.dup, 1) := by decide +kernel
theorem dX12_init_527 : decode cX12_init 527 = .ok (.bipush 35, 2) := by decide +kernel
theorem dX12_init_529 : decode cX12_init 529 = .ok (.bipush 100, 2) := by decide +kernel
theorem dX12_init_531 : decode cX12_init 531 = .ok (.bastore, 1) := by decide +kernel
theorem dX12_init_532 : decode cX12_init 532 = .ok (.dup, 1) := by decide +kernel
theorem dX12_init_533 : decode cX12_init 533 = .ok (.bipush 36, 2) := by decide +kernel
theorem dX12_init_535 : decode cX12_init 535 = .ok (.bipush 105, 2) := by decide +kernel
theorem dX12_init_537 : decode cX12_init 537 = .ok (.bastore, 1) := by decide +kernel
theorem dX12_init_538 : decode cX12_init 538 = .ok (.dup, 1) := by decide +kernel
theorem dX12_init_539 : decode cX12_init 539 = .ok (.bipush 37, 2) := by decide +kernel
theorem dX12_init_541 : decode cX12_init 541 = .ok (.bipush 114, 2) := by decide +kernel
theorem dX12_init_543 : decode cX12_init 543 = .ok (.bastore, 1) := by decide +kernel
theorem dX12_init_544 : decode cX12_init 544 = .ok (.dup, 1) := by decide +kernel
theorem dX12_init_545 : decode cX12_init 545 = .ok (.bipush 38, 2) := by decide +kernel
theorem dX12_init_547 : decode cX12_init 547 = .ok (.bipush 116, 2) := by decide +kernel
theorem dX12_init_549 : decode cX12_init 549 = .ok (.bastore, 1) := by decide +kernel
theorem dX12_init_550 : decode cX12_init 550 = .ok (.dup, 1) := by decide +kernel
theorem dX12_init_551 : decode cX12_init 551 = .ok (.bipush 39, 2) := by decide +kernel
theorem dX12_init_553 : decode cX12_init 553 = .ok (.iconst 0, 1) := by decide +kernel
theorem dX12_init_554 : decode cX12_init 554 = .ok (.bastore, 1) := by decide +kernel
theorem dX12_init_555 : decode cX12_init 555 = .ok (.dup, 1) := by decide +kernel
theorem dX12_init_556 : decode cX12_init 556 = .ok (.bipush 40, 2) := by decide +kernel
theorem dX12_init_558 : decode cX12_init 558 = .ok (.bipush 104, 2) := by decide +kernel
theorem dX12_init_560 : decode cX12_init 560 = .ok (.bastore, 1) := by decide +kernel
theorem dX12_init_561 : decode cX12_init 561 = .ok (.dup, 1) := by decide +kernel
theorem dX12_init_562 : decode cX12_init 562 = .ok (.bipush 41, 2) := by decide +kernel
theorem dX12_init_564 : decode cX12_init 564 = .ok (.bipush 111, 2) := by decide +kernel
theorem dX12_init_566 : decode cX12_init 566 = .ok (.bastore, 1) := by decide +kernel
theorem dX12_init_567 : decode cX12_init 567 = .ok (.dup, 1) := by decide +kernel
theorem dX12_init_568 : decode cX12_init 568 = .ok (.bipush 42, 2) := by decide +kernel
theorem dX12_init_570 : decode cX12_init 570 = .ok (.bipush 117, 2) := by decide +kernel
theorem dX12_init_572 : decode cX12_init 572 = .ok (.bastore, 1) := by decide +kernel
theorem dX12_init_573 : decode cX12_init 573 = .ok (.dup, 1) := by decide +kernel
theorem dX12_init_574 : decode cX12_init 574 = .ok (.bipush 43, 2) := by decide +kernel
theorem dX12_init_576 : decode cX12_init 576 = .ok (.bipush 114, 2) := by decide +kernel
theorem dX12_init_578 : decode cX12_init 578 = .ok (.bastore, 1) := by decide +kernel
theorem dX12_init_579 : decode cX12_init 579 = .ok (.dup, 1) := by decide +kernel
theorem dX12_init_580 : decode cX12_init 580 = .ok (.bipush 44, 2) := by decide +kernel
theorem dX12_init_582 : decode cX12_init 582 = .ok (.iconst 0, 1) := by decide +kernel
theorem dX12_init_583 : decode cX12_init 583 = .ok (.bastore, 1) := by decide +kernel
theorem dX12_init_584 : decode cX12_init 584 = .ok (.dup, 1) := by decide +kernel
theorem dX12_init_585 : decode cX12_init 585 = .ok (.bipush 45, 2) := by decide +kernel
theorem dX12_init_587 : decode cX12_init 587 = .ok (.bipush 100, 2) := by decide +kernel
theorem dX12_init_589 : decode cX12_init 589 = .ok (.bastore, 1) := by decide +kernel
theorem dX12_init_590 : decode cX12_init 590 = .ok (.dup, 1) := by decide +kernel
theorem dX12_init_591 : decode cX12_init 591 = .ok (.bipush 46, 2) := by decide +kernel
theorem dX12_init_593 : decode cX12_init 593 = .ok (.bipush 97, 2) := by decide +kernel
theorem dX12_init_595 : decode cX12_init 595 = .ok (.bastore, 1) := by decide +kernel
theorem dX12_init_596 : decode cX12_init 596 = .ok (.dup, 1) := by decide +kernel
theorem dX12_init_597 : decode cX12_init 597 = .ok (.bipush 47, 2) := by decide +kernel
theorem dX12_init_599 : decode cX12_init 599 = .ok (.bipush 121, 2) := by decide +kernel
theorem dX12_init_601 : decode cX12_init 601 = .ok (.bastore, 1) := by decide +kernel
theorem dX12_init_602 : decode cX12_init 602 = .ok (.dup, 1) := by decide +kernel
theorem dX12_init_603 : decode cX12_init 603 = .ok (.bipush 48, 2) := by decide +kernel
theorem dX12_init_605 : decode cX12_init 605 = .ok (.iconst 0, 1) := by decide +kernel
theorem dX12_init_606 : decode cX12_init 606 = .ok (.bastore, 1) := by decide +kernel
theorem dX12_init_607 : decode cX12_init 607 = .ok (.dup, 1) := by decide +kernel
theorem dX12_init_608 : decode cX12_init 608 = .ok (.bipush 49, 2) := by decide +kernel
theorem dX12_init_610 : decode cX12_init 610 = .ok (.iconst 0, 1) := by decide +kernel
theorem dX12_init_611 : decode cX12_init 611 = .ok (.bastore, 1) := by decide +kernel
theorem dX12_init_612 : decode cX12_init 612 = .ok (.dup, 1) := by decide +kernel
theorem dX12_init_613 : decode cX12_init 613 = .ok (.bipush 50, 2) := by decide +kernel
theorem dX12_init_615 : decode cX12_init 615 = .ok (.bipush 116, 2) := by decide +kernel
theorem dX12_init_617 : decode cX12_init 617 = .ok (.bastore, 1) := by decide +kernel
theorem dX12_init_618 : decode cX12_init 618 = .ok (.dup, 1) := by decide +kernel
theorem dX12_init_619 : decode cX12_init 619 = .ok (.bipush 51, 2) := by decide +kernel
theorem dX12_init_621 : decode cX12_init 621 = .ok (.bipush 101, 2) := by decide +kernel
theorem dX12_init_623 : decode cX12_init 623 = .ok (.bastore, 1) := by decide +kernel
theorem dX12_init_624 : decode cX12_init 624 = .ok (.dup, 1) := by decide +kernel
theorem dX12_init_625 : decode cX12_init 625 = .ok (.bipush 52, 2) := by decide +kernel
theorem dX12_init_627 : decode cX12_init 627 = .ok (.bipush 115, 2) := by decide +kernel
theorem dX12_init_629 : decode cX12_init 629 = .ok (.bastore, 1) := by decide +kernel
theorem dX12_init_630 : decode cX12_init 630 = .ok (.dup, 1) := by decide +kernel
theorem dX12_init_631 : decode cX12_init 631 = .ok (.bipush 53, 2) := by decide +kernel
theorem dX12_init_633 : decode cX12_init 633 = .ok (.bipush 116, 2) := by decide +kernel
theorem dX12_init_635 : decode cX12_init 635 = .ok (.bastore, 1) := by decide +kernel
theorem dX12_init_636 : decode cX12_init 636 = .ok (.dup, 1) := by decide +kernel
theorem dX12_init_637 : decode cX12_init 637 = .ok (.bipush 54, 2) := by decide +kernel
theorem dX12_init_639 : decode cX12_init 639 = .ok (.iconst 0, 1) := by decide +kernel
theorem dX12_init_640 : decode cX12_init 640 = .ok (.bastore, 1) := by decide +kernel
theorem dX12_init_641 : decode cX12_init 641 = .ok (.putfield 112, 3) := by decide +kernel
theorem dX12_init_644 : decode cX12_init 644 = .ok (.aload_n 0, 1) := by decide +kernel
theorem dX12_init_645 : decode cX12_init 645 = .ok (.sipush 128, 3) := by decide +kernel
theorem dX12_init_648 : decode cX12_init 648 = .ok (.newarray .int, 2) := by decide +kernel
theorem dX12_init_650 : decode cX12_init 650 = .ok (.putfield 115, 3) := by decide +kernel
theorem dX12_init_653 : decode cX12_init 653 = .ok (.aload_n 0, 1) := by decide +kernel
theorem dX12_init_654 : decode cX12_init 654 = .ok (.bipush 8, 2) := by decide +kernel
theorem dX12_init_656 : decode cX12_init 656 = .ok (.newarray .int, 2) := by decide +kernel
theorem dX12_init_658 : decode cX12_init 658 = .ok (.putfield 118, 3) := by decide +kernel
theorem dX12_init_661 : decode cX12_init 661 = .ok (.aload_n 0, 1) := by decide +kernel
theorem dX12_init_662 : decode cX12_init 662 = .ok (.sipush 128, 3) := by decide +kernel
theorem dX12_init_665 : decode cX12_init 665 = .ok (.newarray .int, 2) := by decide +kernel
theorem dX12_init_667 : decode cX12_init 667 = .ok (.putfield 121, 3) := by decide +kernel
theorem dX12_init_670 : decode cX12_init 670 = .ok (.aload_n 0, 1) := by decide +kernel
theorem dX12_init_671 : decode cX12_init 671 = .ok (.bipush 10, 2) := by decide +kernel
theorem dX12_init_673 : decode cX12_init 673 = .ok (.newarray .int, 2) := by decide +kernel
theorem dX12_init_675 : decode cX12_init 675 = .ok (.putfield 124, 3) := by decide +kernel
theorem dX12_init_678 : decode cX12_init 678 = .ok (.aload_n 0, 1) := by decide +kernel
theorem dX12_init_679 : decode cX12_init 679 = .ok (.bipush 10, 2) := by decide +kernel
theorem dX12_init_681 : decode cX12_init 681 = .ok (.newarray .int, 2) := by decide +kernel
theorem dX12_init_683 : decode cX12_init 683 = .ok (.putfield 127, 3) := by decide +kernel
theorem dX12_init_686 : decode cX12_init 686 = .ok (.aload_n 0, 1) := by decide +kernel
theorem dX12_init_687 : decode cX12_init 687 = .ok (.sipush 1280, 3) := by decide +kernel
theorem dX12_init_690 : decode cX12_init 690 = .ok (.newarray .int, 2) := by decide +kernel
theorem dX12_init_692 : decode cX12_init 692 = .ok (.putfield 130, 3) := by decide +kernel
theorem dX12_init_695 : decode cX12_init 695 = .ok (.aload_n 0, 1) := by decide +kernel
theorem dX12_init_696 : decode cX12_init 696 = .ok (.bipush 80, 2) := by decide +kernel
theorem dX12_init_698 : decode cX12_init 698 = .ok (.newarray .int, 2) := by decide +kernel
theorem dX12_init_700 : decode cX12_init 700 = .ok (.putfield 133, 3) := by decide +kernel
theorem dX12_init_703 : decode cX12_init 703 = .ok (.aload_n 0, 1) := by decide +kernel
theorem dX12_init_704 : decode cX12_init 704 = .ok (.sipush 500, 3) := by decide +kernel
theorem dX12_init_707 : decode cX12_init 707 = .ok (.newarray .int, 2) := by decide +kernel
theorem dX12_init_709 : decode cX12_init 709 = .ok (.putfield 136, 3) := by decide +kernel
theorem dX12_init_712 : decode cX12_init 712 = .ok (.aload_n 0, 1) := by decide +kernel
theorem dX12_init_713 : decode cX12_init 713 = .ok (.sipush 500, 3) := by decide +kernel
theorem dX12_init_716 : decode cX12_init 716 = .ok (.newarray .int, 2) := by decide +kernel
theorem dX12_init_718 : decode cX12_init 718 = .ok (.putfield 139, 3) := by decide +kernel
theorem dX12_init_721 : decode cX12_init 721 = .ok (.aload_n 0, 1) := by decide +kernel
theorem dX12_init_722 : decode cX12_init 722 = .ok (.sipush 500, 3) := by decide +kernel
theorem dX12_init_725 : decode cX12_init 725 = .ok (.newarray .int, 2) := by decide +kernel
theorem dX12_init_727 : decode cX12_init 727 = .ok (.putfield 142, 3) := by decide +kernel
theorem dX12_init_730 : decode cX12_init 730 = .ok (.aload_n 0, 1) := by decide +kernel
theorem dX12_init_731 : decode cX12_init 731 = .ok (.sipush 500, 3) := by decide +kernel
theorem dX12_init_734 : decode cX12_init 734 = .ok (.newarray .int, 2) := by decide +kernel
theorem dX12_init_736 : decode cX12_init 736 = .ok (.putfield 145, 3) := by decide +kernel
theorem dX12_init_739 : decode cX12_init 739 = .ok (.aload_n 0, 1) := by decide +kernel
theorem dX12_init_740 : decode cX12_init 740 = .ok (.bipush 8, 2) := by decide +kernel
theorem dX12_init_742 : decode cX12_init 742 = .ok (.newarray .int, 2) := by decide +kernel
theorem dX12_init_744 : decode cX12_init 744 = .ok (.putfield 148, 3) := by decide +kernel
theorem dX12_init_747 : decode cX12_init 747 = .ok (.aload_n 0, 1) := by decide +kernel
theorem dX12_init_748 : decode cX12_init 748 = .ok (.sipush 128, 3) := by decide +kernel
theorem dX12_init_751 : decode cX12_init 751 = .ok (.newarray .boolean, 2) := by decide +kernel
theorem dX12_init_753 : decode cX12_init 753 = .ok (.putfield 151, 3) := by decide +kernel
theorem dX12_init_756 : decode cX12_init 756 = .ok (.aload_n 0, 1) := by decide +kernel
theorem dX12_init_757 : decode cX12_init 757 = .ok (.bipush 11, 2) := by decide +kernel
theorem dX12_init_759 : decode cX12_init 759 = .ok (.newarray .int, 2) := by decide +kernel
theorem dX12_init_761 : decode cX12_init 761 = .ok (.dup, 1) := by decide +kernel
theorem dX12_init_762 : decode cX12_init 762 = .ok (.iconst 0, 1) := by decide +kernel
theorem dX12_init_763 : decode cX12_init 763 = .ok (.iconst (-1), 1) := by decide +kernel
theorem dX12_init_764 : decode cX12_init 764 = .ok (.iastore, 1) := by decide +kernel
theorem dX12_init_765 : decode cX12_init 765 = .ok (.dup, 1) := by decide +kernel
theorem dX12_init_766 : decode cX12_init 766 = .ok (.iconst 1, 1) := by decide +kernel
theorem dX12_init_767 : decode cX12_init 767 = .ok (.iconst (-1), 1) := by decide +kernel
theorem dX12_init_768 : decode cX12_init 768 = .ok (.iastore, 1) := by decide +kernel
theorem dX12_init_769 : decode cX12_init 769 = .ok (.dup, 1) := by decide +kernel
theorem dX12_init_770 : decode cX12_init 770 = .ok (.iconst 2, 1) := by decide +kernel
theorem dX12_init_771 : decode cX12_init 771 = .ok (.iconst (-1), 1) := by decide +kernel
theorem dX12_init_772 : decode cX12_init 772 = .ok (.iastore, 1) := by decide +kernel
theorem dX12_init_773 : decode cX12_init 773 = .ok (.dup, 1) := by decide +kernel
theorem dX12_init_774 : decode cX12_init 774 = .ok (.iconst 3, 1) := by decide +kernel
theorem dX12_init_775 : decode cX12_init 775 = .ok (.iconst (-1), 1) := by decide +kernel
theorem dX12_init_776 : decode cX12_init 776 = .ok (.iastore, 1) := by decide +kernel
theorem dX12_init_777 : decode cX12_init 777 = .ok (.dup, 1) := by decide +kernel
theorem dX12_init_778 : decode cX12_init 778 = .ok (.iconst 4, 1) := by decide +kernel
theorem dX12_init_779 : decode cX12_init 779 = .ok (.iconst (-1), 1) := by decide +kernel
theorem dX12_init_780 : decode cX12_init 780 = .ok (.iastore, 1) := by decide +kernel
theorem dX12_init_781 : decode cX12_init 781 = .ok (.dup, 1) := by decide +kernel
theorem dX12_init_782 : decode cX12_init 782 = .ok (.iconst 5, 1) := by decide +kernel
theorem dX12_init_783 : decode cX12_init 783 = .ok (.iconst (-1), 1) := by decide +kernel
theorem dX12_init_784 : decode cX12_init 784 = .ok (.iastore, 1) := by decide +kernel
theorem dX12_init_785 : decode cX12_init 785 = .ok (.dup, 1) := by decide +kernel
theorem dX12_init_786 : decode cX12_init 786 = .ok (.bipush 6, 2) := by decide +kernel
theorem dX12_init_788 : decode cX12_init 788 = .ok (.iconst (-1), 1) := by decide +kernel
theorem dX12_init_789 : decode cX12_init 789 = .ok (.iastore, 1) := by decide +kernel
theorem dX12_init_790 : decode cX12_init 790 = .ok (.dup, 1) := by decide +kernel
theorem dX12_init_791 : decode cX12_init 791 = .ok (.bipush 7, 2) := by decide +kernel
theorem dX12_init_793 : decode cX12_init 793 = .ok (.iconst (-1), 1) := by decide +kernel
theorem dX12_init_794 : decode cX12_init 794 = .ok (.iastore, 1) := by decide +kernel
theorem dX12_init_795 : decode cX12_init 795 = .ok (.dup, 1) := by decide +kernel
theorem dX12_init_796 : decode cX12_init 796 = .ok (.bipush 8, 2) := by decide +kernel
theorem dX12_init_798 : decode cX12_init 798 = .ok (.iconst (-1), 1) := by decide +kernel
theorem dX12_init_799 : decode cX12_init 799 = .ok (.iastore, 1) := by decide +kernel
theorem dX12_init_800 : decode cX12_init 800 = .ok (.dup, 1) := by decide +kernel
theorem dX12_init_801 : decode cX12_init 801 = .ok (.bipush 9, 2) := by decide +kernel
theorem dX12_init_803 : decode cX12_init 803 = .ok (.iconst (-1), 1) := by decide +kernel
theorem dX12_init_804 : decode cX12_init 804 = .ok (.iastore, 1) := by decide +kernel
theorem dX12_init_805 : decode cX12_init 805 = .ok (.dup, 1) := by decide +kernel
theorem dX12_init_806 : decode cX12_init 806 = .ok (.bipush 10, 2) := by decide +kernel
theorem dX12_init_808 : decode cX12_init 808 = .ok (.iconst (-1), 1) := by decide +kernel
theorem dX12_init_809 : decode cX12_init 809 = .ok (.iastore, 1) := by decide +kernel
theorem dX12_init_810 : decode cX12_init 810 = .ok (.putfield 154, 3) := by decide +kernel
theorem dX12_init_813 : decode cX12_init 813 = .ok (.aload_n 0, 1) := by decide +kernel
theorem dX12_init_814 : decode cX12_init 814 = .ok (.iconst 4, 1) := by decide +kernel
theorem dX12_init_815 : decode cX12_init 815 = .ok (.newarray .int, 2) := by decide +kernel
theorem dX12_init_817 : decode cX12_init 817 = .ok (.putfield 157, 3) := by decide +kernel
theorem dX12_init_820 : decode cX12_init 820 = .ok (.aload_n 0, 1) := by decide +kernel
theorem dX12_init_821 : decode cX12_init 821 = .ok (.iconst 4, 1) := by decide +kernel
theorem dX12_init_822 : decode cX12_init 822 = .ok (.newarray .int, 2) := by decide +kernel
theorem dX12_init_824 : decode cX12_init 824 = .ok (.putfield 160, 3) := by decide +kernel
theorem dX12_init_827 : decode cX12_init 827 = .ok (.aload_n 0, 1) := by decide +kernel
theorem dX12_init_828 : decode cX12_init 828 = .ok (.iconst 4, 1) := by decide +kernel
theorem dX12_init_829 : decode cX12_init 829 = .ok (.newarray .int, 2) := by decide +kernel
theorem dX12_init_831 : decode cX12_init 831 = .ok (.putfield 163, 3) := by decide +kernel
theorem dX12_init_834 : decode cX12_init 834 = .ok (.aload_n 0, 1) := by decide +kernel
theorem dX12_init_835 : decode cX12_init 835 = .ok (.iconst 4, 1) := by decide +kernel
theorem dX12_init_836 : decode cX12_init 836 = .ok (.newarray .int, 2) := by decide +kernel
theorem dX12_init_838 : decode cX12_init 838 = .ok (.putfield 166, 3) := by decide +kernel
theorem dX12_init_841 : decode cX12_init 841 = .ok (.aload_n 0, 1) := by decide +kernel
theorem dX12_init_842 : decode cX12_init 842 = .ok (.bipush 11, 2) := by decide +kernel
theorem dX12_init_844 : decode cX12_init 844 = .ok (.newarray .int, 2) := by decide +kernel
theorem dX12_init_846 : decode cX12_init 846 = .ok (.putfield 169, 3) := by decide +kernel
theorem dX12_init_849 : decode cX12_init 849 = .ok (.aload_n 0, 1) := by decide +kernel
theorem dX12_init_850 : decode cX12_init 850 = .ok (.sipush 220, 3) := by decide +kernel
theorem dX12_init_853 : decode cX12_init 853 = .ok (.newarray .int, 2) := by decide +kernel
theorem dX12_init_855 : decode cX12_init 855 = .ok (.putfield 172, 3) := by decide +kernel
theorem dX12_init_858 : decode cX12_init 858 = .ok (.aload_n 0, 1) := by decide +kernel
theorem dX12_init_859 : decode cX12_init 859 = .ok (.sipush 220, 3) := by decide +kernel
theorem dX12_init_862 : decode cX12_init 862 = .ok (.newarray .int, 2) := by decide +kernel
theorem dX12_init_864 : decode cX12_init 864 = .ok (.putfield 175, 3) := by decide +kernel
theorem dX12_init_867 : decode cX12_init 867 = .ok (.aload_n 0, 1) := by decide +kernel
theorem dX12_init_868 : decode cX12_init 868 = .ok (.sipush 220, 3) := by decide +kernel
theorem dX12_init_871 : decode cX12_init 871 = .ok (.newarray .int, 2) := by decide +kernel
theorem dX12_init_873 : decode cX12_init 873 = .ok (.putfield 178, 3) := by decide +kernel
theorem dX12_init_876 : decode cX12_init 876 = .ok (.aload_n 0, 1) := by decide +kernel
theorem dX12_init_877 : decode cX12_init 877 = .ok (.bipush 11, 2) := by decide +kernel
theorem dX12_init_879 : decode cX12_init 879 = .ok (.newarray .int, 2) := by decide +kernel
theorem dX12_init_881 : decode cX12_init 881 = .ok (.putfield 181, 3) := by decide +kernel
theorem dX12_init_884 : decode cX12_init 884 = .ok (.aload_n 0, 1) := by decide +kernel
theorem dX12_init_885 : decode cX12_init 885 = .ok (.bipush 88, 2) := by decide +kernel
theorem dX12_init_887 : decode cX12_init 887 = .ok (.newarray .int, 2) := by decide +kernel
theorem dX12_init_889 : decode cX12_init 889 = .ok (.putfield 184, 3) := by decide +kernel
theorem dX12_init_892 : decode cX12_init 892 = .ok (.aload_n 0, 1) := by decide +kernel
theorem dX12_init_893 : decode cX12_init 893 = .ok (.bipush 88, 2) := by decide +kernel
theorem dX12_init_895 : decode cX12_init 895 = .ok (.newarray .int, 2) := by decide +kernel
theorem dX12_init_897 : decode cX12_init 897 = .ok (.putfield 187, 3) := by decide +kernel
theorem dX12_init_900 : decode cX12_init 900 = .ok (.aload_n 0, 1) := by decide +kernel
theorem dX12_init_901 : decode cX12_init 901 = .ok (.bipush 36, 2) := by decide +kernel
theorem dX12_init_903 : decode cX12_init 903 = .ok (.newarray .int, 2) := by decide +kernel
theorem dX12_init_905 : decode cX12_init 905 = .ok (.putfield 190, 3) := by decide +kernel
theorem dX12_init_908 : decode cX12_init 908 = .ok (.aload_n 0, 1) := by decide +kernel
theorem dX12_init_909 : decode cX12_init 909 = .ok (.bipush 36, 2) := by decide +kernel
theorem dX12_init_911 : decode cX12_init 911 = .ok (.newarray .int, 2) := by decide +kernel
theorem dX12_init_913 : decode cX12_init 913 = .ok (.putfield 193, 3) := by decide +kernel
theorem dX12_init_916 : decode cX12_init 916 = .ok (.aload_n 0, 1) := by decide +kernel
theorem dX12_init_917 : decode cX12_init 917 = .ok (.bipush 10, 2) := by decide +kernel
theorem dX12_init_919 : decode cX12_init 919 = .ok (.newarray .int, 2) := by decide +kernel
theorem dX12_init_921 : decode cX12_init 921 = .ok (.putfield 196, 3) := by decide +kernel
theorem dX12_init_924 : decode cX12_init 924 = .ok (.aload_n 0, 1) := by decide +kernel
theorem dX12_init_925 : decode cX12_init 925 = .ok (.bipush 10, 2) := by decide +kernel
theorem dX12_init_927 : decode cX12_init 927 = .ok (.newarray .int, 2) := by decide +kernel
theorem dX12_init_929 : decode cX12_init 929 = .ok (.putfield 199, 3) := by decide +kernel
theorem dX12_init_932 : decode cX12_init 932 = .ok (.aload_n 0, 1) := by decide +kernel
theorem dX12_init_933 : decode cX12_init 933 = .ok (.bipush 10, 2) := by decide +kernel
theorem dX12_init_935 : decode cX12_init 935 = .ok (.newarray .int, 2) := by decide +kernel
theorem dX12_init_937 : decode cX12_init 937 = .ok (.putfield 202, 3) := by decide +kernel
theorem dX12_init_940 : decode cX12_init 940 = .ok (.aload_n 0, 1) := by decide +kernel
theorem dX12_init_941 : decode cX12_init 941 = .ok (.bipush 10, 2) := by decide +kernel
theorem dX12_init_943 : decode cX12_init 943 = .ok (.newarray .int, 2) := by decide +kernel
theorem dX12_init_945 : decode cX12_init 945 = .ok (.putfield 205, 3) := by decide +kernel
theorem dX12_init_948 : decode cX12_init 948 = .ok (.aload_n 0, 1) := by decide +kernel
theorem dX12_init_949 : decode cX12_init 949 = .ok (.bipush 10, 2) := by decide +kernel
theorem dX12_init_951 : decode cX12_init 951 = .ok (.newarray .int, 2) := by decide +kernel
theorem dX12_init_953 : decode cX12_init 953 = .ok (.putfield 208, 3) := by decide +kernel
theorem dX12_init_956 : decode cX12_init 956 = .ok (.return_, 1) := by decide +kernel
theorem dX12_in_0 : decode cX12_in 0 = .ok (.iload_n 0, 1) := by decide +kernel
theorem dX12_in_1 : decode cX12_in 1 = .ok (.iload_n 1, 1) := by decide +kernel
theorem dX12_in_2 : decode cX12_in 2 = .ok (.if_icmp .lt 12, 3) := by decide +kernel
theorem dX12_in_5 : decode cX12_in 5 = .ok (.iload_n 0, 1) := by decide +kernel
theorem dX12_in_6 : decode cX12_in 6 = .ok (.iload_n 2, 1) := by decide +kernel
theorem dX12_in_7 : decode cX12_in 7 = .ok (.if_icmp .gt 7, 3) := by decide +kernel
theorem dX12_in_10 : decode cX12_in 10 = .ok (.iconst 1, 1) := by decide +kernel
theorem dX12_in_11 : decode cX12_in 11 = .ok (.goto 4, 3) := by decide +kernel
theorem dX12_in_14 : decode cX12_in 14 = .ok (.iconst 0, 1) := by decide +kernel
theorem dX12_in_15 : decode cX12_in 15 = .ok (.ireturn, 1) := by decide +kernel
theorem dX12_isHour_0 : decode cX12_isHour 0 = .ok (.iload_n 0, 1) := by decide +kernel
theorem dX12_isHour_1 : decode cX12_isHour 1 = .ok (.iconst 0, 1) := by decide +kernel
theorem dX12_isHour_2 : decode cX12_isHour 2 = .ok (.sipush 2399, 3) := by decide +kernel
theorem dX12_isHour_5 : decode cX12_isHour 5 = .ok (.invokestatic 211, 3) := by decide +kernel
theorem dX12_isHour_8 : decode cX12_isHour 8 = .ok (.ireturn, 1) := by decide +kernel
theorem dX12_isDay_0 : decode cX12_isDay 0 = .ok (.iload_n 0, 1) := by decide +kernel
theorem dX12_isDay_1 : decode cX12_isDay 1 = .ok (.iconst 0, 1) := by decide +kernel
theorem dX12_isDay_2 : decode cX12_isDay 2 = .ok (.bipush 99, 2) := by decide +kernel
theorem dX12_isDay_4 : decode cX12_isDay 4 = .ok (.invokestatic 211, 3) := by decide +kernel
theorem dX12_isDay_7 : decode cX12_isDay 7 = .ok (.ireturn, 1) := by decide +kernel
theorem dJ7_fill_53178_0 : decode cJ7_fill_53178 0 = .ok (.iconst 0, 1) := by decide +kernel
theorem dJ7_fill_53178_1 : decode cJ7_fill_53178 1 = .ok (.istore_n 2, 1) := by decide +kernel
theorem dJ7_fill_53178_2 : decode cJ7_fill_53178 2 = .ok (.aload_n 0, 1) := by decide +kernel
theorem dJ7_fill_53178_3 : decode cJ7_fill_53178 3 = .ok (.arraylength, 1) := by decide +kernel
theorem dJ7_fill_53178_4 : decode cJ7_fill_53178 4 = .ok (.istore_n 3, 1) := by decide +kernel
theorem dJ7_fill_53178_5 : decode cJ7_fill_53178 5 = .ok (.iload_n 2, 1) := by decide +kernel
theorem dJ7_fill_53178_6 : decode cJ7_fill_53178 6 = .ok (.iload_n 3, 1) := by decide +kernel
theorem dJ7_fill_53178_7 : decode cJ7_fill_53178 7 = .ok (.if_icmp .ge 13, 3) := by decide +kernel
theorem dJ7_fill_53178_10 : decode cJ7_fill_53178 10 = .ok (.aload_n 0, 1) := by decide +kernel
theorem dJ7_fill_53178_11 : decode cJ7_fill_53178 11 = .ok (.iload_n 2, 1) := by decide +kernel
theorem dJ7_fill_53178_12 : decode cJ7_fill_53178 12 = .ok (.iload_n 1, 1) := by decide +kernel
theorem dJ7_fill_53178_13 : decode cJ7_fill_53178 13 = .ok (.iastore, 1) := by decide +kernel
theorem dJ7_fill_53178_14 : decode cJ7_fill_53178 14 = .ok (.iinc 2 1, 3) := by decide +kernel
theorem dJ7_fill_53178_17 : decode cJ7_fill_53178 17 = .ok (.goto (-12), 3) := by decide +kernel
theorem dJ7_fill_53178_20 : decode cJ7_fill_53178 20 = .ok (.return_, 1) := by decide +kernel
end
section

def fX (r : Nat → Nat) (now ch : Int32) : List Value := [.ref (r 1), .ref (r 2), .ref (r 3), .ref (r 4), .ref (r 5), .ref (r 6), .ref (r 7), .ref (r 8), .ref (r 9), .null, .int 0, .int 0, .int 0, .int now, .int 8, .int ch]
def fTd (r : Nat → Nat) : List Value := [.ref (r 20), .ref (r 21), .int 0]
def fWv (r : Nat → Nat) : List Value := [.ref (r 22), .ref (r 23), .ref (r 24), .ref (r 25), .int 0, .int 100, .int 150]
def fRd (r : Nat → Nat) (len : Int32) : List Value := [.ref (r 26), .int len, .int 0, .int 0, .ref (r 27), .int 0, .int 0, .int 0, .int 0]
def fSm (r : Nat → Nat) : List Value := [.ref (r 28), .ref (r 29), .ref (r 30), .ref (r 31), .int 0]
def fM (r : Nat → Nat) (now tp : Int32) : List Value := [.int now, .int 0, .ref (r 3), .ref (r 4), .int 0, .ref (r 6), .ref (r 7), .ref (r 8), .ref (r 9), .ref (r 10), .int 0, .ref (r 12), .ref (r 13), .ref (r 14), .ref (r 15), .ref (r 16), .ref (r 17), .ref (r 18), .ref (r 19), .ref (r 20), .ref (r 21), .ref (r 22), .ref (r 23), .ref (r 24), .ref (r 25), .ref (r 26), .ref (r 27), .ref (r 28), .ref (r 29), .ref (r 30), .ref (r 31), .ref (r 32), .ref (r 33), .int 0, .long 0, .int 0, .int 0, .int 0, .ref (r 39), .ref (r 40), .ref (r 41), .int 0, .int 0, .int 0, .ref (r 45), .int tp, .int 0, .int 0, .int 0, .ref (r 50), .int 0, .int 0, .int 0, .ref (r 54), .ref (r 55), .ref (r 56), .int 0, .int 0, .ref (r 59), .ref (r 60), .ref (r 61), .ref (r 62), .int 0, .ref (r 64), .ref (r 65), .ref (r 66), .ref (r 67), .ref (r 68), .ref (r 69), .ref (r 70), .int 0, .ref (r 72), .ref (r 73), .ref (r 74), .ref (r 75), .ref (r 76), .ref (r 77), .ref (r 78), .ref (r 79), .ref (r 80), .ref (r 81), .ref (r 82), .int 0, .int 0, .ref (r 85), .ref (r 86), .int 0, .ref (r 88), .ref (r 89), .ref (r 90), .ref (r 91), .ref (r 92)]
def setF : Nat → Int32 := upd (upd (upd (fun _ => 0) (Int32.toNatClampNeg 0) 100) (Int32.toNatClampNeg 1) 150) (Int32.toNatClampNeg 2) 8

def f_so (w : Int32) : Int32 := if w = 0 then 100 else if w = 1 then 150 else 8
theorem setF_at {w : Int32} (h : 0 ≤ w ∧ w ≤ 2) : setF w.toNatClampNeg = f_so w := by
  obtain ⟨j, hj, rfl⟩ := vp_in_of (vin_le (n := 3) h (by decide)) (by decide)
  match j, hj with
  | 0, _ => decide
  | 1, _ => decide
  | 2, _ => decide
def f_takes (t v : Int32) : Int32 := if 0 ≤ t.toInt ∧ t.toInt ≤ 14399 ∧ -500 ≤ v.toInt ∧ v.toInt ≤ 900 then 1 else 0
def f_turn (t v : Int32) : Int32 := if 0 ≤ t.toInt ∧ t.toInt ≤ 14399 ∧ -500 ≤ v.toInt ∧ v.toInt ≤ 900 then 1 else -1
theorem takes_c {t v r : Int32} (h : r = f_takes t v) : ((0 ≤ t.toInt ∧ t.toInt ≤ 14399 ∧ -500 ≤ v.toInt ∧ v.toInt ≤ 900) ∧ r = 1) ∨ (¬ (0 ≤ t.toInt ∧ t.toInt ≤ 14399 ∧ -500 ≤ v.toInt ∧ v.toInt ≤ 900) ∧ r = 0) := by
  unfold f_takes at h
  by_cases q : 0 ≤ t.toInt ∧ t.toInt ≤ 14399 ∧ -500 ≤ v.toInt ∧ v.toInt ≤ 900
  · exact Or.inl ⟨q, by rw [h, if_pos q]⟩
  · exact Or.inr ⟨q, by rw [h, if_neg q]⟩
def f_sea (t : Int32) : Int32 := if 0 ≤ t.toInt ∧ t.toInt ≤ 14399 then 0 else -1000
def f_wave (h x : Int32) : Int32 := if 0 ≤ h.toInt ∧ h.toInt ≤ 240 ∧ 0 ≤ x.toInt ∧ x.toInt ≤ 500 then 1 else -1
def f_waved (h k : Int32) : Int32 := if 0 ≤ h.toInt ∧ h.toInt ≤ 2399 ∧ 0 ≤ k.toInt ∧ k.toInt ≤ 2399 then 100 else -1
def f_set (w v : Int32) : Int32 := if 0 ≤ w.toInt ∧ w.toInt ≤ 2 ∧ 0 ≤ v.toInt ∧ v.toInt ≤ 500 ∧ (¬ w.toInt = 2 ∨ (1 ≤ v.toInt ∧ v.toInt ≤ 24)) then f_so w else -1
def f_pool (a f w s sl ov d : Int32) : Int32 := if 1 ≤ a.toInt ∧ a.toInt ≤ 2000 ∧ -300 ≤ f.toInt ∧ f.toInt ≤ 800 ∧ f.toInt < w.toInt ∧ w.toInt ≤ 900 ∧ f.toInt ≤ s.toInt ∧ s.toInt ≤ w.toInt ∧ 0 ≤ sl.toInt ∧ sl.toInt ≤ 100 ∧ 0 ≤ ov.toInt ∧ ov.toInt ≤ 100 ∧ 0 ≤ d.toInt ∧ d.toInt ≤ w.toInt - f.toInt then 0 else -1
def f_pass (n : Int32) : Int32 := if 1 ≤ n.toInt ∧ n.toInt ≤ 288 then n else -1
def f_end (n : Int32) : Int32 := if n.toInt = 0 then 0 else -1
def f_count (w : Int32) : Int32 := if w = 8 then 100 else if w = 9 then 150 else if w = 10 then 8 else if 0 ≤ w.toInt ∧ w.toInt ≤ 7 then 0 else -1
set_option maxHeartbeats 4000000 in
set_option maxRecDepth 100000 in
/-- lo ≤ v ≤ hi -/
theorem c_X11_within (l : Launch) (D : va_G) (c : Nat → ClassId) (sz : Nat) (v : Int32) (lo : Int32) (hi : Int32) : Met l yX11_within (.code yX11_within cX11_within 3 (some .boolean) :: Wd) ({ frames := 0, cells := 0, slots := 0, locals := 0 }) (va_Pc [.int v, .int lo, .int hi] (WB D c [] sz)) (QI (S := Unit) D c (fun q _ => q = inB v lo hi) (fun _ => []) (va_A [] sz)) 0 0 (va_A [] sz) := by
  refine kz_met (Qc := QI (S := Unit) D c (fun q _ => q = inB v lo hi) (fun _ => [])) (by decide) (Nat.le_of_ble_eq_true rfl) ?_
  intro p e s m below meth cd A ls H hx hb hr hml hts hown hlocks hin hN hO hK hP hD hS hA hl
  have hl : lv_has ls 3 [(0, .int v), (1, .int lo), (2, .int hi)] := hl
  have hown : s.vm.findClass RX11 = some m.cls := hown
  refine lv_iload_n hx hb dX11_within_0 rfl (lv_at hl 0 rfl) ?_
  refine lv_iload_n hx hb dX11_within_1 rfl (lv_at hl 1 rfl) ?_
  refine lv_icmp_lt (tgt := 14) hx hb dX11_within_2 (by decide) (fun c1 => ?_) (fun c1 => ?_)
  · refine lv_iconst (v := 0) hx hb dX11_within_14 (by decide) ?_
    exact rt_i hx hb hr hlocks hK hP hD hS rfl dX11_within_15 () [] rfl rfl (by show (0 : Int32) = _; unfold inB; (try simp only [Int32.le_iff_toInt_le, Int32.reduceToInt]); (try simp only [Int32.le_iff_toInt_le, Int32.lt_iff_toInt_lt, ← Int32.toInt_inj, Int32.reduceToInt] at c1); first | (rw [if_pos (by omega)]; done) | (rw [if_neg (by omega)]; done) | (rw [if_pos (by omega)]; exact Int32.toInt_inj.mp (by (try simp only [Int32.reduceToInt]); omega)))
  · refine lv_iload_n hx hb dX11_within_5 rfl (lv_at hl 0 rfl) ?_
    refine lv_iload_n hx hb dX11_within_6 rfl (lv_at hl 2 rfl) ?_
    refine lv_icmp_gt (tgt := 14) hx hb dX11_within_7 (by decide) (fun c2 => ?_) (fun c2 => ?_)
    · refine lv_iconst (v := 0) hx hb dX11_within_14 (by decide) ?_
      exact rt_i hx hb hr hlocks hK hP hD hS rfl dX11_within_15 () [] rfl rfl (by show (0 : Int32) = _; unfold inB; (try simp only [Int32.le_iff_toInt_le, Int32.reduceToInt]); (try simp only [Int32.le_iff_toInt_le, Int32.lt_iff_toInt_lt, ← Int32.toInt_inj, Int32.reduceToInt] at c1); (try simp only [Int32.le_iff_toInt_le, Int32.lt_iff_toInt_lt, ← Int32.toInt_inj, Int32.reduceToInt] at c2); first | (rw [if_pos (by omega)]; done) | (rw [if_neg (by omega)]; done) | (rw [if_pos (by omega)]; exact Int32.toInt_inj.mp (by (try simp only [Int32.reduceToInt]); omega)))
    · refine lv_iconst (v := 1) hx hb dX11_within_10 (by decide) ?_
      refine lv_goto (tgt := 15) hx hb dX11_within_11 (by decide) ?_
      exact rt_i hx hb hr hlocks hK hP hD hS rfl dX11_within_15 () [] rfl rfl (by show (1 : Int32) = _; unfold inB; (try simp only [Int32.le_iff_toInt_le, Int32.reduceToInt]); (try simp only [Int32.le_iff_toInt_le, Int32.lt_iff_toInt_lt, ← Int32.toInt_inj, Int32.reduceToInt] at c1); (try simp only [Int32.le_iff_toInt_le, Int32.lt_iff_toInt_lt, ← Int32.toInt_inj, Int32.reduceToInt] at c2); first | (rw [if_pos (by omega)]; done) | (rw [if_neg (by omega)]; done) | (rw [if_pos (by omega)]; exact Int32.toInt_inj.mp (by (try simp only [Int32.reduceToInt]); omega)))
set_option maxHeartbeats 4000000 in
set_option maxRecDepth 100000 in
/-- lo ≤ v ≤ hi -/
theorem c_X12_in (l : Launch) (D : va_G) (c : Nat → ClassId) (sz : Nat) (v : Int32) (lo : Int32) (hi : Int32) : Met l yX12_in (.code yX12_in cX12_in 3 (some .boolean) :: Wd) ({ frames := 0, cells := 0, slots := 0, locals := 0 }) (va_Pc [.int v, .int lo, .int hi] (WB D c [] sz)) (QI (S := Unit) D c (fun q _ => q = inB v lo hi) (fun _ => []) (va_A [] sz)) 0 0 (va_A [] sz) := by
  refine kz_met (Qc := QI (S := Unit) D c (fun q _ => q = inB v lo hi) (fun _ => [])) (by decide) (Nat.le_of_ble_eq_true rfl) ?_
  intro p e s m below meth cd A ls H hx hb hr hml hts hown hlocks hin hN hO hK hP hD hS hA hl
  have hl : lv_has ls 3 [(0, .int v), (1, .int lo), (2, .int hi)] := hl
  have hown : s.vm.findClass RX12 = some m.cls := hown
  refine lv_iload_n hx hb dX12_in_0 rfl (lv_at hl 0 rfl) ?_
  refine lv_iload_n hx hb dX12_in_1 rfl (lv_at hl 1 rfl) ?_
  refine lv_icmp_lt (tgt := 14) hx hb dX12_in_2 (by decide) (fun c1 => ?_) (fun c1 => ?_)
  · refine lv_iconst (v := 0) hx hb dX12_in_14 (by decide) ?_
    exact rt_i hx hb hr hlocks hK hP hD hS rfl dX12_in_15 () [] rfl rfl (by show (0 : Int32) = _; unfold inB; (try simp only [Int32.le_iff_toInt_le, Int32.reduceToInt]); (try simp only [Int32.le_iff_toInt_le, Int32.lt_iff_toInt_lt, ← Int32.toInt_inj, Int32.reduceToInt] at c1); first | (rw [if_pos (by omega)]; done) | (rw [if_neg (by omega)]; done) | (rw [if_pos (by omega)]; exact Int32.toInt_inj.mp (by (try simp only [Int32.reduceToInt]); omega)))
  · refine lv_iload_n hx hb dX12_in_5 rfl (lv_at hl 0 rfl) ?_
    refine lv_iload_n hx hb dX12_in_6 rfl (lv_at hl 2 rfl) ?_
    refine lv_icmp_gt (tgt := 14) hx hb dX12_in_7 (by decide) (fun c2 => ?_) (fun c2 => ?_)
    · refine lv_iconst (v := 0) hx hb dX12_in_14 (by decide) ?_
      exact rt_i hx hb hr hlocks hK hP hD hS rfl dX12_in_15 () [] rfl rfl (by show (0 : Int32) = _; unfold inB; (try simp only [Int32.le_iff_toInt_le, Int32.reduceToInt]); (try simp only [Int32.le_iff_toInt_le, Int32.lt_iff_toInt_lt, ← Int32.toInt_inj, Int32.reduceToInt] at c1); (try simp only [Int32.le_iff_toInt_le, Int32.lt_iff_toInt_lt, ← Int32.toInt_inj, Int32.reduceToInt] at c2); first | (rw [if_pos (by omega)]; done) | (rw [if_neg (by omega)]; done) | (rw [if_pos (by omega)]; exact Int32.toInt_inj.mp (by (try simp only [Int32.reduceToInt]); omega)))
    · refine lv_iconst (v := 1) hx hb dX12_in_10 (by decide) ?_
      refine lv_goto (tgt := 15) hx hb dX12_in_11 (by decide) ?_
      exact rt_i hx hb hr hlocks hK hP hD hS rfl dX12_in_15 () [] rfl rfl (by show (1 : Int32) = _; unfold inB; (try simp only [Int32.le_iff_toInt_le, Int32.reduceToInt]); (try simp only [Int32.le_iff_toInt_le, Int32.lt_iff_toInt_lt, ← Int32.toInt_inj, Int32.reduceToInt] at c1); (try simp only [Int32.le_iff_toInt_le, Int32.lt_iff_toInt_lt, ← Int32.toInt_inj, Int32.reduceToInt] at c2); first | (rw [if_pos (by omega)]; done) | (rw [if_neg (by omega)]; done) | (rw [if_pos (by omega)]; exact Int32.toInt_inj.mp (by (try simp only [Int32.reduceToInt]); omega)))
set_option maxHeartbeats 4000000 in
set_option maxRecDepth 100000 in
/-- X11_isHour -/
theorem c_X11_isHour (l : Launch) (D : va_G) (c : Nat → ClassId) (sz : Nat) (v : Int32) : Met l yX11_isHour (.code yX11_isHour cX11_isHour 1 (some .boolean) :: Wd) ({ frames := 1, cells := 0, slots := 0, locals := 22 }) (va_Pc [.int v] (WB D c [] sz)) (QI (S := Unit) D c (fun q _ => q = inB v 0 2399) (fun _ => []) (va_A [] sz)) 0 0 (va_A [] sz) := by
  refine kz_met (Qc := QI (S := Unit) D c (fun q _ => q = inB v 0 2399) (fun _ => [])) (by decide) (Nat.le_of_ble_eq_true rfl) ?_
  intro p e s m below meth cd A ls H hx hb hr hml hts hown hlocks hin hN hO hK hP hD hS hA hl
  have hl : lv_has ls 1 [(0, .int v)] := hl
  have hown : s.vm.findClass RX11 = some m.cls := hown
  refine lv_iload_n hx hb dX11_isHour_0 rfl (lv_at hl 0 rfl) ?_
  refine lv_iconst (v := 0) hx hb dX11_isHour_1 (by decide) ?_
  refine lv_sipush (v := 2399) hx hb dX11_isHour_2 (by decide) ?_
  have hPc := hP.sub (ws' := []) [] rfl
  have hDc := hD.sub (ws' := []) [] (by decide) rfl
  refine cl_i (wr := []) (va_runS (As := [.int v, .int 0, .int 2399]) (rest := []) ⟨hx, hb, hml, hown, hts⟩ (c_X11_within l D c H.size v 0 2399) (kw_S 3 hts wd_347 wd_331 wd_83 wd_332 rfl rfl (by decide +kernel) ⟨Nat.le_of_ble_eq_true rfl, Nat.le_of_ble_eq_true rfl⟩) (pre_S hPc hK hDc hN hO) rfl rfl hl.1 rfl (lv_room (Nat.le_of_ble_eq_true rfl)) dX11_isHour_5 ⟨Nat.le_of_ble_eq_true rfl, Nat.le_of_ble_eq_true rfl⟩) hP hD hS hA [] [] rfl rfl (by decide) (by decide) (fun r1 u2 H locs h3 hP hD hS => ?_)
  have hP : va_P D vwCl [] H := hP
  have hD : va_D A [] := hD
  rcases inB_c h3 with ⟨h4, rfl⟩ | ⟨h4, rfl⟩
  · exact rt_i hx hb hr hlocks hK hP hD hS rfl dX11_isHour_8 () [] rfl rfl (by show (1 : Int32) = _; unfold inB; (try simp only [Int32.le_iff_toInt_le, Int32.reduceToInt]); (try simp only [Int32.le_iff_toInt_le, Int32.lt_iff_toInt_lt, ← Int32.toInt_inj, Int32.reduceToInt] at h4); first | (rw [if_pos (by omega)]; done) | (rw [if_neg (by omega)]; done) | (rw [if_pos (by omega)]; exact Int32.toInt_inj.mp (by (try simp only [Int32.reduceToInt]); omega)))
  · exact rt_i hx hb hr hlocks hK hP hD hS rfl dX11_isHour_8 () [] rfl rfl (by show (0 : Int32) = _; unfold inB; (try simp only [Int32.le_iff_toInt_le, Int32.reduceToInt]); (try simp only [Int32.le_iff_toInt_le, Int32.lt_iff_toInt_lt, ← Int32.toInt_inj, Int32.reduceToInt] at h4); first | (rw [if_pos (by omega)]; done) | (rw [if_neg (by omega)]; done) | (rw [if_pos (by omega)]; exact Int32.toInt_inj.mp (by (try simp only [Int32.reduceToInt]); omega)))
set_option maxHeartbeats 4000000 in
set_option maxRecDepth 100000 in
/-- X11_isDay -/
theorem c_X11_isDay (l : Launch) (D : va_G) (c : Nat → ClassId) (sz : Nat) (v : Int32) : Met l yX11_isDay (.code yX11_isDay cX11_isDay 1 (some .boolean) :: Wd) ({ frames := 1, cells := 0, slots := 0, locals := 22 }) (va_Pc [.int v] (WB D c [] sz)) (QI (S := Unit) D c (fun q _ => q = inB v 0 99) (fun _ => []) (va_A [] sz)) 0 0 (va_A [] sz) := by
  refine kz_met (Qc := QI (S := Unit) D c (fun q _ => q = inB v 0 99) (fun _ => [])) (by decide) (Nat.le_of_ble_eq_true rfl) ?_
  intro p e s m below meth cd A ls H hx hb hr hml hts hown hlocks hin hN hO hK hP hD hS hA hl
  have hl : lv_has ls 1 [(0, .int v)] := hl
  have hown : s.vm.findClass RX11 = some m.cls := hown
  refine lv_iload_n hx hb dX11_isDay_0 rfl (lv_at hl 0 rfl) ?_
  refine lv_iconst (v := 0) hx hb dX11_isDay_1 (by decide) ?_
  refine lv_bipush (v := 99) hx hb dX11_isDay_2 (by decide) ?_
  have hPc := hP.sub (ws' := []) [] rfl
  have hDc := hD.sub (ws' := []) [] (by decide) rfl
  refine cl_i (wr := []) (va_runS (As := [.int v, .int 0, .int 99]) (rest := []) ⟨hx, hb, hml, hown, hts⟩ (c_X11_within l D c H.size v 0 99) (kw_S 3 hts wd_347 wd_331 wd_83 wd_332 rfl rfl (by decide +kernel) ⟨Nat.le_of_ble_eq_true rfl, Nat.le_of_ble_eq_true rfl⟩) (pre_S hPc hK hDc hN hO) rfl rfl hl.1 rfl (lv_room (Nat.le_of_ble_eq_true rfl)) dX11_isDay_4 ⟨Nat.le_of_ble_eq_true rfl, Nat.le_of_ble_eq_true rfl⟩) hP hD hS hA [] [] rfl rfl (by decide) (by decide) (fun r1 u2 H locs h3 hP hD hS => ?_)
  have hP : va_P D vwCl [] H := hP
  have hD : va_D A [] := hD
  rcases inB_c h3 with ⟨h4, rfl⟩ | ⟨h4, rfl⟩
  · exact rt_i hx hb hr hlocks hK hP hD hS rfl dX11_isDay_7 () [] rfl rfl (by show (1 : Int32) = _; unfold inB; (try simp only [Int32.le_iff_toInt_le, Int32.reduceToInt]); (try simp only [Int32.le_iff_toInt_le, Int32.lt_iff_toInt_lt, ← Int32.toInt_inj, Int32.reduceToInt] at h4); first | (rw [if_pos (by omega)]; done) | (rw [if_neg (by omega)]; done) | (rw [if_pos (by omega)]; exact Int32.toInt_inj.mp (by (try simp only [Int32.reduceToInt]); omega)))
  · exact rt_i hx hb hr hlocks hK hP hD hS rfl dX11_isDay_7 () [] rfl rfl (by show (0 : Int32) = _; unfold inB; (try simp only [Int32.le_iff_toInt_le, Int32.reduceToInt]); (try simp only [Int32.le_iff_toInt_le, Int32.lt_iff_toInt_lt, ← Int32.toInt_inj, Int32.reduceToInt] at h4); first | (rw [if_pos (by omega)]; done) | (rw [if_neg (by omega)]; done) | (rw [if_pos (by omega)]; exact Int32.toInt_inj.mp (by (try simp only [Int32.reduceToInt]); omega)))
set_option maxHeartbeats 4000000 in
set_option maxRecDepth 100000 in
/-- X12_isHour -/
theorem c_X12_isHour (l : Launch) (D : va_G) (c : Nat → ClassId) (sz : Nat) (v : Int32) : Met l yX12_isHour (.code yX12_isHour cX12_isHour 1 (some .boolean) :: Wd) ({ frames := 1, cells := 0, slots := 0, locals := 22 }) (va_Pc [.int v] (WB D c [] sz)) (QI (S := Unit) D c (fun q _ => q = inB v 0 2399) (fun _ => []) (va_A [] sz)) 0 0 (va_A [] sz) := by
  refine kz_met (Qc := QI (S := Unit) D c (fun q _ => q = inB v 0 2399) (fun _ => [])) (by decide) (Nat.le_of_ble_eq_true rfl) ?_
  intro p e s m below meth cd A ls H hx hb hr hml hts hown hlocks hin hN hO hK hP hD hS hA hl
  have hl : lv_has ls 1 [(0, .int v)] := hl
  have hown : s.vm.findClass RX12 = some m.cls := hown
  refine lv_iload_n hx hb dX12_isHour_0 rfl (lv_at hl 0 rfl) ?_
  refine lv_iconst (v := 0) hx hb dX12_isHour_1 (by decide) ?_
  refine lv_sipush (v := 2399) hx hb dX12_isHour_2 (by decide) ?_
  have hPc := hP.sub (ws' := []) [] rfl
  have hDc := hD.sub (ws' := []) [] (by decide) rfl
  refine cl_i (wr := []) (va_runS (As := [.int v, .int 0, .int 2399]) (rest := []) ⟨hx, hb, hml, hown, hts⟩ (c_X12_in l D c H.size v 0 2399) (kw_S 3 hts wd_1407 wd_1408 wd_90 wd_1409 rfl rfl (by decide +kernel) ⟨Nat.le_of_ble_eq_true rfl, Nat.le_of_ble_eq_true rfl⟩) (pre_S hPc hK hDc hN hO) rfl rfl hl.1 rfl (lv_room (Nat.le_of_ble_eq_true rfl)) dX12_isHour_5 ⟨Nat.le_of_ble_eq_true rfl, Nat.le_of_ble_eq_true rfl⟩) hP hD hS hA [] [] rfl rfl (by decide) (by decide) (fun r1 u2 H locs h3 hP hD hS => ?_)
  have hP : va_P D vwCl [] H := hP
  have hD : va_D A [] := hD
  rcases inB_c h3 with ⟨h4, rfl⟩ | ⟨h4, rfl⟩
  · exact rt_i hx hb hr hlocks hK hP hD hS rfl dX12_isHour_8 () [] rfl rfl (by show (1 : Int32) = _; unfold inB; (try simp only [Int32.le_iff_toInt_le, Int32.reduceToInt]); (try simp only [Int32.le_iff_toInt_le, Int32.lt_iff_toInt_lt, ← Int32.toInt_inj, Int32.reduceToInt] at h4); first | (rw [if_pos (by omega)]; done) | (rw [if_neg (by omega)]; done) | (rw [if_pos (by omega)]; exact Int32.toInt_inj.mp (by (try simp only [Int32.reduceToInt]); omega)))
  · exact rt_i hx hb hr hlocks hK hP hD hS rfl dX12_isHour_8 () [] rfl rfl (by show (0 : Int32) = _; unfold inB; (try simp only [Int32.le_iff_toInt_le, Int32.reduceToInt]); (try simp only [Int32.le_iff_toInt_le, Int32.lt_iff_toInt_lt, ← Int32.toInt_inj, Int32.reduceToInt] at h4); first | (rw [if_pos (by omega)]; done) | (rw [if_neg (by omega)]; done) | (rw [if_pos (by omega)]; exact Int32.toInt_inj.mp (by (try simp only [Int32.reduceToInt]); omega)))
set_option maxHeartbeats 4000000 in
set_option maxRecDepth 100000 in
/-- X12_isDay -/
theorem c_X12_isDay (l : Launch) (D : va_G) (c : Nat → ClassId) (sz : Nat) (v : Int32) : Met l yX12_isDay (.code yX12_isDay cX12_isDay 1 (some .boolean) :: Wd) ({ frames := 1, cells := 0, slots := 0, locals := 22 }) (va_Pc [.int v] (WB D c [] sz)) (QI (S := Unit) D c (fun q _ => q = inB v 0 99) (fun _ => []) (va_A [] sz)) 0 0 (va_A [] sz) := by
  refine kz_met (Qc := QI (S := Unit) D c (fun q _ => q = inB v 0 99) (fun _ => [])) (by decide) (Nat.le_of_ble_eq_true rfl) ?_
  intro p e s m below meth cd A ls H hx hb hr hml hts hown hlocks hin hN hO hK hP hD hS hA hl
  have hl : lv_has ls 1 [(0, .int v)] := hl
  have hown : s.vm.findClass RX12 = some m.cls := hown
  refine lv_iload_n hx hb dX12_isDay_0 rfl (lv_at hl 0 rfl) ?_
  refine lv_iconst (v := 0) hx hb dX12_isDay_1 (by decide) ?_
  refine lv_bipush (v := 99) hx hb dX12_isDay_2 (by decide) ?_
  have hPc := hP.sub (ws' := []) [] rfl
  have hDc := hD.sub (ws' := []) [] (by decide) rfl
  refine cl_i (wr := []) (va_runS (As := [.int v, .int 0, .int 99]) (rest := []) ⟨hx, hb, hml, hown, hts⟩ (c_X12_in l D c H.size v 0 99) (kw_S 3 hts wd_1407 wd_1408 wd_90 wd_1409 rfl rfl (by decide +kernel) ⟨Nat.le_of_ble_eq_true rfl, Nat.le_of_ble_eq_true rfl⟩) (pre_S hPc hK hDc hN hO) rfl rfl hl.1 rfl (lv_room (Nat.le_of_ble_eq_true rfl)) dX12_isDay_4 ⟨Nat.le_of_ble_eq_true rfl, Nat.le_of_ble_eq_true rfl⟩) hP hD hS hA [] [] rfl rfl (by decide) (by decide) (fun r1 u2 H locs h3 hP hD hS => ?_)
  have hP : va_P D vwCl [] H := hP
  have hD : va_D A [] := hD
  rcases inB_c h3 with ⟨h4, rfl⟩ | ⟨h4, rfl⟩
  · exact rt_i hx hb hr hlocks hK hP hD hS rfl dX12_isDay_7 () [] rfl rfl (by show (1 : Int32) = _; unfold inB; (try simp only [Int32.le_iff_toInt_le, Int32.reduceToInt]); (try simp only [Int32.le_iff_toInt_le, Int32.lt_iff_toInt_lt, ← Int32.toInt_inj, Int32.reduceToInt] at h4); first | (rw [if_pos (by omega)]; done) | (rw [if_neg (by omega)]; done) | (rw [if_pos (by omega)]; exact Int32.toInt_inj.mp (by (try simp only [Int32.reduceToInt]); omega)))
  · exact rt_i hx hb hr hlocks hK hP hD hS rfl dX12_isDay_7 () [] rfl rfl (by show (0 : Int32) = _; unfold inB; (try simp only [Int32.le_iff_toInt_le, Int32.reduceToInt]); (try simp only [Int32.le_iff_toInt_le, Int32.lt_iff_toInt_lt, ← Int32.toInt_inj, Int32.reduceToInt] at h4); first | (rw [if_pos (by omega)]; done) | (rw [if_neg (by omega)]; done) | (rw [if_pos (by omega)]; exact Int32.toInt_inj.mp (by (try simp only [Int32.reduceToInt]); omega)))
set_option maxHeartbeats 4000000 in
set_option maxRecDepth 100000 in
/-- a place of a row of noughts -/
theorem c_X11_at (l : Launch) (D : va_G) (c : Nat → ClassId) (sz : Nat) (q : Nat) (n : Nat) (hn : n < 2 ^ 31) (k : Int32) : Met l yX11_at (.code yX11_at cX11_at 2 (some .int) :: Wd) ({ frames := 0, cells := 0, slots := 0, locals := 0 }) (va_Pc [.ref q, .int k] (WB D c [(q, .inl (c 0, n, .inl (fun _ => 0)))] sz)) (QI (S := Unit) D c (fun r _ => r = 0) (fun _ => [(q, .inl (c 0, n, .inl (fun _ => 0)))]) (va_A [(q, .inl (c 0, n, .inl (fun _ => 0)))] sz)) 0 0 (va_A [(q, .inl (c 0, n, .inl (fun _ => 0)))] sz) := by
  refine kz_met (Qc := QI (S := Unit) D c (fun r _ => r = 0) (fun _ => [(q, .inl (c 0, n, .inl (fun _ => 0)))])) (by decide) (Nat.le_of_ble_eq_true rfl) ?_
  intro p e s m below meth cd A ls H hx hb hr hml hts hown hlocks hin hN hO hK hP hD hS hA hl
  have hl : lv_has ls 2 [(0, .ref q), (1, .int k)] := hl
  have hown : s.vm.findClass RX11 = some m.cls := hown
  refine lv_iload_n hx hb dX11_at_0 rfl (lv_at hl 1 rfl) ?_
  refine lv_if_lt (tgt := 16) hx hb dX11_at_1 (by decide) (fun c1 => ?_) (fun c1 => ?_)
  · refine lv_iconst (v := 0) hx hb dX11_at_16 (by decide) ?_
    exact rt_i hx hb hr hlocks hK hP hD hS rfl dX11_at_17 () [0] rfl rfl rfl
  · refine lv_iload_n hx hb dX11_at_4 rfl (lv_at hl 1 rfl) ?_
    refine lv_aload_n hx hb dX11_at_5 rfl (lv_at hl 0 rfl) ?_
    refine va_alen (v := (Int32.ofNat n)) hx hb hK hP 0 0 rfl rfl (rfl) dX11_at_6 ?_
    refine lv_icmp_ge (tgt := 16) hx hb dX11_at_7 (by decide) (fun c2 => ?_) (fun c2 => ?_)
    · refine lv_iconst (v := 0) hx hb dX11_at_16 (by decide) ?_
      exact rt_i hx hb hr hlocks hK hP hD hS rfl dX11_at_17 () [0] rfl rfl rfl
    · refine lv_aload_n hx hb dX11_at_10 rfl (lv_at hl 0 rfl) ?_
      refine lv_iload_n hx hb dX11_at_11 rfl (lv_at hl 1 rfl) ?_
      refine va_iald hx hb hK hP 0 0 rfl rfl (vin_2 hn c1 c2) dX11_at_12 ?_
      refine lv_topi (fun v3 e4 => ?_)
      obtain rfl : v3 = 0 := (by first | exact e4 | exact e4.trans (by decide))
      refine lv_goto (tgt := 17) hx hb dX11_at_13 (by decide) ?_
      exact rt_i hx hb hr hlocks hK hP hD hS rfl dX11_at_17 () [0] rfl rfl rfl
set_option maxHeartbeats 4000000 in
set_option maxRecDepth 100000 in
/-- a row is written, or not -/
theorem c_X11_put (l : Launch) (D : va_G) (c : Nat → ClassId) (sz : Nat) (q : Nat) (n : Nat) (hn : n < 2 ^ 31) (f : Nat → Int32) (k : Int32) (x : Int32) : Met l yX11_put (.code yX11_put cX11_put 3 none :: Wd) ({ frames := 0, cells := 0, slots := 0, locals := 0 }) (va_Pc [.ref q, .int k, .int x] (WB D c [(q, .inl (c 0, n, .inl (f)))] sz)) (QV (S := Nat → Int32) D c (fun _ => True) (fun u => [(q, .inl (c 0, n, .inl u))]) (va_A [(q, .inl (c 0, n, .inl (f)))] sz)) 0 0 (va_A [(q, .inl (c 0, n, .inl (f)))] sz) := by
  refine kz_met (Qc := QV (S := Nat → Int32) D c (fun _ => True) (fun u => [(q, .inl (c 0, n, .inl u))])) (by decide) (Nat.le_of_ble_eq_true rfl) ?_
  intro p e s m below meth cd A ls H hx hb hr hml hts hown hlocks hin hN hO hK hP hD hS hA hl
  have hl : lv_has ls 3 [(0, .ref q), (1, .int k), (2, .int x)] := hl
  have hown : s.vm.findClass RX11 = some m.cls := hown
  refine lv_iload_n hx hb dX11_put_0 rfl (lv_at hl 1 rfl) ?_
  refine lv_if_lt (tgt := 14) hx hb dX11_put_1 (by decide) (fun c1 => ?_) (fun c1 => ?_)
  · exact rt_v hx hb hr hlocks hK hP hD hS dX11_put_14 (f) [0] rfl rfl trivial
  · refine lv_iload_n hx hb dX11_put_4 rfl (lv_at hl 1 rfl) ?_
    refine lv_aload_n hx hb dX11_put_5 rfl (lv_at hl 0 rfl) ?_
    refine va_alen (v := (Int32.ofNat n)) hx hb hK hP 0 0 rfl rfl (rfl) dX11_put_6 ?_
    refine lv_icmp_ge (tgt := 14) hx hb dX11_put_7 (by decide) (fun c2 => ?_) (fun c2 => ?_)
    · exact rt_v hx hb hr hlocks hK hP hD hS dX11_put_14 (f) [0] rfl rfl trivial
    · refine lv_aload_n hx hb dX11_put_10 rfl (lv_at hl 0 rfl) ?_
      refine lv_iload_n hx hb dX11_put_11 rfl (lv_at hl 1 rfl) ?_
      refine lv_iload_n hx hb dX11_put_12 rfl (lv_at hl 2 rfl) ?_
      refine va_iast hx hb hK hP hD hS 0 0 rfl rfl (vin_2 hn c1 c2) dX11_put_13 (fun H locs hP hD hS => ?_)
      have hP : va_P D vwCl [(q, .inl (c 0, n, .inl (upd (f) (Int32.toNatClampNeg k) x)))] H := hP
      have hD : va_D A [(q, .inl (c 0, n, .inl (upd (f) (Int32.toNatClampNeg k) x)))] := hD
      exact rt_v hx hb hr hlocks hK hP hD hS dX11_put_14 (upd (f) (Int32.toNatClampNeg k) x) [0] rfl rfl trivial
end
section
set_option maxHeartbeats 4000000 in
set_option maxRecDepth 100000 in
/-- X11_atEnd -/
theorem c_X11_atEnd (l : Launch) (D : va_G) (c : Nat → ClassId) (sz : Nat) (r : Nat → Nat) (ch : Int32) : Met l yX11_atEnd (.code yX11_atEnd cX11_atEnd 1 (some .boolean) :: Wd) ({ frames := 0, cells := 0, slots := 0, locals := 0 }) (va_Pc [.ref (r 0)] (WB D c [((r 0), .inr (11, fX r 0 ch))] sz)) (QI (S := Unit) D c (fun q _ => q = 0) (fun _ => [((r 0), .inr (11, fX r 0 ch))]) (va_A [((r 0), .inr (11, fX r 0 ch))] sz)) 0 0 (va_A [((r 0), .inr (11, fX r 0 ch))] sz) := by
  refine kz_met (Qc := QI (S := Unit) D c (fun q _ => q = 0) (fun _ => [((r 0), .inr (11, fX r 0 ch))])) (by decide) (Nat.le_of_ble_eq_true rfl) ?_
  intro p e s m below meth cd A ls H hx hb hr hml hts hown hlocks hin hN hO hK hP hD hS hA hl
  have hl : lv_has ls 1 [(0, .ref (r 0))] := hl
  have hown : s.vm.findClass RX11 = some m.cls := hown
  refine lv_aload_n hx hb dX11_atEnd_0 rfl (lv_at hl 0 rfl) ?_
  refine va_get (D := D) (ci := 11) (v := .int 0) (C := RX11) (T := TX11) (N := 16) hx hb hts inW_11 hown hK hP 0 rfl rfl 13 (by decide) (hts _ wd_282) (fun _ h9 => h9) rfl dX11_atEnd_1 ?_
  refine lv_sipush (v := 14400) hx hb dX11_atEnd_4 (by decide) ?_
  refine lv_icmp_lt (tgt := 14) hx hb dX11_atEnd_7 (by decide) (fun _ => ?_) (fun c => False.elim (by revert c; decide))
  refine lv_iconst (v := 0) hx hb dX11_atEnd_14 (by decide) ?_
  exact rt_i hx hb hr hlocks hK hP hD hS rfl dX11_atEnd_15 () [0] rfl rfl rfl
set_option maxHeartbeats 4000000 in
set_option maxRecDepth 100000 in
/-- X11_hourNow -/
theorem c_X11_hourNow (l : Launch) (D : va_G) (c : Nat → ClassId) (sz : Nat) (r : Nat → Nat) (ch : Int32) : Met l yX11_hourNow (.code yX11_hourNow cX11_hourNow 1 (some .int) :: Wd) ({ frames := 0, cells := 0, slots := 0, locals := 0 }) (va_Pc [.ref (r 0)] (WB D c [((r 0), .inr (11, fX r 0 ch))] sz)) (QI (S := Unit) D c (fun q _ => q = 0) (fun _ => [((r 0), .inr (11, fX r 0 ch))]) (va_A [((r 0), .inr (11, fX r 0 ch))] sz)) 0 0 (va_A [((r 0), .inr (11, fX r 0 ch))] sz) := by
  refine kz_met (Qc := QI (S := Unit) D c (fun q _ => q = 0) (fun _ => [((r 0), .inr (11, fX r 0 ch))])) (by decide) (Nat.le_of_ble_eq_true rfl) ?_
  intro p e s m below meth cd A ls H hx hb hr hml hts hown hlocks hin hN hO hK hP hD hS hA hl
  have hl : lv_has ls 1 [(0, .ref (r 0))] := hl
  have hown : s.vm.findClass RX11 = some m.cls := hown
  refine lv_aload_n hx hb dX11_hourNow_0 rfl (lv_at hl 0 rfl) ?_
  refine va_get (D := D) (ci := 11) (v := .int 0) (C := RX11) (T := TX11) (N := 16) hx hb hts inW_11 hown hK hP 0 rfl rfl 13 (by decide) (hts _ wd_282) (fun _ h9 => h9) rfl dX11_hourNow_1 ?_
  refine lv_bipush (v := 6) hx hb dX11_hourNow_4 (by decide) ?_
  refine lv_idiv hx hb dX11_hourNow_6 (by decide) ?_
  refine lv_topi (fun v1 e2 => ?_)
  obtain rfl : v1 = 0 := e2.trans (by decide)
  exact rt_i hx hb hr hlocks hK hP hD hS rfl dX11_hourNow_7 () [0] rfl rfl rfl
set_option maxHeartbeats 4000000 in
set_option maxRecDepth 100000 in
/-- X11_dayNow -/
theorem c_X11_dayNow (l : Launch) (D : va_G) (c : Nat → ClassId) (sz : Nat) (r : Nat → Nat) (ch : Int32) : Met l yX11_dayNow (.code yX11_dayNow cX11_dayNow 1 (some .int) :: Wd) ({ frames := 0, cells := 0, slots := 0, locals := 0 }) (va_Pc [.ref (r 0)] (WB D c [((r 0), .inr (11, fX r 0 ch))] sz)) (QI (S := Unit) D c (fun q _ => q = 0) (fun _ => [((r 0), .inr (11, fX r 0 ch))]) (va_A [((r 0), .inr (11, fX r 0 ch))] sz)) 0 0 (va_A [((r 0), .inr (11, fX r 0 ch))] sz) := by
  refine kz_met (Qc := QI (S := Unit) D c (fun q _ => q = 0) (fun _ => [((r 0), .inr (11, fX r 0 ch))])) (by decide) (Nat.le_of_ble_eq_true rfl) ?_
  intro p e s m below meth cd A ls H hx hb hr hml hts hown hlocks hin hN hO hK hP hD hS hA hl
  have hl : lv_has ls 1 [(0, .ref (r 0))] := hl
  have hown : s.vm.findClass RX11 = some m.cls := hown
  refine lv_aload_n hx hb dX11_dayNow_0 rfl (lv_at hl 0 rfl) ?_
  refine va_get (D := D) (ci := 11) (v := .int 0) (C := RX11) (T := TX11) (N := 16) hx hb hts inW_11 hown hK hP 0 rfl rfl 13 (by decide) (hts _ wd_282) (fun _ h9 => h9) rfl dX11_dayNow_1 ?_
  refine lv_sipush (v := 144) hx hb dX11_dayNow_4 (by decide) ?_
  refine lv_idiv hx hb dX11_dayNow_7 (by decide) ?_
  refine lv_topi (fun v1 e2 => ?_)
  obtain rfl : v1 = 0 := e2.trans (by decide)
  exact rt_i hx hb hr hlocks hK hP hD hS rfl dX11_dayNow_8 () [0] rfl rfl rfl
set_option maxHeartbeats 4000000 in
set_option maxRecDepth 100000 in
/-- X11_poolAt -/
theorem c_X11_poolAt (l : Launch) (D : va_G) (c : Nat → ClassId) (sz : Nat) (r : Nat → Nat) (ch : Int32) (k : Int32) : Met l yX11_poolAt (.code yX11_poolAt cX11_poolAt 2 (some (.object "PoolCoast$Pool")) :: Wd) ({ frames := 0, cells := 0, slots := 0, locals := 0 }) (va_Pc [.ref (r 0), .int k] (WB D c [((r 0), .inr (11, fX r 0 ch)), ((r 3), .inl (c 4, 11, .inr (.inr (.inr (.inr (fun _ => none))))))] sz)) (QN (S := Unit) D c (fun _ => [((r 0), .inr (11, fX r 0 ch)), ((r 3), .inl (c 4, 11, .inr (.inr (.inr (.inr (fun _ => none))))))]) (va_A [((r 0), .inr (11, fX r 0 ch)), ((r 3), .inl (c 4, 11, .inr (.inr (.inr (.inr (fun _ => none))))))] sz)) 0 0 (va_A [((r 0), .inr (11, fX r 0 ch)), ((r 3), .inl (c 4, 11, .inr (.inr (.inr (.inr (fun _ => none))))))] sz) := by
  refine kz_met (Qc := QN (S := Unit) D c (fun _ => [((r 0), .inr (11, fX r 0 ch)), ((r 3), .inl (c 4, 11, .inr (.inr (.inr (.inr (fun _ => none))))))])) (by decide) (Nat.le_of_ble_eq_true rfl) ?_
  intro p e s m below meth cd A ls H hx hb hr hml hts hown hlocks hin hN hO hK hP hD hS hA hl
  have hl : lv_has ls 2 [(0, .ref (r 0)), (1, .int k)] := hl
  have hown : s.vm.findClass RX11 = some m.cls := hown
  refine lv_iload_n hx hb dX11_poolAt_0 rfl (lv_at hl 1 rfl) ?_
  refine lv_if_lt (tgt := 22) hx hb dX11_poolAt_1 (by decide) (fun c1 => ?_) (fun c1 => ?_)
  · refine lv_null hx hb dX11_poolAt_22 ?_
    exact rt_n hx hb hr (Or.inl ⟨_, rfl⟩) hlocks hK hP hD hS dX11_poolAt_23 () [0, 1] rfl rfl
  · refine lv_iload_n hx hb dX11_poolAt_4 rfl (lv_at hl 1 rfl) ?_
    refine lv_aload_n hx hb dX11_poolAt_5 rfl (lv_at hl 0 rfl) ?_
    refine va_get (D := D) (ci := 11) (v := .ref (r 3)) (C := RX11) (T := TX11) (N := 16) hx hb hts inW_11 hown hK hP 0 rfl rfl 2 (by decide) (hts _ wd_271) (fun _ h9 => h9) rfl dX11_poolAt_6 ?_
    refine va_alen (v := 11) hx hb hK hP 1 4 rfl rfl (by show Int32.ofNat 11 = 11; decide) dX11_poolAt_9 ?_
    refine lv_icmp_ge (tgt := 22) hx hb dX11_poolAt_10 (by decide) (fun c2 => ?_) (fun c2 => ?_)
    · refine lv_null hx hb dX11_poolAt_22 ?_
      exact rt_n hx hb hr (Or.inl ⟨_, rfl⟩) hlocks hK hP hD hS dX11_poolAt_23 () [0, 1] rfl rfl
    · refine lv_aload_n hx hb dX11_poolAt_13 rfl (lv_at hl 0 rfl) ?_
      refine va_get (D := D) (ci := 11) (v := .ref (r 3)) (C := RX11) (T := TX11) (N := 16) hx hb hts inW_11 hown hK hP 0 rfl rfl 2 (by decide) (hts _ wd_271) (fun _ h9 => h9) rfl dX11_poolAt_14 ?_
      refine lv_iload_n hx hb dX11_poolAt_17 rfl (lv_at hl 1 rfl) ?_
      refine va_aldq hx hb hK hP 1 4 rfl rfl (vin_2 (n := 11) (by decide) c1 c2) dX11_poolAt_18 ?_
      refine lv_goto (tgt := 23) hx hb dX11_poolAt_19 (by decide) ?_
      exact rt_n hx hb hr (Or.inl ⟨_, rfl⟩) hlocks hK hP hD hS dX11_poolAt_23 () [0, 1] rfl rfl
set_option maxHeartbeats 4000000 in
set_option maxRecDepth 100000 in
/-- X11_leaseAt -/
theorem c_X11_leaseAt (l : Launch) (D : va_G) (c : Nat → ClassId) (sz : Nat) (r : Nat → Nat) (ch : Int32) (k : Int32) : Met l yX11_leaseAt (.code yX11_leaseAt cX11_leaseAt 2 (some (.object "PoolCoast$Lease")) :: Wd) ({ frames := 0, cells := 0, slots := 0, locals := 0 }) (va_Pc [.ref (r 0), .int k] (WB D c [((r 0), .inr (11, fX r 0 ch)), ((r 7), .inl (c 6, 10, .inr (.inr (.inr (.inr (fun _ => none))))))] sz)) (QN (S := Unit) D c (fun _ => [((r 0), .inr (11, fX r 0 ch)), ((r 7), .inl (c 6, 10, .inr (.inr (.inr (.inr (fun _ => none))))))]) (va_A [((r 0), .inr (11, fX r 0 ch)), ((r 7), .inl (c 6, 10, .inr (.inr (.inr (.inr (fun _ => none))))))] sz)) 0 0 (va_A [((r 0), .inr (11, fX r 0 ch)), ((r 7), .inl (c 6, 10, .inr (.inr (.inr (.inr (fun _ => none))))))] sz) := by
  refine kz_met (Qc := QN (S := Unit) D c (fun _ => [((r 0), .inr (11, fX r 0 ch)), ((r 7), .inl (c 6, 10, .inr (.inr (.inr (.inr (fun _ => none))))))])) (by decide) (Nat.le_of_ble_eq_true rfl) ?_
  intro p e s m below meth cd A ls H hx hb hr hml hts hown hlocks hin hN hO hK hP hD hS hA hl
  have hl : lv_has ls 2 [(0, .ref (r 0)), (1, .int k)] := hl
  have hown : s.vm.findClass RX11 = some m.cls := hown
  refine lv_iload_n hx hb dX11_leaseAt_0 rfl (lv_at hl 1 rfl) ?_
  refine lv_if_lt (tgt := 22) hx hb dX11_leaseAt_1 (by decide) (fun c1 => ?_) (fun c1 => ?_)
  · refine lv_null hx hb dX11_leaseAt_22 ?_
    exact rt_n hx hb hr (Or.inl ⟨_, rfl⟩) hlocks hK hP hD hS dX11_leaseAt_23 () [0, 1] rfl rfl
  · refine lv_iload_n hx hb dX11_leaseAt_4 rfl (lv_at hl 1 rfl) ?_
    refine lv_aload_n hx hb dX11_leaseAt_5 rfl (lv_at hl 0 rfl) ?_
    refine va_get (D := D) (ci := 11) (v := .ref (r 7)) (C := RX11) (T := TX11) (N := 16) hx hb hts inW_11 hown hK hP 0 rfl rfl 6 (by decide) (hts _ wd_275) (fun _ h9 => h9) rfl dX11_leaseAt_6 ?_
    refine va_alen (v := 10) hx hb hK hP 1 6 rfl rfl (by show Int32.ofNat 10 = 10; decide) dX11_leaseAt_9 ?_
    refine lv_icmp_ge (tgt := 22) hx hb dX11_leaseAt_10 (by decide) (fun c2 => ?_) (fun c2 => ?_)
    · refine lv_null hx hb dX11_leaseAt_22 ?_
      exact rt_n hx hb hr (Or.inl ⟨_, rfl⟩) hlocks hK hP hD hS dX11_leaseAt_23 () [0, 1] rfl rfl
    · refine lv_aload_n hx hb dX11_leaseAt_13 rfl (lv_at hl 0 rfl) ?_
      refine va_get (D := D) (ci := 11) (v := .ref (r 7)) (C := RX11) (T := TX11) (N := 16) hx hb hts inW_11 hown hK hP 0 rfl rfl 6 (by decide) (hts _ wd_275) (fun _ h9 => h9) rfl dX11_leaseAt_14 ?_
      refine lv_iload_n hx hb dX11_leaseAt_17 rfl (lv_at hl 1 rfl) ?_
      refine va_aldq hx hb hK hP 1 6 rfl rfl (vin_2 (n := 10) (by decide) c1 c2) dX11_leaseAt_18 ?_
      refine lv_goto (tgt := 23) hx hb dX11_leaseAt_19 (by decide) ?_
      exact rt_n hx hb hr (Or.inl ⟨_, rfl⟩) hlocks hK hP hD hS dX11_leaseAt_23 () [0, 1] rfl rfl
set_option maxHeartbeats 4000000 in
set_option maxRecDepth 100000 in
/-- X11_settingOf -/
theorem c_X11_settingOf (l : Launch) (D : va_G) (c : Nat → ClassId) (sz : Nat) (r : Nat → Nat) (ch : Int32) (k : Int32) : Met l yX11_settingOf (.code yX11_settingOf cX11_settingOf 2 (some .int) :: Wd) ({ frames := 0, cells := 0, slots := 0, locals := 0 }) (va_Pc [.ref (r 0), .int k] (WB D c [((r 0), .inr (11, fX r 0 ch)), ((r 2), .inr (10, fWv r))] sz)) (QI (S := Unit) D c (fun q _ => q = f_so k) (fun _ => [((r 0), .inr (11, fX r 0 ch)), ((r 2), .inr (10, fWv r))]) (va_A [((r 0), .inr (11, fX r 0 ch)), ((r 2), .inr (10, fWv r))] sz)) 0 0 (va_A [((r 0), .inr (11, fX r 0 ch)), ((r 2), .inr (10, fWv r))] sz) := by
  refine kz_met (Qc := QI (S := Unit) D c (fun q _ => q = f_so k) (fun _ => [((r 0), .inr (11, fX r 0 ch)), ((r 2), .inr (10, fWv r))])) (by decide) (Nat.le_of_ble_eq_true rfl) ?_
  intro p e s m below meth cd A ls H hx hb hr hml hts hown hlocks hin hN hO hK hP hD hS hA hl
  have hl : lv_has ls 2 [(0, .ref (r 0)), (1, .int k)] := hl
  have hown : s.vm.findClass RX11 = some m.cls := hown
  refine lv_iload_n hx hb dX11_settingOf_0 rfl (lv_at hl 1 rfl) ?_
  by_cases c1 : k = 0
  · subst c1
    refine lv_lookup (off := 27) (tgt := 28) hx hb dX11_settingOf_1 (by decide) (by decide) (by decide) ?_
    refine lv_aload_n hx hb dX11_settingOf_28 rfl (lv_at hl 0 rfl) ?_
    refine va_get (D := D) (ci := 11) (v := .ref (r 2)) (C := RX11) (T := TX11) (N := 16) hx hb hts inW_11 hown hK hP 0 rfl rfl 1 (by decide) (hts _ wd_270) (fun _ h9 => h9) rfl dX11_settingOf_29 ?_
    refine va_get (D := D) (ci := 10) (v := .int 100) (C := RX10) (T := TX10) (N := 7) hx hb hts inW_10 hown hK hP 1 rfl rfl 5 (by decide) (hts _ wd_143) (fun _ h9 => h9) rfl dX11_settingOf_32 ?_
    exact rt_i hx hb hr hlocks hK hP hD hS rfl dX11_settingOf_35 () [0, 1] rfl rfl (by decide)
  · by_cases c2 : k = 1
    · subst c2
      refine lv_lookup (off := 35) (tgt := 36) hx hb dX11_settingOf_1 (by decide) (by decide) (by decide) ?_
      refine lv_aload_n hx hb dX11_settingOf_36 rfl (lv_at hl 0 rfl) ?_
      refine va_get (D := D) (ci := 11) (v := .ref (r 2)) (C := RX11) (T := TX11) (N := 16) hx hb hts inW_11 hown hK hP 0 rfl rfl 1 (by decide) (hts _ wd_270) (fun _ h9 => h9) rfl dX11_settingOf_37 ?_
      refine va_get (D := D) (ci := 10) (v := .int 150) (C := RX10) (T := TX10) (N := 7) hx hb hts inW_10 hown hK hP 1 rfl rfl 6 (by decide) (hts _ wd_145) (fun _ h9 => h9) rfl dX11_settingOf_40 ?_
      exact rt_i hx hb hr hlocks hK hP hD hS rfl dX11_settingOf_43 () [0, 1] rfl rfl (by first | decide | (show (150 : Int32) = _; unfold f_so; rw [if_neg c1]))
    · refine lv_lookup (off := 43) (tgt := 44) hx hb dX11_settingOf_1 (by decide) ((lv_osw c1 (by decide)).trans ((lv_osw c2 (by decide)).trans (rfl))) (by decide) ?_
      refine lv_aload_n hx hb dX11_settingOf_44 rfl (lv_at hl 0 rfl) ?_
      refine va_get (D := D) (ci := 11) (v := .int 8) (C := RX11) (T := TX11) (N := 16) hx hb hts inW_11 hown hK hP 0 rfl rfl 14 (by decide) (hts _ wd_283) (fun _ h9 => h9) rfl dX11_settingOf_45 ?_
      exact rt_i hx hb hr hlocks hK hP hD hS rfl dX11_settingOf_48 () [0, 1] rfl rfl (by first | decide | (show (8 : Int32) = _; unfold f_so; rw [if_neg c1, if_neg c2]))
set_option maxHeartbeats 4000000 in
set_option maxRecDepth 100000 in
/-- X11_paidOf -/
theorem c_X11_paidOf (l : Launch) (D : va_G) (c : Nat → ClassId) (sz : Nat) (r : Nat → Nat) (ch : Int32) (k : Int32) : Met l yX11_paidOf (.code yX11_paidOf cX11_paidOf 3 (some .int) :: Wd) ({ frames := 1, cells := 0, slots := 0, locals := 21 }) (va_Pc [.ref (r 0), .int k] (WB D c [((r 0), .inr (11, fX r 0 ch)), ((r 7), .inl (c 6, 10, .inr (.inr (.inr (.inr (fun _ => none))))))] sz)) (QI (S := Unit) D c (fun q _ => q = -1) (fun _ => [((r 0), .inr (11, fX r 0 ch)), ((r 7), .inl (c 6, 10, .inr (.inr (.inr (.inr (fun _ => none))))))]) (va_A [((r 0), .inr (11, fX r 0 ch)), ((r 7), .inl (c 6, 10, .inr (.inr (.inr (.inr (fun _ => none))))))] sz)) 0 0 (va_A [((r 0), .inr (11, fX r 0 ch)), ((r 7), .inl (c 6, 10, .inr (.inr (.inr (.inr (fun _ => none))))))] sz) := by
  refine kz_met (Qc := QI (S := Unit) D c (fun q _ => q = -1) (fun _ => [((r 0), .inr (11, fX r 0 ch)), ((r 7), .inl (c 6, 10, .inr (.inr (.inr (.inr (fun _ => none))))))])) (by decide) (Nat.le_of_ble_eq_true rfl) ?_
  intro p e s m below meth cd A ls H hx hb hr hml hts hown hlocks hin hN hO hK hP hD hS hA hl
  have hl : lv_has ls 3 [(0, .ref (r 0)), (1, .int k)] := hl
  have hown : s.vm.findClass RX11 = some m.cls := hown
  refine lv_aload_n hx hb dX11_paidOf_0 rfl (lv_at hl 0 rfl) ?_
  refine lv_iload_n hx hb dX11_paidOf_1 rfl (lv_at hl 1 rfl) ?_
  have hPc := hP.sub (ws' := [((r 0), .inr (11, fX r 0 ch)), ((r 7), .inl (c 6, 10, .inr (.inr (.inr (.inr (fun _ => none))))))]) [0, 1] rfl
  have hDc := hD.sub (ws' := [((r 0), .inr (11, fX r 0 ch)), ((r 7), .inl (c 6, 10, .inr (.inr (.inr (.inr (fun _ => none))))))]) [0, 1] (by decide) rfl
  refine cl_n (wr := []) (va_runV (As := [.int k]) (rest := []) ⟨hx, hb, hml, hown, hts⟩ (c_X11_leaseAt l D c H.size r ch k) (kw_V 1 hts wd_1093 wd_1095 wd_39 wd_83 wd_1096 rfl rfl (by decide +kernel) ⟨Nat.le_of_ble_eq_true rfl, Nat.le_of_ble_eq_true rfl⟩) (pre_V hPc hK hDc hN hO (ci := 11) (q0 := 0) rfl rfl) rfl rfl hl.1 rfl (lv_room (Nat.le_of_ble_eq_true rfl)) dX11_paidOf_2 ⟨Nat.le_of_ble_eq_true rfl, Nat.le_of_ble_eq_true rfl⟩) hP hD hS hA [0, 1] [] rfl rfl (by decide) (by decide) (fun u2 H locs hP hD hS => ?_)
  have hP : va_P D vwCl [((r 0), .inr (11, fX r 0 ch)), ((r 7), .inl (c 6, 10, .inr (.inr (.inr (.inr (fun _ => none))))))] H := hP
  have hD : va_D A [((r 0), .inr (11, fX r 0 ch)), ((r 7), .inl (c 6, 10, .inr (.inr (.inr (.inr (fun _ => none))))))] := hD
  refine lv_astore_nN (lv' := [(2, .null), (0, .ref (r 0)), (1, .int k)]) hx hb dX11_paidOf_5 rfl hl (by decide) rfl (fun ls hl => ?_)
  refine lv_aload_nN hx hb dX11_paidOf_6 rfl (lv_at hl 0 rfl) ?_
  refine lv_ifnonnullN hx hb dX11_paidOf_7 ?_
  refine lv_iconst (v := (-1)) hx hb dX11_paidOf_10 (by decide) ?_
  refine lv_goto (tgt := 18) hx hb dX11_paidOf_11 (by decide) ?_
  exact rt_i hx hb hr hlocks hK hP hD hS rfl dX11_paidOf_18 () [0, 1] rfl rfl rfl
set_option maxHeartbeats 4000000 in
set_option maxRecDepth 100000 in
/-- X8_takes -/
theorem c_X8_takes (l : Launch) (D : va_G) (c : Nat → ClassId) (sz : Nat) (r : Nat → Nat) (t : Int32) (v : Int32) : Met l yX8_takes (.code yX8_takes cX8_takes 3 (some .boolean) :: Wd) ({ frames := 1, cells := 0, slots := 0, locals := 22 }) (va_Pc [.ref (r 1), .int t, .int v] (WB D c [((r 1), .inr (8, fTd r))] sz)) (QI (S := Unit) D c (fun q _ => q = f_takes t v) (fun _ => [((r 1), .inr (8, fTd r))]) (va_A [((r 1), .inr (8, fTd r))] sz)) 0 0 (va_A [((r 1), .inr (8, fTd r))] sz) := by
  refine kz_met (Qc := QI (S := Unit) D c (fun q _ => q = f_takes t v) (fun _ => [((r 1), .inr (8, fTd r))])) (by decide) (Nat.le_of_ble_eq_true rfl) ?_
  intro p e s m below meth cd A ls H hx hb hr hml hts hown hlocks hin hN hO hK hP hD hS hA hl
  have hl : lv_has ls 3 [(0, .ref (r 1)), (1, .int t), (2, .int v)] := hl
  have hown : s.vm.findClass RX8 = some m.cls := hown
  refine lv_aload_n hx hb dX8_takes_0 rfl (lv_at hl 0 rfl) ?_
  refine va_get (D := D) (ci := 8) (v := .int 0) (C := RX8) (T := TX8) (N := 3) hx hb hts inW_8 hown hK hP 0 rfl rfl 2 (by decide) (hts _ wd_120) (fun _ h9 => h9) rfl dX8_takes_1 ?_
  refine lv_sipush (v := 500) hx hb dX8_takes_4 (by decide) ?_
  refine lv_icmp_ge (tgt := 34) hx hb dX8_takes_7 (by decide) (fun c => False.elim (by revert c; decide)) (fun _ => ?_)
  refine lv_iload_n hx hb dX8_takes_10 rfl (lv_at hl 1 rfl) ?_
  refine lv_iconst (v := 0) hx hb dX8_takes_11 (by decide) ?_
  refine lv_sipush (v := 14399) hx hb dX8_takes_12 (by decide) ?_
  have hPc := hP.sub (ws' := []) [] rfl
  have hDc := hD.sub (ws' := []) [] (by decide) rfl
  refine cl_i (wr := [((r 1), .inr (8, fTd r))]) (va_runSN (As := [.int t, .int 0, .int 14399]) (rest := []) ⟨hx, hb, hml, hown, hts⟩ (c_X11_within l D c H.size t 0 14399) (kw_SN 3 hts (hN (RX8, 22, yX11_within) (List.mem_of_getElem? (i := 4) rfl)) wd_331 wd_83 wd_332 rfl rfl (by decide +kernel) ⟨Nat.le_of_ble_eq_true rfl, Nat.le_of_ble_eq_true rfl⟩) (pre_S hPc hK hDc hN hO) rfl rfl hl.1 rfl (lv_room (Nat.le_of_ble_eq_true rfl)) dX8_takes_15 ⟨Nat.le_of_ble_eq_true rfl, Nat.le_of_ble_eq_true rfl⟩) hP hD hS hA [] [0] rfl rfl (by decide) (by decide) (fun r1 u2 H locs h3 hP hD hS => ?_)
  have hP : va_P D vwCl [((r 1), .inr (8, fTd r))] H := hP
  have hD : va_D A [((r 1), .inr (8, fTd r))] := hD
  rcases inB_c h3 with ⟨h4, rfl⟩ | ⟨h4, rfl⟩
  · refine lv_if_eq (tgt := 34) hx hb dX8_takes_18 (by decide) (fun c => False.elim (by revert c; decide)) (fun _ => ?_)
    refine lv_iload_n hx hb dX8_takes_21 rfl (lv_at hl 2 rfl) ?_
    refine lv_sipush (v := (-500)) hx hb dX8_takes_22 (by decide) ?_
    refine lv_sipush (v := 900) hx hb dX8_takes_25 (by decide) ?_
    have hPc := hP.sub (ws' := []) [] rfl
    have hDc := hD.sub (ws' := []) [] (by decide) rfl
    refine cl_i (wr := [((r 1), .inr (8, fTd r))]) (va_runSN (As := [.int v, .int (-500), .int 900]) (rest := []) ⟨hx, hb, hml, hown, hts⟩ (c_X11_within l D c H.size v ((-500)) 900) (kw_SN 3 hts (hN (RX8, 22, yX11_within) (List.mem_of_getElem? (i := 4) rfl)) wd_331 wd_83 wd_332 rfl rfl (by decide +kernel) ⟨Nat.le_of_ble_eq_true rfl, Nat.le_of_ble_eq_true rfl⟩) (pre_S hPc hK hDc hN hO) rfl rfl hl.1 rfl (lv_room (Nat.le_of_ble_eq_true rfl)) dX8_takes_28 ⟨Nat.le_of_ble_eq_true rfl, Nat.le_of_ble_eq_true rfl⟩) hP hD hS hA [] [0] rfl rfl (by decide) (by decide) (fun r5 u6 H locs h7 hP hD hS => ?_)
    have hP : va_P D vwCl [((r 1), .inr (8, fTd r))] H := hP
    have hD : va_D A [((r 1), .inr (8, fTd r))] := hD
    rcases inB_c h7 with ⟨h8, rfl⟩ | ⟨h8, rfl⟩
    · refine lv_if_ne (tgt := 36) hx hb dX8_takes_31 (by decide) (fun _ => ?_) (fun c => False.elim (by revert c; decide))
      refine lv_aload_n hx hb dX8_takes_36 rfl (lv_at hl 0 rfl) ?_
      refine va_get (D := D) (ci := 8) (v := .int 0) (C := RX8) (T := TX8) (N := 3) hx hb hts inW_8 hown hK hP 0 rfl rfl 2 (by decide) (hts _ wd_120) (fun _ h9 => h9) rfl dX8_takes_37 ?_
      refine lv_if_eq (tgt := 68) hx hb dX8_takes_40 (by decide) (fun _ => ?_) (fun c => False.elim (by revert c; decide))
      refine lv_iconst (v := 1) hx hb dX8_takes_68 (by decide) ?_
      refine lv_goto (tgt := 73) hx hb dX8_takes_69 (by decide) ?_
      exact rt_i hx hb hr hlocks hK hP hD hS rfl dX8_takes_73 () [0] rfl rfl (by show (1 : Int32) = _; unfold f_takes; (try simp only [Int32.le_iff_toInt_le, Int32.lt_iff_toInt_lt, ← Int32.toInt_inj, Int32.reduceToInt] at h4); (try simp only [Int32.le_iff_toInt_le, Int32.lt_iff_toInt_lt, ← Int32.toInt_inj, Int32.reduceToInt] at h8); first | (rw [if_pos (by omega)]; done) | (rw [if_neg (by omega)]; done) | (rw [if_pos (by omega)]; exact Int32.toInt_inj.mp (by (try simp only [Int32.reduceToInt]); omega)))
    · refine lv_if_ne (tgt := 36) hx hb dX8_takes_31 (by decide) (fun c => False.elim (by revert c; decide)) (fun _ => ?_)
      refine lv_iconst (v := 0) hx hb dX8_takes_34 (by decide) ?_
      exact rt_i hx hb hr hlocks hK hP hD hS rfl dX8_takes_35 () [0] rfl rfl (by show (0 : Int32) = _; unfold f_takes; (try simp only [Int32.le_iff_toInt_le, Int32.lt_iff_toInt_lt, ← Int32.toInt_inj, Int32.reduceToInt] at h4); (try simp only [Int32.le_iff_toInt_le, Int32.lt_iff_toInt_lt, ← Int32.toInt_inj, Int32.reduceToInt] at h8); first | (rw [if_pos (by omega)]; done) | (rw [if_neg (by omega)]; done) | (rw [if_pos (by omega)]; exact Int32.toInt_inj.mp (by (try simp only [Int32.reduceToInt]); omega)))
  · refine lv_if_eq (tgt := 34) hx hb dX8_takes_18 (by decide) (fun _ => ?_) (fun c => False.elim (by revert c; decide))
    refine lv_iconst (v := 0) hx hb dX8_takes_34 (by decide) ?_
    exact rt_i hx hb hr hlocks hK hP hD hS rfl dX8_takes_35 () [0] rfl rfl (by show (0 : Int32) = _; unfold f_takes; (try simp only [Int32.le_iff_toInt_le, Int32.lt_iff_toInt_lt, ← Int32.toInt_inj, Int32.reduceToInt] at h4); first | (rw [if_pos (by omega)]; done) | (rw [if_neg (by omega)]; done) | (rw [if_pos (by omega)]; exact Int32.toInt_inj.mp (by (try simp only [Int32.reduceToInt]); omega)))
set_option maxHeartbeats 4000000 in
set_option maxRecDepth 100000 in
/-- X8_add -/
theorem c_X8_add (l : Launch) (D : va_G) (c : Nat → ClassId) (sz : Nat) (r : Nat → Nat) (t : Int32) (v : Int32) : Met l yX8_add (.code yX8_add cX8_add 3 (some .int) :: Wd) ({ frames := 1, cells := 0, slots := 0, locals := 22 }) (va_Pc [.ref (r 1), .int t, .int v] (WB D c [((r 1), .inr (8, fTd r)), ((r 20), .inl (c 0, 500, .inl (fun _ => 0))), ((r 21), .inl (c 0, 500, .inl (fun _ => 0)))] sz)) (QI (S := Unit) D c (fun q _ => q = 1) (fun _ => []) (va_A [((r 1), .inr (8, fTd r)), ((r 20), .inl (c 0, 500, .inl (fun _ => 0))), ((r 21), .inl (c 0, 500, .inl (fun _ => 0)))] sz)) 0 0 (va_A [((r 1), .inr (8, fTd r)), ((r 20), .inl (c 0, 500, .inl (fun _ => 0))), ((r 21), .inl (c 0, 500, .inl (fun _ => 0)))] sz) := by
  refine kz_met (Qc := QI (S := Unit) D c (fun q _ => q = 1) (fun _ => [])) (by decide) (Nat.le_of_ble_eq_true rfl) ?_
  intro p e s m below meth cd A ls H hx hb hr hml hts hown hlocks hin hN hO hK hP hD hS hA hl
  have hl : lv_has ls 3 [(0, .ref (r 1)), (1, .int t), (2, .int v)] := hl
  have hown : s.vm.findClass RX8 = some m.cls := hown
  refine lv_aload_n hx hb dX8_add_0 rfl (lv_at hl 0 rfl) ?_
  refine va_get (D := D) (ci := 8) (v := .ref (r 20)) (C := RX8) (T := TX8) (N := 3) hx hb hts inW_8 hown hK hP 0 rfl rfl 0 (by decide) (hts _ wd_118) (fun _ h9 => h9) rfl dX8_add_1 ?_
  refine lv_aload_n hx hb dX8_add_4 rfl (lv_at hl 0 rfl) ?_
  refine va_get (D := D) (ci := 8) (v := .int 0) (C := RX8) (T := TX8) (N := 3) hx hb hts inW_8 hown hK hP 0 rfl rfl 2 (by decide) (hts _ wd_120) (fun _ h9 => h9) rfl dX8_add_5 ?_
  refine lv_iload_n hx hb dX8_add_8 rfl (lv_at hl 1 rfl) ?_
  have hPc := hP.sub (ws' := [((r 20), .inl (c 0, 500, .inl ((fun _ => 0))))]) [1] rfl
  have hDc := hD.sub (ws' := [((r 20), .inl (c 0, 500, .inl ((fun _ => 0))))]) [1] (by decide) rfl
  refine cl_v (wr := [((r 1), .inr (8, fTd r)), ((r 21), .inl (c 0, 500, .inl (fun _ => 0)))]) (va_runSN (As := [.ref (r 20), .int 0, .int t]) (rest := []) ⟨hx, hb, hml, hown, hts⟩ (c_X11_put l D c H.size ((r 20)) 500 ((by decide)) ((fun _ => 0)) 0 t) (kw_SN 3 hts (hN (RX8, 30, yX11_put) (List.mem_of_getElem? (i := 6) rfl)) wd_341 wd_83 wd_342 rfl rfl (by decide +kernel) ⟨Nat.le_of_ble_eq_true rfl, Nat.le_of_ble_eq_true rfl⟩) (pre_S hPc hK hDc hN hO) rfl rfl hl.1 rfl (lv_room (Nat.le_of_ble_eq_true rfl)) dX8_add_9 ⟨Nat.le_of_ble_eq_true rfl, Nat.le_of_ble_eq_true rfl⟩) hP hD hS hA [1] [0, 2] rfl rfl (by decide) (by decide) (fun u2 H locs h3 hP hD hS => ?_)
  have hP : va_P D vwCl [((r 1), .inr (8, fTd r)), ((r 21), .inl (c 0, 500, .inl (fun _ => 0))), ((r 20), .inl (c 0, 500, .inl (u2)))] H := hP
  have hD : va_D A [((r 1), .inr (8, fTd r)), ((r 21), .inl (c 0, 500, .inl (fun _ => 0))), ((r 20), .inl (c 0, 500, .inl (u2)))] := hD
  refine lv_aload_n hx hb dX8_add_12 rfl (lv_at hl 0 rfl) ?_
  refine va_get (D := D) (ci := 8) (v := .ref (r 21)) (C := RX8) (T := TX8) (N := 3) hx hb hts inW_8 hown hK hP 0 rfl rfl 1 (by decide) (hts _ wd_119) (fun _ h9 => h9) rfl dX8_add_13 ?_
  refine lv_aload_n hx hb dX8_add_16 rfl (lv_at hl 0 rfl) ?_
  refine va_get (D := D) (ci := 8) (v := .int 0) (C := RX8) (T := TX8) (N := 3) hx hb hts inW_8 hown hK hP 0 rfl rfl 2 (by decide) (hts _ wd_120) (fun _ h9 => h9) rfl dX8_add_17 ?_
  refine lv_iload_n hx hb dX8_add_20 rfl (lv_at hl 2 rfl) ?_
  have hPc := hP.sub (ws' := [((r 21), .inl (c 0, 500, .inl ((fun _ => 0))))]) [1] rfl
  have hDc := hD.sub (ws' := [((r 21), .inl (c 0, 500, .inl ((fun _ => 0))))]) [1] (by decide) rfl
  refine cl_v (wr := [((r 1), .inr (8, fTd r)), ((r 20), .inl (c 0, 500, .inl (u2)))]) (va_runSN (As := [.ref (r 21), .int 0, .int v]) (rest := []) ⟨hx, hb, hml, hown, hts⟩ (c_X11_put l D c H.size ((r 21)) 500 ((by decide)) ((fun _ => 0)) 0 v) (kw_SN 3 hts (hN (RX8, 30, yX11_put) (List.mem_of_getElem? (i := 6) rfl)) wd_341 wd_83 wd_342 rfl rfl (by decide +kernel) ⟨Nat.le_of_ble_eq_true rfl, Nat.le_of_ble_eq_true rfl⟩) (pre_S hPc hK hDc hN hO) rfl rfl hl.1 rfl (lv_room (Nat.le_of_ble_eq_true rfl)) dX8_add_21 ⟨Nat.le_of_ble_eq_true rfl, Nat.le_of_ble_eq_true rfl⟩) hP hD hS hA [1] [0, 2] rfl rfl (by decide) (by decide) (fun u5 H locs h6 hP hD hS => ?_)
  have hP : va_P D vwCl [((r 1), .inr (8, fTd r)), ((r 20), .inl (c 0, 500, .inl (u2))), ((r 21), .inl (c 0, 500, .inl (u5)))] H := hP
  have hD : va_D A [((r 1), .inr (8, fTd r)), ((r 20), .inl (c 0, 500, .inl (u2))), ((r 21), .inl (c 0, 500, .inl (u5)))] := hD
  refine lv_aload_n hx hb dX8_add_24 rfl (lv_at hl 0 rfl) ?_
  refine lv_dup hx hb dX8_add_25 rfl ?_
  refine va_get (D := D) (ci := 8) (v := .int 0) (C := RX8) (T := TX8) (N := 3) hx hb hts inW_8 hown hK hP 0 rfl rfl 2 (by decide) (hts _ wd_120) (fun _ h9 => h9) rfl dX8_add_26 ?_
  refine lv_iconst (v := 1) hx hb dX8_add_29 (by decide) ?_
  refine lv_iadd hx hb dX8_add_30 ?_
  refine lv_topi (fun v7 e8 => ?_)
  obtain rfl : v7 = 1 := e8.trans (by decide)
  refine va_put (D := D) (ci := 8) (v := .int 1) (ty := .int) (C := RX8) (T := TX8) (N := 3) hx hb hts inW_8 tyX8 tyX8_ok nmX8 hown hK hP hD hS 0 rfl rfl 2 (by decide) (hts _ wd_120) (fun _ h9 => h9) rfl (by decide +kernel) rfl rfl (Nat.le_of_ble_eq_true rfl) dX8_add_31 (fun H locs hP hD hS => ?_)
  have hP : va_P D vwCl [((r 1), .inr (8, (fTd r).set 2 (.int 1))), ((r 20), .inl (c 0, 500, .inl (u2))), ((r 21), .inl (c 0, 500, .inl (u5)))] H := hP
  have hD : va_D A [((r 1), .inr (8, (fTd r).set 2 (.int 1))), ((r 20), .inl (c 0, 500, .inl (u2))), ((r 21), .inl (c 0, 500, .inl (u5)))] := hD
  refine lv_aload_n hx hb dX8_add_34 rfl (lv_at hl 0 rfl) ?_
  refine va_get (D := D) (ci := 8) (v := .int 1) (C := RX8) (T := TX8) (N := 3) hx hb hts inW_8 hown hK hP 0 rfl rfl 2 (by decide) (hts _ wd_120) (fun _ h9 => h9) rfl dX8_add_35 ?_
  exact rt_i hx hb hr hlocks hK hP hD hS rfl dX8_add_38 () [] rfl rfl rfl
set_option maxHeartbeats 4000000 in
set_option maxRecDepth 100000 in
/-- X8_levelAt -/
theorem c_X8_levelAt (l : Launch) (D : va_G) (c : Nat → ClassId) (sz : Nat) (r : Nat → Nat) (t : Int32) : Met l yX8_levelAt (.code yX8_levelAt cX8_levelAt 5 (some .int) :: Wd) ({ frames := 0, cells := 0, slots := 0, locals := 0 }) (va_Pc [.ref (r 1), .int t] (WB D c [((r 1), .inr (8, fTd r))] sz)) (QI (S := Unit) D c (fun q _ => q = 0) (fun _ => []) (va_A [((r 1), .inr (8, fTd r))] sz)) 0 0 (va_A [((r 1), .inr (8, fTd r))] sz) := by
  refine kz_met (Qc := QI (S := Unit) D c (fun q _ => q = 0) (fun _ => [])) (by decide) (Nat.le_of_ble_eq_true rfl) ?_
  intro p e s m below meth cd A ls H hx hb hr hml hts hown hlocks hin hN hO hK hP hD hS hA hl
  have hl : lv_has ls 5 [(0, .ref (r 1)), (1, .int t)] := hl
  have hown : s.vm.findClass RX8 = some m.cls := hown
  refine lv_aload_n hx hb dX8_levelAt_0 rfl (lv_at hl 0 rfl) ?_
  refine va_get (D := D) (ci := 8) (v := .int 0) (C := RX8) (T := TX8) (N := 3) hx hb hts inW_8 hown hK hP 0 rfl rfl 2 (by decide) (hts _ wd_120) (fun _ h9 => h9) rfl dX8_levelAt_1 ?_
  refine lv_if_ne (tgt := 9) hx hb dX8_levelAt_4 (by decide) (fun c => False.elim (by revert c; decide)) (fun _ => ?_)
  refine lv_iconst (v := 0) hx hb dX8_levelAt_7 (by decide) ?_
  exact rt_i hx hb hr hlocks hK hP hD hS rfl dX8_levelAt_8 () [] rfl rfl rfl
set_option maxHeartbeats 4000000 in
set_option maxRecDepth 100000 in
/-- X10_add -/
theorem c_X10_add (l : Launch) (D : va_G) (c : Nat → ClassId) (sz : Nat) (r : Nat → Nat) (h : Int32) (x : Int32) (k : Int32) : Met l yX10_add (.code yX10_add cX10_add 4 (some .int) :: Wd) ({ frames := 1, cells := 0, slots := 0, locals := 22 }) (va_Pc [.ref (r 2), .int h, .int x, .int k] (WB D c [((r 2), .inr (10, fWv r)), ((r 22), .inl (c 0, 2400, .inl (fun _ => 0))), ((r 23), .inl (c 0, 1500, .inl (fun _ => 0))), ((r 24), .inl (c 0, 1500, .inl (fun _ => 0))), ((r 25), .inl (c 0, 1500, .inl (fun _ => 0)))] sz)) (QI (S := Unit) D c (fun q _ => q = 1) (fun _ => []) (va_A [((r 2), .inr (10, fWv r)), ((r 22), .inl (c 0, 2400, .inl (fun _ => 0))), ((r 23), .inl (c 0, 1500, .inl (fun _ => 0))), ((r 24), .inl (c 0, 1500, .inl (fun _ => 0))), ((r 25), .inl (c 0, 1500, .inl (fun _ => 0)))] sz)) 0 0 (va_A [((r 2), .inr (10, fWv r)), ((r 22), .inl (c 0, 2400, .inl (fun _ => 0))), ((r 23), .inl (c 0, 1500, .inl (fun _ => 0))), ((r 24), .inl (c 0, 1500, .inl (fun _ => 0))), ((r 25), .inl (c 0, 1500, .inl (fun _ => 0)))] sz) := by
  refine kz_met (Qc := QI (S := Unit) D c (fun q _ => q = 1) (fun _ => [])) (by decide) (Nat.le_of_ble_eq_true rfl) ?_
  intro p e s m below meth cd A ls H hx hb hr hml hts hown hlocks hin hN hO hK hP hD hS hA hl
  have hl : lv_has ls 4 [(0, .ref (r 2)), (1, .int h), (2, .int x), (3, .int k)] := hl
  have hown : s.vm.findClass RX10 = some m.cls := hown
  refine lv_aload_n hx hb dX10_add_0 rfl (lv_at hl 0 rfl) ?_
  refine va_get (D := D) (ci := 10) (v := .ref (r 23)) (C := RX10) (T := TX10) (N := 7) hx hb hts inW_10 hown hK hP 0 rfl rfl 1 (by decide) (hts _ wd_137) (fun _ h9 => h9) rfl dX10_add_1 ?_
  refine lv_aload_n hx hb dX10_add_4 rfl (lv_at hl 0 rfl) ?_
  refine va_get (D := D) (ci := 10) (v := .int 0) (C := RX10) (T := TX10) (N := 7) hx hb hts inW_10 hown hK hP 0 rfl rfl 4 (by decide) (hts _ wd_140) (fun _ h9 => h9) rfl dX10_add_5 ?_
  refine lv_aload_n hx hb dX10_add_8 rfl (lv_at hl 0 rfl) ?_
  refine va_get (D := D) (ci := 10) (v := .ref (r 22)) (C := RX10) (T := TX10) (N := 7) hx hb hts inW_10 hown hK hP 0 rfl rfl 0 (by decide) (hts _ wd_136) (fun _ h9 => h9) rfl dX10_add_9 ?_
  refine lv_iload_n hx hb dX10_add_12 rfl (lv_at hl 1 rfl) ?_
  have hPc := hP.sub (ws' := [((r 22), .inl (c 0, 2400, .inl (fun _ => 0)))]) [1] rfl
  have hDc := hD.sub (ws' := [((r 22), .inl (c 0, 2400, .inl (fun _ => 0)))]) [1] (by decide) rfl
  refine cl_i (wr := [((r 2), .inr (10, fWv r)), ((r 23), .inl (c 0, 1500, .inl (fun _ => 0))), ((r 24), .inl (c 0, 1500, .inl (fun _ => 0))), ((r 25), .inl (c 0, 1500, .inl (fun _ => 0)))]) (va_runSN (As := [.ref (r 22), .int h]) (rest := [.int 0, .ref (r 23)]) ⟨hx, hb, hml, hown, hts⟩ (c_X11_at l D c H.size ((r 22)) 2400 ((by decide)) h) (kw_SN 2 hts (hN (RX10, 34, yX11_at) (List.mem_of_getElem? (i := 7) rfl)) wd_334 wd_83 wd_335 rfl rfl (by decide +kernel) ⟨Nat.le_of_ble_eq_true rfl, Nat.le_of_ble_eq_true rfl⟩) (pre_S hPc hK hDc hN hO) rfl rfl hl.1 rfl (lv_room (Nat.le_of_ble_eq_true rfl)) dX10_add_13 ⟨Nat.le_of_ble_eq_true rfl, Nat.le_of_ble_eq_true rfl⟩) hP hD hS hA [1] [0, 2, 3, 4] rfl rfl (by decide) (by decide) (fun r1 u2 H locs h3 hP hD hS => ?_)
  have hP : va_P D vwCl [((r 2), .inr (10, fWv r)), ((r 23), .inl (c 0, 1500, .inl (fun _ => 0))), ((r 24), .inl (c 0, 1500, .inl (fun _ => 0))), ((r 25), .inl (c 0, 1500, .inl (fun _ => 0))), ((r 22), .inl (c 0, 2400, .inl (fun _ => 0)))] H := hP
  have hD : va_D A [((r 2), .inr (10, fWv r)), ((r 23), .inl (c 0, 1500, .inl (fun _ => 0))), ((r 24), .inl (c 0, 1500, .inl (fun _ => 0))), ((r 25), .inl (c 0, 1500, .inl (fun _ => 0))), ((r 22), .inl (c 0, 2400, .inl (fun _ => 0)))] := hD
  obtain rfl : r1 = 0 := h3
  have hPc := hP.sub (ws' := [((r 23), .inl (c 0, 1500, .inl ((fun _ => 0))))]) [1] rfl
  have hDc := hD.sub (ws' := [((r 23), .inl (c 0, 1500, .inl ((fun _ => 0))))]) [1] (by decide) rfl
  refine cl_v (wr := [((r 2), .inr (10, fWv r)), ((r 24), .inl (c 0, 1500, .inl (fun _ => 0))), ((r 25), .inl (c 0, 1500, .inl (fun _ => 0))), ((r 22), .inl (c 0, 2400, .inl (fun _ => 0)))]) (va_runSN (As := [.ref (r 23), .int 0, .int 0]) (rest := []) ⟨hx, hb, hml, hown, hts⟩ (c_X11_put l D c H.size ((r 23)) 1500 ((by decide)) ((fun _ => 0)) 0 0) (kw_SN 3 hts (hN (RX10, 38, yX11_put) (List.mem_of_getElem? (i := 8) rfl)) wd_341 wd_83 wd_342 rfl rfl (by decide +kernel) ⟨Nat.le_of_ble_eq_true rfl, Nat.le_of_ble_eq_true rfl⟩) (pre_S hPc hK hDc hN hO) rfl rfl hl.1 rfl (lv_room (Nat.le_of_ble_eq_true rfl)) dX10_add_16 ⟨Nat.le_of_ble_eq_true rfl, Nat.le_of_ble_eq_true rfl⟩) hP hD hS hA [1] [0, 2, 3, 4] rfl rfl (by decide) (by decide) (fun u5 H locs h6 hP hD hS => ?_)
  have hP : va_P D vwCl [((r 2), .inr (10, fWv r)), ((r 24), .inl (c 0, 1500, .inl (fun _ => 0))), ((r 25), .inl (c 0, 1500, .inl (fun _ => 0))), ((r 22), .inl (c 0, 2400, .inl (fun _ => 0))), ((r 23), .inl (c 0, 1500, .inl (u5)))] H := hP
  have hD : va_D A [((r 2), .inr (10, fWv r)), ((r 24), .inl (c 0, 1500, .inl (fun _ => 0))), ((r 25), .inl (c 0, 1500, .inl (fun _ => 0))), ((r 22), .inl (c 0, 2400, .inl (fun _ => 0))), ((r 23), .inl (c 0, 1500, .inl (u5)))] := hD
  refine lv_aload_n hx hb dX10_add_19 rfl (lv_at hl 0 rfl) ?_
  refine va_get (D := D) (ci := 10) (v := .ref (r 24)) (C := RX10) (T := TX10) (N := 7) hx hb hts inW_10 hown hK hP 0 rfl rfl 2 (by decide) (hts _ wd_138) (fun _ h9 => h9) rfl dX10_add_20 ?_
  refine lv_aload_n hx hb dX10_add_23 rfl (lv_at hl 0 rfl) ?_
  refine va_get (D := D) (ci := 10) (v := .int 0) (C := RX10) (T := TX10) (N := 7) hx hb hts inW_10 hown hK hP 0 rfl rfl 4 (by decide) (hts _ wd_140) (fun _ h9 => h9) rfl dX10_add_24 ?_
  refine lv_iload_n hx hb dX10_add_27 rfl (lv_at hl 3 rfl) ?_
  have hPc := hP.sub (ws' := [((r 24), .inl (c 0, 1500, .inl ((fun _ => 0))))]) [1] rfl
  have hDc := hD.sub (ws' := [((r 24), .inl (c 0, 1500, .inl ((fun _ => 0))))]) [1] (by decide) rfl
  refine cl_v (wr := [((r 2), .inr (10, fWv r)), ((r 25), .inl (c 0, 1500, .inl (fun _ => 0))), ((r 22), .inl (c 0, 2400, .inl (fun _ => 0))), ((r 23), .inl (c 0, 1500, .inl (u5)))]) (va_runSN (As := [.ref (r 24), .int 0, .int k]) (rest := []) ⟨hx, hb, hml, hown, hts⟩ (c_X11_put l D c H.size ((r 24)) 1500 ((by decide)) ((fun _ => 0)) 0 k) (kw_SN 3 hts (hN (RX10, 38, yX11_put) (List.mem_of_getElem? (i := 8) rfl)) wd_341 wd_83 wd_342 rfl rfl (by decide +kernel) ⟨Nat.le_of_ble_eq_true rfl, Nat.le_of_ble_eq_true rfl⟩) (pre_S hPc hK hDc hN hO) rfl rfl hl.1 rfl (lv_room (Nat.le_of_ble_eq_true rfl)) dX10_add_28 ⟨Nat.le_of_ble_eq_true rfl, Nat.le_of_ble_eq_true rfl⟩) hP hD hS hA [1] [0, 2, 3, 4] rfl rfl (by decide) (by decide) (fun u8 H locs h9 hP hD hS => ?_)
  have hP : va_P D vwCl [((r 2), .inr (10, fWv r)), ((r 25), .inl (c 0, 1500, .inl (fun _ => 0))), ((r 22), .inl (c 0, 2400, .inl (fun _ => 0))), ((r 23), .inl (c 0, 1500, .inl (u5))), ((r 24), .inl (c 0, 1500, .inl (u8)))] H := hP
  have hD : va_D A [((r 2), .inr (10, fWv r)), ((r 25), .inl (c 0, 1500, .inl (fun _ => 0))), ((r 22), .inl (c 0, 2400, .inl (fun _ => 0))), ((r 23), .inl (c 0, 1500, .inl (u5))), ((r 24), .inl (c 0, 1500, .inl (u8)))] := hD
  refine lv_aload_n hx hb dX10_add_31 rfl (lv_at hl 0 rfl) ?_
  refine va_get (D := D) (ci := 10) (v := .ref (r 25)) (C := RX10) (T := TX10) (N := 7) hx hb hts inW_10 hown hK hP 0 rfl rfl 3 (by decide) (hts _ wd_139) (fun _ h9 => h9) rfl dX10_add_32 ?_
  refine lv_aload_n hx hb dX10_add_35 rfl (lv_at hl 0 rfl) ?_
  refine va_get (D := D) (ci := 10) (v := .int 0) (C := RX10) (T := TX10) (N := 7) hx hb hts inW_10 hown hK hP 0 rfl rfl 4 (by decide) (hts _ wd_140) (fun _ h9 => h9) rfl dX10_add_36 ?_
  refine lv_iload_n hx hb dX10_add_39 rfl (lv_at hl 2 rfl) ?_
  have hPc := hP.sub (ws' := [((r 25), .inl (c 0, 1500, .inl ((fun _ => 0))))]) [1] rfl
  have hDc := hD.sub (ws' := [((r 25), .inl (c 0, 1500, .inl ((fun _ => 0))))]) [1] (by decide) rfl
  refine cl_v (wr := [((r 2), .inr (10, fWv r)), ((r 22), .inl (c 0, 2400, .inl (fun _ => 0))), ((r 23), .inl (c 0, 1500, .inl (u5))), ((r 24), .inl (c 0, 1500, .inl (u8)))]) (va_runSN (As := [.ref (r 25), .int 0, .int x]) (rest := []) ⟨hx, hb, hml, hown, hts⟩ (c_X11_put l D c H.size ((r 25)) 1500 ((by decide)) ((fun _ => 0)) 0 x) (kw_SN 3 hts (hN (RX10, 38, yX11_put) (List.mem_of_getElem? (i := 8) rfl)) wd_341 wd_83 wd_342 rfl rfl (by decide +kernel) ⟨Nat.le_of_ble_eq_true rfl, Nat.le_of_ble_eq_true rfl⟩) (pre_S hPc hK hDc hN hO) rfl rfl hl.1 rfl (lv_room (Nat.le_of_ble_eq_true rfl)) dX10_add_40 ⟨Nat.le_of_ble_eq_true rfl, Nat.le_of_ble_eq_true rfl⟩) hP hD hS hA [1] [0, 2, 3, 4] rfl rfl (by decide) (by decide) (fun u11 H locs h12 hP hD hS => ?_)
  have hP : va_P D vwCl [((r 2), .inr (10, fWv r)), ((r 22), .inl (c 0, 2400, .inl (fun _ => 0))), ((r 23), .inl (c 0, 1500, .inl (u5))), ((r 24), .inl (c 0, 1500, .inl (u8))), ((r 25), .inl (c 0, 1500, .inl (u11)))] H := hP
  have hD : va_D A [((r 2), .inr (10, fWv r)), ((r 22), .inl (c 0, 2400, .inl (fun _ => 0))), ((r 23), .inl (c 0, 1500, .inl (u5))), ((r 24), .inl (c 0, 1500, .inl (u8))), ((r 25), .inl (c 0, 1500, .inl (u11)))] := hD
  refine lv_aload_n hx hb dX10_add_43 rfl (lv_at hl 0 rfl) ?_
  refine lv_dup hx hb dX10_add_44 rfl ?_
  refine va_get (D := D) (ci := 10) (v := .int 0) (C := RX10) (T := TX10) (N := 7) hx hb hts inW_10 hown hK hP 0 rfl rfl 4 (by decide) (hts _ wd_140) (fun _ h9 => h9) rfl dX10_add_45 ?_
  refine lv_iconst (v := 1) hx hb dX10_add_48 (by decide) ?_
  refine lv_iadd hx hb dX10_add_49 ?_
  refine lv_topi (fun v13 e14 => ?_)
  obtain rfl : v13 = 1 := e14.trans (by decide)
  refine va_put (D := D) (ci := 10) (v := .int 1) (ty := .int) (C := RX10) (T := TX10) (N := 7) hx hb hts inW_10 tyX10 tyX10_ok nmX10 hown hK hP hD hS 0 rfl rfl 4 (by decide) (hts _ wd_140) (fun _ h9 => h9) rfl (by decide +kernel) rfl rfl (Nat.le_of_ble_eq_true rfl) dX10_add_50 (fun H locs hP hD hS => ?_)
  have hP : va_P D vwCl [((r 2), .inr (10, (fWv r).set 4 (.int 1))), ((r 22), .inl (c 0, 2400, .inl (fun _ => 0))), ((r 23), .inl (c 0, 1500, .inl (u5))), ((r 24), .inl (c 0, 1500, .inl (u8))), ((r 25), .inl (c 0, 1500, .inl (u11)))] H := hP
  have hD : va_D A [((r 2), .inr (10, (fWv r).set 4 (.int 1))), ((r 22), .inl (c 0, 2400, .inl (fun _ => 0))), ((r 23), .inl (c 0, 1500, .inl (u5))), ((r 24), .inl (c 0, 1500, .inl (u8))), ((r 25), .inl (c 0, 1500, .inl (u11)))] := hD
  refine lv_aload_n hx hb dX10_add_53 rfl (lv_at hl 0 rfl) ?_
  refine va_get (D := D) (ci := 10) (v := .ref (r 22)) (C := RX10) (T := TX10) (N := 7) hx hb hts inW_10 hown hK hP 0 rfl rfl 0 (by decide) (hts _ wd_136) (fun _ h9 => h9) rfl dX10_add_54 ?_
  refine lv_iload_n hx hb dX10_add_57 rfl (lv_at hl 1 rfl) ?_
  refine lv_aload_n hx hb dX10_add_58 rfl (lv_at hl 0 rfl) ?_
  refine va_get (D := D) (ci := 10) (v := .int 1) (C := RX10) (T := TX10) (N := 7) hx hb hts inW_10 hown hK hP 0 rfl rfl 4 (by decide) (hts _ wd_140) (fun _ h9 => h9) rfl dX10_add_59 ?_
  have hPc := hP.sub (ws' := [((r 22), .inl (c 0, 2400, .inl ((fun _ => 0))))]) [1] rfl
  have hDc := hD.sub (ws' := [((r 22), .inl (c 0, 2400, .inl ((fun _ => 0))))]) [1] (by decide) rfl
  refine cl_v (wr := [((r 2), .inr (10, (fWv r).set 4 (.int 1))), ((r 23), .inl (c 0, 1500, .inl (u5))), ((r 24), .inl (c 0, 1500, .inl (u8))), ((r 25), .inl (c 0, 1500, .inl (u11)))]) (va_runSN (As := [.ref (r 22), .int h, .int 1]) (rest := []) ⟨hx, hb, hml, hown, hts⟩ (c_X11_put l D c H.size ((r 22)) 2400 ((by decide)) ((fun _ => 0)) h 1) (kw_SN 3 hts (hN (RX10, 38, yX11_put) (List.mem_of_getElem? (i := 8) rfl)) wd_341 wd_83 wd_342 rfl rfl (by decide +kernel) ⟨Nat.le_of_ble_eq_true rfl, Nat.le_of_ble_eq_true rfl⟩) (pre_S hPc hK hDc hN hO) rfl rfl hl.1 rfl (lv_room (Nat.le_of_ble_eq_true rfl)) dX10_add_62 ⟨Nat.le_of_ble_eq_true rfl, Nat.le_of_ble_eq_true rfl⟩) hP hD hS hA [1] [0, 2, 3, 4] rfl rfl (by decide) (by decide) (fun u16 H locs h17 hP hD hS => ?_)
  have hP : va_P D vwCl [((r 2), .inr (10, (fWv r).set 4 (.int 1))), ((r 23), .inl (c 0, 1500, .inl (u5))), ((r 24), .inl (c 0, 1500, .inl (u8))), ((r 25), .inl (c 0, 1500, .inl (u11))), ((r 22), .inl (c 0, 2400, .inl (u16)))] H := hP
  have hD : va_D A [((r 2), .inr (10, (fWv r).set 4 (.int 1))), ((r 23), .inl (c 0, 1500, .inl (u5))), ((r 24), .inl (c 0, 1500, .inl (u8))), ((r 25), .inl (c 0, 1500, .inl (u11))), ((r 22), .inl (c 0, 2400, .inl (u16)))] := hD
  refine lv_aload_n hx hb dX10_add_65 rfl (lv_at hl 0 rfl) ?_
  refine va_get (D := D) (ci := 10) (v := .int 1) (C := RX10) (T := TX10) (N := 7) hx hb hts inW_10 hown hK hP 0 rfl rfl 4 (by decide) (hts _ wd_140) (fun _ h9 => h9) rfl dX10_add_66 ?_
  exact rt_i hx hb hr hlocks hK hP hD hS rfl dX10_add_69 () [] rfl rfl rfl
set_option maxHeartbeats 4000000 in
set_option maxRecDepth 100000 in
/-- X10_heightOf -/
theorem c_X10_heightOf (l : Launch) (D : va_G) (c : Nat → ClassId) (sz : Nat) (r : Nat → Nat) (h : Int32) (k : Int32) : Met l yX10_heightOf (.code yX10_heightOf cX10_heightOf 5 (some .int) :: Wd) ({ frames := 1, cells := 0, slots := 0, locals := 21 }) (va_Pc [.ref (r 2), .int h, .int k] (WB D c [((r 2), .inr (10, fWv r)), ((r 22), .inl (c 0, 2400, .inl (fun _ => 0)))] sz)) (QI (S := Unit) D c (fun q _ => q = 100) (fun _ => []) (va_A [((r 2), .inr (10, fWv r)), ((r 22), .inl (c 0, 2400, .inl (fun _ => 0)))] sz)) 0 0 (va_A [((r 2), .inr (10, fWv r)), ((r 22), .inl (c 0, 2400, .inl (fun _ => 0)))] sz) := by
  refine kz_met (Qc := QI (S := Unit) D c (fun q _ => q = 100) (fun _ => [])) (by decide) (Nat.le_of_ble_eq_true rfl) ?_
  intro p e s m below meth cd A ls H hx hb hr hml hts hown hlocks hin hN hO hK hP hD hS hA hl
  have hl : lv_has ls 5 [(0, .ref (r 2)), (1, .int h), (2, .int k)] := hl
  have hown : s.vm.findClass RX10 = some m.cls := hown
  refine lv_aload_n hx hb dX10_heightOf_0 rfl (lv_at hl 0 rfl) ?_
  refine va_get (D := D) (ci := 10) (v := .ref (r 22)) (C := RX10) (T := TX10) (N := 7) hx hb hts inW_10 hown hK hP 0 rfl rfl 0 (by decide) (hts _ wd_136) (fun _ h9 => h9) rfl dX10_heightOf_1 ?_
  refine lv_iload_n hx hb dX10_heightOf_4 rfl (lv_at hl 1 rfl) ?_
  have hPc := hP.sub (ws' := [((r 22), .inl (c 0, 2400, .inl (fun _ => 0)))]) [1] rfl
  have hDc := hD.sub (ws' := [((r 22), .inl (c 0, 2400, .inl (fun _ => 0)))]) [1] (by decide) rfl
  refine cl_i (wr := [((r 2), .inr (10, fWv r))]) (va_runSN (As := [.ref (r 22), .int h]) (rest := []) ⟨hx, hb, hml, hown, hts⟩ (c_X11_at l D c H.size ((r 22)) 2400 ((by decide)) h) (kw_SN 2 hts (hN (RX10, 34, yX11_at) (List.mem_of_getElem? (i := 7) rfl)) wd_334 wd_83 wd_335 rfl rfl (by decide +kernel) ⟨Nat.le_of_ble_eq_true rfl, Nat.le_of_ble_eq_true rfl⟩) (pre_S hPc hK hDc hN hO) rfl rfl hl.1 rfl (lv_room (Nat.le_of_ble_eq_true rfl)) dX10_heightOf_5 ⟨Nat.le_of_ble_eq_true rfl, Nat.le_of_ble_eq_true rfl⟩) hP hD hS hA [1] [0] rfl rfl (by decide) (by decide) (fun r1 u2 H locs h3 hP hD hS => ?_)
  have hP : va_P D vwCl [((r 2), .inr (10, fWv r)), ((r 22), .inl (c 0, 2400, .inl (fun _ => 0)))] H := hP
  have hD : va_D A [((r 2), .inr (10, fWv r)), ((r 22), .inl (c 0, 2400, .inl (fun _ => 0)))] := hD
  obtain rfl : r1 = 0 := h3
  refine lv_istore_n (lv' := [(3, .int 0), (0, .ref (r 2)), (1, .int h), (2, .int k)]) hx hb dX10_heightOf_8 rfl hl (by decide) rfl (fun ls hl => ?_)
  refine lv_iconst (v := 0) hx hb dX10_heightOf_9 (by decide) ?_
  refine lv_istore (lv' := [(4, .int 0), (3, .int 0), (0, .ref (r 2)), (1, .int h), (2, .int k)]) hx hb dX10_heightOf_10 hl (by decide) rfl (fun ls hl => ?_)
  refine lv_iload_n hx hb dX10_heightOf_12 rfl (lv_at hl 1 rfl) ?_
  refine lv_if_le (tgt := 66) hx hb dX10_heightOf_13 (by decide) (fun _ => ?_) (fun c => False.elim (by revert c; decide))
  refine lv_aload_n hx hb dX10_heightOf_66 rfl (lv_at hl 2 rfl) ?_
  refine va_get (D := D) (ci := 10) (v := .int 100) (C := RX10) (T := TX10) (N := 7) hx hb hts inW_10 hown hK hP 0 rfl rfl 5 (by decide) (hts _ wd_142) (fun _ h9 => h9) rfl dX10_heightOf_67 ?_
  exact rt_i hx hb hr hlocks hK hP hD hS rfl dX10_heightOf_70 () [] rfl rfl rfl
set_option maxHeartbeats 4000000 in
set_option maxRecDepth 100000 in
/-- X5_append -/
theorem c_X5_append (l : Launch) (D : va_G) (c : Nat → ClassId) (sz : Nat) (r : Nat → Nat) (len : Int32) (f : Nat → Int32) (v : Int32) : Met l yX5_append (.code yX5_append cX5_append 3 none :: Wd) ({ frames := 1, cells := 0, slots := 0, locals := 22 }) (va_Pc [.ref (r 4), .int v] (WB D c [((r 4), .inr (5, fRd r len)), ((r 27), .inl (c 0, 300, .inl (f)))] sz)) (QV (S := Int32 × (Nat → Int32)) D c (fun u => u.1 = len + 1 + 1 + 1 + 1) (fun u => [((r 4), .inr (5, fRd r u.1)), ((r 27), .inl (c 0, 300, .inl u.2))]) (va_A [((r 4), .inr (5, fRd r len)), ((r 27), .inl (c 0, 300, .inl (f)))] sz)) 0 0 (va_A [((r 4), .inr (5, fRd r len)), ((r 27), .inl (c 0, 300, .inl (f)))] sz) := by
  refine kz_met (Qc := QV (S := Int32 × (Nat → Int32)) D c (fun u => u.1 = len + 1 + 1 + 1 + 1) (fun u => [((r 4), .inr (5, fRd r u.1)), ((r 27), .inl (c 0, 300, .inl u.2))])) (by decide) (Nat.le_of_ble_eq_true rfl) ?_
  intro p e s m below meth cd A ls H hx hb hr hml hts hown hlocks hin hN hO hK hP hD hS hA hl
  have hl : lv_has ls 3 [(0, .ref (r 4)), (1, .int v)] := hl
  have hown : s.vm.findClass RX5 = some m.cls := hown
  refine lv_bipush (v := 24) hx hb dX5_append_0 (by decide) ?_
  refine lv_istore_n (lv' := [(2, .int 24), (0, .ref (r 4)), (1, .int v)]) hx hb dX5_append_2 rfl hl (by decide) rfl (fun ls hl => ?_)
  refine lv_iload_n hx hb dX5_append_3 rfl (lv_at hl 0 rfl) ?_
  refine lv_if_lt (tgt := 41) hx hb dX5_append_4 (by decide) (fun c => False.elim (by revert c; decide)) (fun _ => ?_)
  refine lv_aload_n hx hb dX5_append_7 rfl (lv_at hl 1 rfl) ?_
  refine va_get (D := D) (ci := 5) (v := .ref (r 27)) (C := RX5) (T := TX5) (N := 9) hx hb hts inW_5 hown hK hP 0 rfl rfl 4 (by decide) (hts _ wd_177) (fun _ h9 => h9) rfl dX5_append_8 ?_
  refine lv_aload_n hx hb dX5_append_11 rfl (lv_at hl 1 rfl) ?_
  refine va_get (D := D) (ci := 5) (v := .int len) (C := RX5) (T := TX5) (N := 9) hx hb hts inW_5 hown hK hP 0 rfl rfl 1 (by decide) (hts _ wd_171) (fun _ h9 => h9) rfl dX5_append_12 ?_
  refine lv_iload_n hx hb dX5_append_15 rfl (lv_at hl 2 rfl) ?_
  refine lv_iload_n hx hb dX5_append_16 rfl (lv_at hl 0 rfl) ?_
  refine lv_ishr hx hb dX5_append_17 ?_
  refine lv_topi (fun v1 e2 => ?_)
  refine lv_sipush (v := 255) hx hb dX5_append_18 (by decide) ?_
  refine lv_iand hx hb dX5_append_21 ?_
  refine lv_topi (fun v3 e4 => ?_)
  have hPc := hP.sub (ws' := [((r 27), .inl (c 0, 300, .inl ((f))))]) [1] rfl
  have hDc := hD.sub (ws' := [((r 27), .inl (c 0, 300, .inl ((f))))]) [1] (by decide) rfl
  refine cl_v (wr := [((r 4), .inr (5, fRd r len))]) (va_runSN (As := [.ref (r 27), .int len, .int v3]) (rest := []) ⟨hx, hb, hml, hown, hts⟩ (c_X11_put l D c H.size ((r 27)) 300 ((by decide)) ((f)) len v3) (kw_SN 3 hts (hN (RX5, 22, yX11_put) (List.mem_of_getElem? (i := 10) rfl)) wd_341 wd_83 wd_342 rfl rfl (by decide +kernel) ⟨Nat.le_of_ble_eq_true rfl, Nat.le_of_ble_eq_true rfl⟩) (pre_S hPc hK hDc hN hO) rfl rfl hl.1 rfl (lv_room (Nat.le_of_ble_eq_true rfl)) dX5_append_22 ⟨Nat.le_of_ble_eq_true rfl, Nat.le_of_ble_eq_true rfl⟩) hP hD hS hA [1] [0] rfl rfl (by decide) (by decide) (fun u6 H locs h7 hP hD hS => ?_)
  have hP : va_P D vwCl [((r 4), .inr (5, fRd r len)), ((r 27), .inl (c 0, 300, .inl (u6)))] H := hP
  have hD : va_D A [((r 4), .inr (5, fRd r len)), ((r 27), .inl (c 0, 300, .inl (u6)))] := hD
  refine lv_aload_n hx hb dX5_append_25 rfl (lv_at hl 1 rfl) ?_
  refine lv_dup hx hb dX5_append_26 rfl ?_
  refine va_get (D := D) (ci := 5) (v := .int len) (C := RX5) (T := TX5) (N := 9) hx hb hts inW_5 hown hK hP 0 rfl rfl 1 (by decide) (hts _ wd_171) (fun _ h9 => h9) rfl dX5_append_27 ?_
  refine lv_iconst (v := 1) hx hb dX5_append_30 (by decide) ?_
  refine lv_iadd hx hb dX5_append_31 ?_
  refine lv_topi (fun v8 e9 => ?_)
  refine va_put (D := D) (ci := 5) (v := .int v8) (ty := .int) (C := RX5) (T := TX5) (N := 9) hx hb hts inW_5 tyX5 tyX5_ok nmX5 hown hK hP hD hS 0 rfl rfl 1 (by decide) (hts _ wd_171) (fun _ h9 => h9) rfl (by decide +kernel) rfl rfl (Nat.le_of_ble_eq_true rfl) dX5_append_32 (fun H locs hP hD hS => ?_)
  have hP : va_P D vwCl [((r 4), .inr (5, (fRd r len).set 1 (.int v8))), ((r 27), .inl (c 0, 300, .inl (u6)))] H := hP
  have hD : va_D A [((r 4), .inr (5, (fRd r len).set 1 (.int v8))), ((r 27), .inl (c 0, 300, .inl (u6)))] := hD
  refine lv_iinc (v := 16) (lv' := [(2, .int 16), (0, .ref (r 4)), (1, .int v)]) hx hb dX5_append_35 hl (k := 0) rfl (by decide) (by decide) rfl (fun ls hl => ?_)
  refine lv_goto (tgt := 3) hx hb dX5_append_38 (by decide) ?_
  refine lv_iload_n hx hb dX5_append_3 rfl (lv_at hl 0 rfl) ?_
  refine lv_if_lt (tgt := 41) hx hb dX5_append_4 (by decide) (fun c => False.elim (by revert c; decide)) (fun _ => ?_)
  refine lv_aload_n hx hb dX5_append_7 rfl (lv_at hl 1 rfl) ?_
  refine va_get (D := D) (ci := 5) (v := .ref (r 27)) (C := RX5) (T := TX5) (N := 9) hx hb hts inW_5 hown hK hP 0 rfl rfl 4 (by decide) (hts _ wd_177) (fun _ h9 => h9) rfl dX5_append_8 ?_
  refine lv_aload_n hx hb dX5_append_11 rfl (lv_at hl 1 rfl) ?_
  refine va_get (D := D) (ci := 5) (v := .int v8) (C := RX5) (T := TX5) (N := 9) hx hb hts inW_5 hown hK hP 0 rfl rfl 1 (by decide) (hts _ wd_171) (fun _ h9 => h9) rfl dX5_append_12 ?_
  refine lv_iload_n hx hb dX5_append_15 rfl (lv_at hl 2 rfl) ?_
  refine lv_iload_n hx hb dX5_append_16 rfl (lv_at hl 0 rfl) ?_
  refine lv_ishr hx hb dX5_append_17 ?_
  refine lv_topi (fun v10 e11 => ?_)
  refine lv_sipush (v := 255) hx hb dX5_append_18 (by decide) ?_
  refine lv_iand hx hb dX5_append_21 ?_
  refine lv_topi (fun v12 e13 => ?_)
  have hPc := hP.sub (ws' := [((r 27), .inl (c 0, 300, .inl ((u6))))]) [1] rfl
  have hDc := hD.sub (ws' := [((r 27), .inl (c 0, 300, .inl ((u6))))]) [1] (by decide) rfl
  refine cl_v (wr := [((r 4), .inr (5, (fRd r len).set 1 (.int v8)))]) (va_runSN (As := [.ref (r 27), .int v8, .int v12]) (rest := []) ⟨hx, hb, hml, hown, hts⟩ (c_X11_put l D c H.size ((r 27)) 300 ((by decide)) ((u6)) v8 v12) (kw_SN 3 hts (hN (RX5, 22, yX11_put) (List.mem_of_getElem? (i := 10) rfl)) wd_341 wd_83 wd_342 rfl rfl (by decide +kernel) ⟨Nat.le_of_ble_eq_true rfl, Nat.le_of_ble_eq_true rfl⟩) (pre_S hPc hK hDc hN hO) rfl rfl hl.1 rfl (lv_room (Nat.le_of_ble_eq_true rfl)) dX5_append_22 ⟨Nat.le_of_ble_eq_true rfl, Nat.le_of_ble_eq_true rfl⟩) hP hD hS hA [1] [0] rfl rfl (by decide) (by decide) (fun u15 H locs h16 hP hD hS => ?_)
  have hP : va_P D vwCl [((r 4), .inr (5, (fRd r len).set 1 (.int v8))), ((r 27), .inl (c 0, 300, .inl (u15)))] H := hP
  have hD : va_D A [((r 4), .inr (5, (fRd r len).set 1 (.int v8))), ((r 27), .inl (c 0, 300, .inl (u15)))] := hD
  refine lv_aload_n hx hb dX5_append_25 rfl (lv_at hl 1 rfl) ?_
  refine lv_dup hx hb dX5_append_26 rfl ?_
  refine va_get (D := D) (ci := 5) (v := .int v8) (C := RX5) (T := TX5) (N := 9) hx hb hts inW_5 hown hK hP 0 rfl rfl 1 (by decide) (hts _ wd_171) (fun _ h9 => h9) rfl dX5_append_27 ?_
  refine lv_iconst (v := 1) hx hb dX5_append_30 (by decide) ?_
  refine lv_iadd hx hb dX5_append_31 ?_
  refine lv_topi (fun v17 e18 => ?_)
  refine va_put (D := D) (ci := 5) (v := .int v17) (ty := .int) (C := RX5) (T := TX5) (N := 9) hx hb hts inW_5 tyX5 tyX5_ok nmX5 hown hK hP hD hS 0 rfl rfl 1 (by decide) (hts _ wd_171) (fun _ h9 => h9) rfl (by decide +kernel) rfl rfl (Nat.le_of_ble_eq_true rfl) dX5_append_32 (fun H locs hP hD hS => ?_)
  have hP : va_P D vwCl [((r 4), .inr (5, ((fRd r len).set 1 (.int v8)).set 1 (.int v17))), ((r 27), .inl (c 0, 300, .inl (u15)))] H := hP
  have hD : va_D A [((r 4), .inr (5, ((fRd r len).set 1 (.int v8)).set 1 (.int v17))), ((r 27), .inl (c 0, 300, .inl (u15)))] := hD
  refine lv_iinc (v := 8) (lv' := [(2, .int 8), (0, .ref (r 4)), (1, .int v)]) hx hb dX5_append_35 hl (k := 0) rfl (by decide) (by decide) rfl (fun ls hl => ?_)
  refine lv_goto (tgt := 3) hx hb dX5_append_38 (by decide) ?_
  refine lv_iload_n hx hb dX5_append_3 rfl (lv_at hl 0 rfl) ?_
  refine lv_if_lt (tgt := 41) hx hb dX5_append_4 (by decide) (fun c => False.elim (by revert c; decide)) (fun _ => ?_)
  refine lv_aload_n hx hb dX5_append_7 rfl (lv_at hl 1 rfl) ?_
  refine va_get (D := D) (ci := 5) (v := .ref (r 27)) (C := RX5) (T := TX5) (N := 9) hx hb hts inW_5 hown hK hP 0 rfl rfl 4 (by decide) (hts _ wd_177) (fun _ h9 => h9) rfl dX5_append_8 ?_
  refine lv_aload_n hx hb dX5_append_11 rfl (lv_at hl 1 rfl) ?_
  refine va_get (D := D) (ci := 5) (v := .int v17) (C := RX5) (T := TX5) (N := 9) hx hb hts inW_5 hown hK hP 0 rfl rfl 1 (by decide) (hts _ wd_171) (fun _ h9 => h9) rfl dX5_append_12 ?_
  refine lv_iload_n hx hb dX5_append_15 rfl (lv_at hl 2 rfl) ?_
  refine lv_iload_n hx hb dX5_append_16 rfl (lv_at hl 0 rfl) ?_
  refine lv_ishr hx hb dX5_append_17 ?_
  refine lv_topi (fun v19 e20 => ?_)
  refine lv_sipush (v := 255) hx hb dX5_append_18 (by decide) ?_
  refine lv_iand hx hb dX5_append_21 ?_
  refine lv_topi (fun v21 e22 => ?_)
  have hPc := hP.sub (ws' := [((r 27), .inl (c 0, 300, .inl ((u15))))]) [1] rfl
  have hDc := hD.sub (ws' := [((r 27), .inl (c 0, 300, .inl ((u15))))]) [1] (by decide) rfl
  refine cl_v (wr := [((r 4), .inr (5, ((fRd r len).set 1 (.int v8)).set 1 (.int v17)))]) (va_runSN (As := [.ref (r 27), .int v17, .int v21]) (rest := []) ⟨hx, hb, hml, hown, hts⟩ (c_X11_put l D c H.size ((r 27)) 300 ((by decide)) ((u15)) v17 v21) (kw_SN 3 hts (hN (RX5, 22, yX11_put) (List.mem_of_getElem? (i := 10) rfl)) wd_341 wd_83 wd_342 rfl rfl (by decide +kernel) ⟨Nat.le_of_ble_eq_true rfl, Nat.le_of_ble_eq_true rfl⟩) (pre_S hPc hK hDc hN hO) rfl rfl hl.1 rfl (lv_room (Nat.le_of_ble_eq_true rfl)) dX5_append_22 ⟨Nat.le_of_ble_eq_true rfl, Nat.le_of_ble_eq_true rfl⟩) hP hD hS hA [1] [0] rfl rfl (by decide) (by decide) (fun u24 H locs h25 hP hD hS => ?_)
  have hP : va_P D vwCl [((r 4), .inr (5, ((fRd r len).set 1 (.int v8)).set 1 (.int v17))), ((r 27), .inl (c 0, 300, .inl (u24)))] H := hP
  have hD : va_D A [((r 4), .inr (5, ((fRd r len).set 1 (.int v8)).set 1 (.int v17))), ((r 27), .inl (c 0, 300, .inl (u24)))] := hD
  refine lv_aload_n hx hb dX5_append_25 rfl (lv_at hl 1 rfl) ?_
  refine lv_dup hx hb dX5_append_26 rfl ?_
  refine va_get (D := D) (ci := 5) (v := .int v17) (C := RX5) (T := TX5) (N := 9) hx hb hts inW_5 hown hK hP 0 rfl rfl 1 (by decide) (hts _ wd_171) (fun _ h9 => h9) rfl dX5_append_27 ?_
  refine lv_iconst (v := 1) hx hb dX5_append_30 (by decide) ?_
  refine lv_iadd hx hb dX5_append_31 ?_
  refine lv_topi (fun v26 e27 => ?_)
  refine va_put (D := D) (ci := 5) (v := .int v26) (ty := .int) (C := RX5) (T := TX5) (N := 9) hx hb hts inW_5 tyX5 tyX5_ok nmX5 hown hK hP hD hS 0 rfl rfl 1 (by decide) (hts _ wd_171) (fun _ h9 => h9) rfl (by decide +kernel) rfl rfl (Nat.le_of_ble_eq_true rfl) dX5_append_32 (fun H locs hP hD hS => ?_)
  have hP : va_P D vwCl [((r 4), .inr (5, (((fRd r len).set 1 (.int v8)).set 1 (.int v17)).set 1 (.int v26))), ((r 27), .inl (c 0, 300, .inl (u24)))] H := hP
  have hD : va_D A [((r 4), .inr (5, (((fRd r len).set 1 (.int v8)).set 1 (.int v17)).set 1 (.int v26))), ((r 27), .inl (c 0, 300, .inl (u24)))] := hD
  refine lv_iinc (v := 0) (lv' := [(2, .int 0), (0, .ref (r 4)), (1, .int v)]) hx hb dX5_append_35 hl (k := 0) rfl (by decide) (by decide) rfl (fun ls hl => ?_)
  refine lv_goto (tgt := 3) hx hb dX5_append_38 (by decide) ?_
  refine lv_iload_n hx hb dX5_append_3 rfl (lv_at hl 0 rfl) ?_
  refine lv_if_lt (tgt := 41) hx hb dX5_append_4 (by decide) (fun c => False.elim (by revert c; decide)) (fun _ => ?_)
  refine lv_aload_n hx hb dX5_append_7 rfl (lv_at hl 1 rfl) ?_
  refine va_get (D := D) (ci := 5) (v := .ref (r 27)) (C := RX5) (T := TX5) (N := 9) hx hb hts inW_5 hown hK hP 0 rfl rfl 4 (by decide) (hts _ wd_177) (fun _ h9 => h9) rfl dX5_append_8 ?_
  refine lv_aload_n hx hb dX5_append_11 rfl (lv_at hl 1 rfl) ?_
  refine va_get (D := D) (ci := 5) (v := .int v26) (C := RX5) (T := TX5) (N := 9) hx hb hts inW_5 hown hK hP 0 rfl rfl 1 (by decide) (hts _ wd_171) (fun _ h9 => h9) rfl dX5_append_12 ?_
  refine lv_iload_n hx hb dX5_append_15 rfl (lv_at hl 2 rfl) ?_
  refine lv_iload_n hx hb dX5_append_16 rfl (lv_at hl 0 rfl) ?_
  refine lv_ishr hx hb dX5_append_17 ?_
  refine lv_topi (fun v28 e29 => ?_)
  refine lv_sipush (v := 255) hx hb dX5_append_18 (by decide) ?_
  refine lv_iand hx hb dX5_append_21 ?_
  refine lv_topi (fun v30 e31 => ?_)
  have hPc := hP.sub (ws' := [((r 27), .inl (c 0, 300, .inl ((u24))))]) [1] rfl
  have hDc := hD.sub (ws' := [((r 27), .inl (c 0, 300, .inl ((u24))))]) [1] (by decide) rfl
  refine cl_v (wr := [((r 4), .inr (5, (((fRd r len).set 1 (.int v8)).set 1 (.int v17)).set 1 (.int v26)))]) (va_runSN (As := [.ref (r 27), .int v26, .int v30]) (rest := []) ⟨hx, hb, hml, hown, hts⟩ (c_X11_put l D c H.size ((r 27)) 300 ((by decide)) ((u24)) v26 v30) (kw_SN 3 hts (hN (RX5, 22, yX11_put) (List.mem_of_getElem? (i := 10) rfl)) wd_341 wd_83 wd_342 rfl rfl (by decide +kernel) ⟨Nat.le_of_ble_eq_true rfl, Nat.le_of_ble_eq_true rfl⟩) (pre_S hPc hK hDc hN hO) rfl rfl hl.1 rfl (lv_room (Nat.le_of_ble_eq_true rfl)) dX5_append_22 ⟨Nat.le_of_ble_eq_true rfl, Nat.le_of_ble_eq_true rfl⟩) hP hD hS hA [1] [0] rfl rfl (by decide) (by decide) (fun u33 H locs h34 hP hD hS => ?_)
  have hP : va_P D vwCl [((r 4), .inr (5, (((fRd r len).set 1 (.int v8)).set 1 (.int v17)).set 1 (.int v26))), ((r 27), .inl (c 0, 300, .inl (u33)))] H := hP
  have hD : va_D A [((r 4), .inr (5, (((fRd r len).set 1 (.int v8)).set 1 (.int v17)).set 1 (.int v26))), ((r 27), .inl (c 0, 300, .inl (u33)))] := hD
  refine lv_aload_n hx hb dX5_append_25 rfl (lv_at hl 1 rfl) ?_
  refine lv_dup hx hb dX5_append_26 rfl ?_
  refine va_get (D := D) (ci := 5) (v := .int v26) (C := RX5) (T := TX5) (N := 9) hx hb hts inW_5 hown hK hP 0 rfl rfl 1 (by decide) (hts _ wd_171) (fun _ h9 => h9) rfl dX5_append_27 ?_
  refine lv_iconst (v := 1) hx hb dX5_append_30 (by decide) ?_
  refine lv_iadd hx hb dX5_append_31 ?_
  refine lv_topi (fun v35 e36 => ?_)
  refine va_put (D := D) (ci := 5) (v := .int v35) (ty := .int) (C := RX5) (T := TX5) (N := 9) hx hb hts inW_5 tyX5 tyX5_ok nmX5 hown hK hP hD hS 0 rfl rfl 1 (by decide) (hts _ wd_171) (fun _ h9 => h9) rfl (by decide +kernel) rfl rfl (Nat.le_of_ble_eq_true rfl) dX5_append_32 (fun H locs hP hD hS => ?_)
  have hP : va_P D vwCl [((r 4), .inr (5, ((((fRd r len).set 1 (.int v8)).set 1 (.int v17)).set 1 (.int v26)).set 1 (.int v35))), ((r 27), .inl (c 0, 300, .inl (u33)))] H := hP
  have hD : va_D A [((r 4), .inr (5, ((((fRd r len).set 1 (.int v8)).set 1 (.int v17)).set 1 (.int v26)).set 1 (.int v35))), ((r 27), .inl (c 0, 300, .inl (u33)))] := hD
  refine lv_iinc (v := (-8)) (lv' := [(2, .int (-8)), (0, .ref (r 4)), (1, .int v)]) hx hb dX5_append_35 hl (k := 0) rfl (by decide) (by decide) rfl (fun ls hl => ?_)
  refine lv_goto (tgt := 3) hx hb dX5_append_38 (by decide) ?_
  refine lv_iload_n hx hb dX5_append_3 rfl (lv_at hl 0 rfl) ?_
  refine lv_if_lt (tgt := 41) hx hb dX5_append_4 (by decide) (fun _ => ?_) (fun c => False.elim (by revert c; decide))
  exact rt_v hx hb hr hlocks hK hP hD hS dX5_append_41 (v35, u33) [0, 1] rfl rfl (by show v35 = _; rw [e36, e27, e18, e9])
set_option maxHeartbeats 4000000 in
set_option maxRecDepth 100000 in
/-- X5_skipBlanks -/
theorem c_X5_skipBlanks (l : Launch) (D : va_G) (c : Nat → ClassId) (sz : Nat) (r : Nat → Nat) : Met l yX5_skipBlanks (.code yX5_skipBlanks cX5_skipBlanks 1 none :: Wd) ({ frames := 0, cells := 0, slots := 0, locals := 0 }) (va_Pc [.ref (r 4)] (WB D c [((r 4), .inr (5, fRd r 0))] sz)) (QV (S := Unit) D c (fun _ => True) (fun _ => [((r 4), .inr (5, fRd r 0))]) (va_A [((r 4), .inr (5, fRd r 0))] sz)) 0 0 (va_A [((r 4), .inr (5, fRd r 0))] sz) := by
  refine kz_met (Qc := QV (S := Unit) D c (fun _ => True) (fun _ => [((r 4), .inr (5, fRd r 0))])) (by decide) (Nat.le_of_ble_eq_true rfl) ?_
  intro p e s m below meth cd A ls H hx hb hr hml hts hown hlocks hin hN hO hK hP hD hS hA hl
  have hl : lv_has ls 1 [(0, .ref (r 4))] := hl
  have hown : s.vm.findClass RX5 = some m.cls := hown
  refine lv_aload_n hx hb dX5_skipBlanks_0 rfl (lv_at hl 0 rfl) ?_
  refine va_get (D := D) (ci := 5) (v := .int 0) (C := RX5) (T := TX5) (N := 9) hx hb hts inW_5 hown hK hP 0 rfl rfl 5 (by decide) (hts _ wd_178) (fun _ h9 => h9) rfl dX5_skipBlanks_1 ?_
  refine lv_aload_n hx hb dX5_skipBlanks_4 rfl (lv_at hl 0 rfl) ?_
  refine va_get (D := D) (ci := 5) (v := .int 0) (C := RX5) (T := TX5) (N := 9) hx hb hts inW_5 hown hK hP 0 rfl rfl 1 (by decide) (hts _ wd_171) (fun _ h9 => h9) rfl dX5_skipBlanks_5 ?_
  refine lv_icmp_ge (tgt := 33) hx hb dX5_skipBlanks_8 (by decide) (fun _ => ?_) (fun c => False.elim (by revert c; decide))
  exact rt_v hx hb hr hlocks hK hP hD hS dX5_skipBlanks_33 () [0] rfl rfl trivial
set_option maxHeartbeats 4000000 in
set_option maxRecDepth 100000 in
/-- X5_read -/
theorem c_X5_read (l : Launch) (D : va_G) (c : Nat → ClassId) (sz : Nat) (r : Nat → Nat) : Met l yX5_read (.code yX5_read cX5_read 3 (some .int) :: Wd) ({ frames := 1, cells := 0, slots := 0, locals := 20 }) (va_Pc [.ref (r 4)] (WB D c [((r 4), .inr (5, fRd r 0))] sz)) (QI (S := Unit) D c (fun q _ => q = 0) (fun _ => [((r 4), .inr (5, fRd r 0))]) (va_A [((r 4), .inr (5, fRd r 0))] sz)) 0 0 (va_A [((r 4), .inr (5, fRd r 0))] sz) := by
  refine kz_met (Qc := QI (S := Unit) D c (fun q _ => q = 0) (fun _ => [((r 4), .inr (5, fRd r 0))])) (by decide) (Nat.le_of_ble_eq_true rfl) ?_
  intro p e s m below meth cd A ls H hx hb hr hml hts hown hlocks hin hN hO hK hP hD hS hA hl
  have hl : lv_has ls 3 [(0, .ref (r 4))] := hl
  have hown : s.vm.findClass RX5 = some m.cls := hown
  refine lv_aload_n hx hb dX5_read_0 rfl (lv_at hl 0 rfl) ?_
  refine lv_iconst (v := 0) hx hb dX5_read_1 (by decide) ?_
  refine va_put (D := D) (ci := 5) (v := .int 0) (ty := .int) (C := RX5) (T := TX5) (N := 9) hx hb hts inW_5 tyX5 tyX5_ok nmX5 hown hK hP hD hS 0 rfl rfl 5 (by decide) (hts _ wd_178) (fun _ h9 => h9) rfl (by decide +kernel) rfl rfl (Nat.le_of_ble_eq_true rfl) dX5_read_2 (fun H locs hP hD hS => ?_)
  have hP : va_P D vwCl [((r 4), .inr (5, (fRd r 0).set 5 (.int 0)))] H := hP
  have hD : va_D A [((r 4), .inr (5, (fRd r 0).set 5 (.int 0)))] := hD
  refine lv_aload_n hx hb dX5_read_5 rfl (lv_at hl 0 rfl) ?_
  refine lv_iconst (v := 0) hx hb dX5_read_6 (by decide) ?_
  refine va_put (D := D) (ci := 5) (v := .int 0) (ty := .int) (C := RX5) (T := TX5) (N := 9) hx hb hts inW_5 tyX5 tyX5_ok nmX5 hown hK hP hD hS 0 rfl rfl 2 (by decide) (hts _ wd_173) (fun _ h9 => h9) rfl (by decide +kernel) rfl rfl (Nat.le_of_ble_eq_true rfl) dX5_read_7 (fun H locs hP hD hS => ?_)
  have hP : va_P D vwCl [((r 4), .inr (5, ((fRd r 0).set 5 (.int 0)).set 2 (.int 0)))] H := hP
  have hD : va_D A [((r 4), .inr (5, ((fRd r 0).set 5 (.int 0)).set 2 (.int 0)))] := hD
  refine lv_aload_n hx hb dX5_read_10 rfl (lv_at hl 0 rfl) ?_
  refine lv_iconst (v := 0) hx hb dX5_read_11 (by decide) ?_
  refine va_put (D := D) (ci := 5) (v := .int 0) (ty := .int) (C := RX5) (T := TX5) (N := 9) hx hb hts inW_5 tyX5 tyX5_ok nmX5 hown hK hP hD hS 0 rfl rfl 3 (by decide) (hts _ wd_175) (fun _ h9 => h9) rfl (by decide +kernel) rfl rfl (Nat.le_of_ble_eq_true rfl) dX5_read_12 (fun H locs hP hD hS => ?_)
  have hP : va_P D vwCl [((r 4), .inr (5, (((fRd r 0).set 5 (.int 0)).set 2 (.int 0)).set 3 (.int 0)))] H := hP
  have hD : va_D A [((r 4), .inr (5, (((fRd r 0).set 5 (.int 0)).set 2 (.int 0)).set 3 (.int 0)))] := hD
  refine lv_aload_n hx hb dX5_read_15 rfl (lv_at hl 0 rfl) ?_
  refine lv_iconst (v := 0) hx hb dX5_read_16 (by decide) ?_
  refine va_put (D := D) (ci := 5) (v := .int 0) (ty := .int) (C := RX5) (T := TX5) (N := 9) hx hb hts inW_5 tyX5 tyX5_ok nmX5 hown hK hP hD hS 0 rfl rfl 7 (by decide) (hts _ wd_180) (fun _ h9 => h9) rfl (by decide +kernel) rfl rfl (Nat.le_of_ble_eq_true rfl) dX5_read_17 (fun H locs hP hD hS => ?_)
  have hP : va_P D vwCl [((r 4), .inr (5, ((((fRd r 0).set 5 (.int 0)).set 2 (.int 0)).set 3 (.int 0)).set 7 (.int 0)))] H := hP
  have hD : va_D A [((r 4), .inr (5, ((((fRd r 0).set 5 (.int 0)).set 2 (.int 0)).set 3 (.int 0)).set 7 (.int 0)))] := hD
  refine lv_aload_n hx hb dX5_read_20 rfl (lv_at hl 0 rfl) ?_
  refine lv_iconst (v := 0) hx hb dX5_read_21 (by decide) ?_
  refine va_put (D := D) (ci := 5) (v := .int 0) (ty := .int) (C := RX5) (T := TX5) (N := 9) hx hb hts inW_5 tyX5 tyX5_ok nmX5 hown hK hP hD hS 0 rfl rfl 8 (by decide) (hts _ wd_181) (fun _ h9 => h9) rfl (by decide +kernel) rfl rfl (Nat.le_of_ble_eq_true rfl) dX5_read_22 (fun H locs hP hD hS => ?_)
  have hP : va_P D vwCl [((r 4), .inr (5, (((((fRd r 0).set 5 (.int 0)).set 2 (.int 0)).set 3 (.int 0)).set 7 (.int 0)).set 8 (.int 0)))] H := hP
  have hD : va_D A [((r 4), .inr (5, (((((fRd r 0).set 5 (.int 0)).set 2 (.int 0)).set 3 (.int 0)).set 7 (.int 0)).set 8 (.int 0)))] := hD
  refine lv_aload_n hx hb dX5_read_25 rfl (lv_at hl 0 rfl) ?_
  have hPc := hP.sub (ws' := [((r 4), .inr (5, fRd r 0))]) [0] rfl
  have hDc := hD.sub (ws' := [((r 4), .inr (5, fRd r 0))]) [0] (by decide) rfl
  refine cl_v (wr := []) (va_runV (As := []) (rest := []) ⟨hx, hb, hml, hown, hts⟩ (c_X5_skipBlanks l D c H.size r) (kw_V 0 hts wd_722 wd_724 wd_12 wd_86 wd_725 rfl rfl (by decide +kernel) ⟨Nat.le_of_ble_eq_true rfl, Nat.le_of_ble_eq_true rfl⟩) (pre_V hPc hK hDc hN hO (ci := 5) (q0 := 0) rfl rfl) rfl rfl hl.1 rfl (lv_room (Nat.le_of_ble_eq_true rfl)) dX5_read_26 ⟨Nat.le_of_ble_eq_true rfl, Nat.le_of_ble_eq_true rfl⟩) hP hD hS hA [0] [] rfl rfl (by decide) (by decide) (fun u2 H locs h3 hP hD hS => ?_)
  have hP : va_P D vwCl [((r 4), .inr (5, fRd r 0))] H := hP
  have hD : va_D A [((r 4), .inr (5, fRd r 0))] := hD
  refine lv_aload_n hx hb dX5_read_29 rfl (lv_at hl 0 rfl) ?_
  refine va_get (D := D) (ci := 5) (v := .int 0) (C := RX5) (T := TX5) (N := 9) hx hb hts inW_5 hown hK hP 0 rfl rfl 5 (by decide) (hts _ wd_178) (fun _ h9 => h9) rfl dX5_read_30 ?_
  refine lv_aload_n hx hb dX5_read_33 rfl (lv_at hl 0 rfl) ?_
  refine va_get (D := D) (ci := 5) (v := .int 0) (C := RX5) (T := TX5) (N := 9) hx hb hts inW_5 hown hK hP 0 rfl rfl 1 (by decide) (hts _ wd_171) (fun _ h9 => h9) rfl dX5_read_34 ?_
  refine lv_icmp_ge (tgt := 44) hx hb dX5_read_37 (by decide) (fun _ => ?_) (fun c => False.elim (by revert c; decide))
  refine lv_iconst (v := 0) hx hb dX5_read_44 (by decide) ?_
  refine lv_istore_n (lv' := [(1, .int 0), (0, .ref (r 4))]) hx hb dX5_read_45 rfl hl (by decide) rfl (fun ls hl => ?_)
  refine lv_iconst (v := 0) hx hb dX5_read_46 (by decide) ?_
  refine lv_istore_n (lv' := [(2, .int 0), (1, .int 0), (0, .ref (r 4))]) hx hb dX5_read_47 rfl hl (by decide) rfl (fun ls hl => ?_)
  refine lv_iload_n hx hb dX5_read_48 rfl (lv_at hl 1 rfl) ?_
  refine lv_if_eq (tgt := 161) hx hb dX5_read_49 (by decide) (fun _ => ?_) (fun c => False.elim (by revert c; decide))
  refine lv_aload_n hx hb dX5_read_161 rfl (lv_at hl 2 rfl) ?_
  refine va_get (D := D) (ci := 5) (v := .int 0) (C := RX5) (T := TX5) (N := 9) hx hb hts inW_5 hown hK hP 0 rfl rfl 8 (by decide) (hts _ wd_181) (fun _ h9 => h9) rfl dX5_read_162 ?_
  exact rt_i hx hb hr hlocks hK hP hD hS rfl dX5_read_165 () [0] rfl rfl rfl
set_option maxHeartbeats 4000000 in
set_option maxRecDepth 100000 in
/-- X8_init -/
theorem c_X8_init (l : Launch) (D : va_G) (c : Nat → ClassId) (sz : Nat) (h0 : Nat) : Met l yX8_init (.code yX8_init cX8_init 1 none :: Wd) ({ frames := 1, cells := 2, slots := 1000, locals := 32 }) (va_Pc [.ref h0] (WB D c [(h0, .inr (8, nwX8))] sz)) (QV (S := Nat × Nat) D c (fun _ => True) (fun u => [(h0, .inr (8, [.ref (u.1), .ref (u.2), .int 0])), (u.1, .inl (c 0, 500, .inl (fun _ => 0))), (u.2, .inl (c 0, 500, .inl (fun _ => 0)))]) (va_A [(h0, .inr (8, nwX8))] sz)) 2 1000 (va_A [(h0, .inr (8, nwX8))] sz) := by
  refine kz_met (Qc := QV (S := Nat × Nat) D c (fun _ => True) (fun u => [(h0, .inr (8, [.ref (u.1), .ref (u.2), .int 0])), (u.1, .inl (c 0, 500, .inl (fun _ => 0))), (u.2, .inl (c 0, 500, .inl (fun _ => 0)))])) (by decide) (Nat.le_of_ble_eq_true rfl) ?_
  intro p e s m below meth cd A ls H hx hb hr hml hts hown hlocks hin hN hO hK hP hD hS hA hl
  have hl : lv_has ls 1 [(0, .ref h0)] := hl
  have hown : s.vm.findClass RX8 = some m.cls := hown
  refine lv_aload_n hx hb dX8_init_0 rfl (lv_at hl 0 rfl) ?_
  refine W.objInit hx hb hown (hts _ wd_117) (hts _ wd_110) (hts _ wd_111) rfl (by rw [hml]; exact hl.1) rfl dX8_init_1 (Nat.le_of_ble_eq_true rfl) (Nat.le_of_ble_eq_true rfl) ?_
  refine W.eq (g2 := F0 m 4 ls []) rfl ?_
  refine lv_aload_n hx hb dX8_init_4 rfl (lv_at hl 0 rfl) ?_
  refine lv_sipush (v := 500) hx hb dX8_init_5 (by decide) ?_
  refine kz_newa (c := c) (atype := .int) (a0 := (500, .inl (fun _ => 0))) hx hb 0 rfl (hts _ wd_129) rfl hK hP hD hS hA (fun _ => rfl) (by decide) (by decide) (Nat.le_of_ble_eq_true rfl) (Nat.le_of_ble_eq_true rfl) (Nat.le_of_ble_eq_true rfl) dX8_init_8 (fun q1 H hP hD hS => ?_)
  have hP : va_P D vwCl [(h0, .inr (8, nwX8)), (q1, .inl (c 0, 500, .inl (fun _ => 0)))] H := hP
  have hD : va_D A [(h0, .inr (8, nwX8)), (q1, .inl (c 0, 500, .inl (fun _ => 0)))] := hD
  refine W.widen (k := 1) (n := 500) (Nat.le_of_ble_eq_true rfl) (Nat.le_of_ble_eq_true rfl) ?_
  refine va_putF (D := D) (ci := 8) (v := .ref q1) (ty := (.array .int)) (C := RX8) (T := TX8) (N := 3) hx hb hts inW_8 tyX8 tyX8_ok nmX8 hown hK hP hD hS 0 rfl rfl 0 (by decide) (hts _ wd_118) (fun _ h9 => h9) rfl hin rfl (by decide +kernel) rfl rfl (Nat.le_of_ble_eq_true rfl) dX8_init_10 (fun H locs hP hD hS => ?_)
  have hP : va_P D vwCl [(h0, .inr (8, [.ref q1, .null, .int 0])), (q1, .inl (c 0, 500, .inl (fun _ => 0)))] H := hP
  have hD : va_D A [(h0, .inr (8, [.ref q1, .null, .int 0])), (q1, .inl (c 0, 500, .inl (fun _ => 0)))] := hD
  refine lv_aload_n hx hb dX8_init_13 rfl (lv_at hl 0 rfl) ?_
  refine lv_sipush (v := 500) hx hb dX8_init_14 (by decide) ?_
  refine kz_newa (c := c) (atype := .int) (a0 := (500, .inl (fun _ => 0))) hx hb 0 rfl (hts _ wd_129) rfl hK hP hD hS hA (fun _ => rfl) (by decide) (by decide) (Nat.le_of_ble_eq_true rfl) (Nat.le_of_ble_eq_true rfl) (Nat.le_of_ble_eq_true rfl) dX8_init_17 (fun q2 H hP hD hS => ?_)
  have hP : va_P D vwCl [(h0, .inr (8, [.ref q1, .null, .int 0])), (q1, .inl (c 0, 500, .inl (fun _ => 0))), (q2, .inl (c 0, 500, .inl (fun _ => 0)))] H := hP
  have hD : va_D A [(h0, .inr (8, [.ref q1, .null, .int 0])), (q1, .inl (c 0, 500, .inl (fun _ => 0))), (q2, .inl (c 0, 500, .inl (fun _ => 0)))] := hD
  refine W.widen (k := 2) (n := 1000) (Nat.le_of_ble_eq_true rfl) (Nat.le_of_ble_eq_true rfl) ?_
  refine va_putF (D := D) (ci := 8) (v := .ref q2) (ty := (.array .int)) (C := RX8) (T := TX8) (N := 3) hx hb hts inW_8 tyX8 tyX8_ok nmX8 hown hK hP hD hS 0 rfl rfl 1 (by decide) (hts _ wd_119) (fun _ h9 => h9) rfl hin rfl (by decide +kernel) rfl rfl (Nat.le_of_ble_eq_true rfl) dX8_init_19 (fun H locs hP hD hS => ?_)
  have hP : va_P D vwCl [(h0, .inr (8, [.ref q1, .ref q2, .int 0])), (q1, .inl (c 0, 500, .inl (fun _ => 0))), (q2, .inl (c 0, 500, .inl (fun _ => 0)))] H := hP
  have hD : va_D A [(h0, .inr (8, [.ref q1, .ref q2, .int 0])), (q1, .inl (c 0, 500, .inl (fun _ => 0))), (q2, .inl (c 0, 500, .inl (fun _ => 0)))] := hD
  exact rt_v hx hb hr hlocks hK hP hD hS dX8_init_22 (q1, q2) [0, 1, 2] rfl rfl trivial
set_option maxHeartbeats 4000000 in
set_option maxRecDepth 100000 in
/-- X10_init -/
theorem c_X10_init (l : Launch) (D : va_G) (c : Nat → ClassId) (sz : Nat) (h0 : Nat) : Met l yX10_init (.code yX10_init cX10_init 1 none :: Wd) ({ frames := 1, cells := 4, slots := 6900, locals := 32 }) (va_Pc [.ref h0] (WB D c [(h0, .inr (10, nwX10))] sz)) (QV (S := Nat × Nat × Nat × Nat) D c (fun _ => True) (fun u => [(h0, .inr (10, [.ref (u.1), .ref (u.2.1), .ref (u.2.2.1), .ref (u.2.2.2), .int 0, .int 100, .int 150])), (u.1, .inl (c 0, 2400, .inl (fun _ => 0))), (u.2.1, .inl (c 0, 1500, .inl (fun _ => 0))), (u.2.2.1, .inl (c 0, 1500, .inl (fun _ => 0))), (u.2.2.2, .inl (c 0, 1500, .inl (fun _ => 0)))]) (va_A [(h0, .inr (10, nwX10))] sz)) 4 6900 (va_A [(h0, .inr (10, nwX10))] sz) := by
  refine kz_met (Qc := QV (S := Nat × Nat × Nat × Nat) D c (fun _ => True) (fun u => [(h0, .inr (10, [.ref (u.1), .ref (u.2.1), .ref (u.2.2.1), .ref (u.2.2.2), .int 0, .int 100, .int 150])), (u.1, .inl (c 0, 2400, .inl (fun _ => 0))), (u.2.1, .inl (c 0, 1500, .inl (fun _ => 0))), (u.2.2.1, .inl (c 0, 1500, .inl (fun _ => 0))), (u.2.2.2, .inl (c 0, 1500, .inl (fun _ => 0)))])) (by decide) (Nat.le_of_ble_eq_true rfl) ?_
  intro p e s m below meth cd A ls H hx hb hr hml hts hown hlocks hin hN hO hK hP hD hS hA hl
  have hl : lv_has ls 1 [(0, .ref h0)] := hl
  have hown : s.vm.findClass RX10 = some m.cls := hown
  refine lv_aload_n hx hb dX10_init_0 rfl (lv_at hl 0 rfl) ?_
  refine W.objInit hx hb hown (hts _ wd_135) (hts _ wd_110) (hts _ wd_111) rfl (by rw [hml]; exact hl.1) rfl dX10_init_1 (Nat.le_of_ble_eq_true rfl) (Nat.le_of_ble_eq_true rfl) ?_
  refine W.eq (g2 := F0 m 4 ls []) rfl ?_
  refine lv_aload_n hx hb dX10_init_4 rfl (lv_at hl 0 rfl) ?_
  refine lv_sipush (v := 2400) hx hb dX10_init_5 (by decide) ?_
  refine kz_newa (c := c) (atype := .int) (a0 := (2400, .inl (fun _ => 0))) hx hb 0 rfl (hts _ wd_129) rfl hK hP hD hS hA (fun _ => rfl) (by decide) (by decide) (Nat.le_of_ble_eq_true rfl) (Nat.le_of_ble_eq_true rfl) (Nat.le_of_ble_eq_true rfl) dX10_init_8 (fun q1 H hP hD hS => ?_)
  have hP : va_P D vwCl [(h0, .inr (10, nwX10)), (q1, .inl (c 0, 2400, .inl (fun _ => 0)))] H := hP
  have hD : va_D A [(h0, .inr (10, nwX10)), (q1, .inl (c 0, 2400, .inl (fun _ => 0)))] := hD
  refine W.widen (k := 1) (n := 2400) (Nat.le_of_ble_eq_true rfl) (Nat.le_of_ble_eq_true rfl) ?_
  refine va_putF (D := D) (ci := 10) (v := .ref q1) (ty := (.array .int)) (C := RX10) (T := TX10) (N := 7) hx hb hts inW_10 tyX10 tyX10_ok nmX10 hown hK hP hD hS 0 rfl rfl 0 (by decide) (hts _ wd_136) (fun _ h9 => h9) rfl hin rfl (by decide +kernel) rfl rfl (Nat.le_of_ble_eq_true rfl) dX10_init_10 (fun H locs hP hD hS => ?_)
  have hP : va_P D vwCl [(h0, .inr (10, [.ref q1, .null, .null, .null, .int 0, .int 0, .int 0])), (q1, .inl (c 0, 2400, .inl (fun _ => 0)))] H := hP
  have hD : va_D A [(h0, .inr (10, [.ref q1, .null, .null, .null, .int 0, .int 0, .int 0])), (q1, .inl (c 0, 2400, .inl (fun _ => 0)))] := hD
  refine lv_aload_n hx hb dX10_init_13 rfl (lv_at hl 0 rfl) ?_
  refine lv_sipush (v := 1500) hx hb dX10_init_14 (by decide) ?_
  refine kz_newa (c := c) (atype := .int) (a0 := (1500, .inl (fun _ => 0))) hx hb 0 rfl (hts _ wd_129) rfl hK hP hD hS hA (fun _ => rfl) (by decide) (by decide) (Nat.le_of_ble_eq_true rfl) (Nat.le_of_ble_eq_true rfl) (Nat.le_of_ble_eq_true rfl) dX10_init_17 (fun q2 H hP hD hS => ?_)
  have hP : va_P D vwCl [(h0, .inr (10, [.ref q1, .null, .null, .null, .int 0, .int 0, .int 0])), (q1, .inl (c 0, 2400, .inl (fun _ => 0))), (q2, .inl (c 0, 1500, .inl (fun _ => 0)))] H := hP
  have hD : va_D A [(h0, .inr (10, [.ref q1, .null, .null, .null, .int 0, .int 0, .int 0])), (q1, .inl (c 0, 2400, .inl (fun _ => 0))), (q2, .inl (c 0, 1500, .inl (fun _ => 0)))] := hD
  refine W.widen (k := 2) (n := 3900) (Nat.le_of_ble_eq_true rfl) (Nat.le_of_ble_eq_true rfl) ?_
  refine va_putF (D := D) (ci := 10) (v := .ref q2) (ty := (.array .int)) (C := RX10) (T := TX10) (N := 7) hx hb hts inW_10 tyX10 tyX10_ok nmX10 hown hK hP hD hS 0 rfl rfl 1 (by decide) (hts _ wd_137) (fun _ h9 => h9) rfl hin rfl (by decide +kernel) rfl rfl (Nat.le_of_ble_eq_true rfl) dX10_init_19 (fun H locs hP hD hS => ?_)
  have hP : va_P D vwCl [(h0, .inr (10, [.ref q1, .ref q2, .null, .null, .int 0, .int 0, .int 0])), (q1, .inl (c 0, 2400, .inl (fun _ => 0))), (q2, .inl (c 0, 1500, .inl (fun _ => 0)))] H := hP
  have hD : va_D A [(h0, .inr (10, [.ref q1, .ref q2, .null, .null, .int 0, .int 0, .int 0])), (q1, .inl (c 0, 2400, .inl (fun _ => 0))), (q2, .inl (c 0, 1500, .inl (fun _ => 0)))] := hD
  refine lv_aload_n hx hb dX10_init_22 rfl (lv_at hl 0 rfl) ?_
  refine lv_sipush (v := 1500) hx hb dX10_init_23 (by decide) ?_
  refine kz_newa (c := c) (atype := .int) (a0 := (1500, .inl (fun _ => 0))) hx hb 0 rfl (hts _ wd_129) rfl hK hP hD hS hA (fun _ => rfl) (by decide) (by decide) (Nat.le_of_ble_eq_true rfl) (Nat.le_of_ble_eq_true rfl) (Nat.le_of_ble_eq_true rfl) dX10_init_26 (fun q3 H hP hD hS => ?_)
  have hP : va_P D vwCl [(h0, .inr (10, [.ref q1, .ref q2, .null, .null, .int 0, .int 0, .int 0])), (q1, .inl (c 0, 2400, .inl (fun _ => 0))), (q2, .inl (c 0, 1500, .inl (fun _ => 0))), (q3, .inl (c 0, 1500, .inl (fun _ => 0)))] H := hP
  have hD : va_D A [(h0, .inr (10, [.ref q1, .ref q2, .null, .null, .int 0, .int 0, .int 0])), (q1, .inl (c 0, 2400, .inl (fun _ => 0))), (q2, .inl (c 0, 1500, .inl (fun _ => 0))), (q3, .inl (c 0, 1500, .inl (fun _ => 0)))] := hD
  refine W.widen (k := 3) (n := 5400) (Nat.le_of_ble_eq_true rfl) (Nat.le_of_ble_eq_true rfl) ?_
  refine va_putF (D := D) (ci := 10) (v := .ref q3) (ty := (.array .int)) (C := RX10) (T := TX10) (N := 7) hx hb hts inW_10 tyX10 tyX10_ok nmX10 hown hK hP hD hS 0 rfl rfl 2 (by decide) (hts _ wd_138) (fun _ h9 => h9) rfl hin rfl (by decide +kernel) rfl rfl (Nat.le_of_ble_eq_true rfl) dX10_init_28 (fun H locs hP hD hS => ?_)
  have hP : va_P D vwCl [(h0, .inr (10, [.ref q1, .ref q2, .ref q3, .null, .int 0, .int 0, .int 0])), (q1, .inl (c 0, 2400, .inl (fun _ => 0))), (q2, .inl (c 0, 1500, .inl (fun _ => 0))), (q3, .inl (c 0, 1500, .inl (fun _ => 0)))] H := hP
  have hD : va_D A [(h0, .inr (10, [.ref q1, .ref q2, .ref q3, .null, .int 0, .int 0, .int 0])), (q1, .inl (c 0, 2400, .inl (fun _ => 0))), (q2, .inl (c 0, 1500, .inl (fun _ => 0))), (q3, .inl (c 0, 1500, .inl (fun _ => 0)))] := hD
  refine lv_aload_n hx hb dX10_init_31 rfl (lv_at hl 0 rfl) ?_
  refine lv_sipush (v := 1500) hx hb dX10_init_32 (by decide) ?_
  refine kz_newa (c := c) (atype := .int) (a0 := (1500, .inl (fun _ => 0))) hx hb 0 rfl (hts _ wd_129) rfl hK hP hD hS hA (fun _ => rfl) (by decide) (by decide) (Nat.le_of_ble_eq_true rfl) (Nat.le_of_ble_eq_true rfl) (Nat.le_of_ble_eq_true rfl) dX10_init_35 (fun q4 H hP hD hS => ?_)
  have hP : va_P D vwCl [(h0, .inr (10, [.ref q1, .ref q2, .ref q3, .null, .int 0, .int 0, .int 0])), (q1, .inl (c 0, 2400, .inl (fun _ => 0))), (q2, .inl (c 0, 1500, .inl (fun _ => 0))), (q3, .inl (c 0, 1500, .inl (fun _ => 0))), (q4, .inl (c 0, 1500, .inl (fun _ => 0)))] H := hP
  have hD : va_D A [(h0, .inr (10, [.ref q1, .ref q2, .ref q3, .null, .int 0, .int 0, .int 0])), (q1, .inl (c 0, 2400, .inl (fun _ => 0))), (q2, .inl (c 0, 1500, .inl (fun _ => 0))), (q3, .inl (c 0, 1500, .inl (fun _ => 0))), (q4, .inl (c 0, 1500, .inl (fun _ => 0)))] := hD
  refine W.widen (k := 4) (n := 6900) (Nat.le_of_ble_eq_true rfl) (Nat.le_of_ble_eq_true rfl) ?_
  refine va_putF (D := D) (ci := 10) (v := .ref q4) (ty := (.array .int)) (C := RX10) (T := TX10) (N := 7) hx hb hts inW_10 tyX10 tyX10_ok nmX10 hown hK hP hD hS 0 rfl rfl 3 (by decide) (hts _ wd_139) (fun _ h9 => h9) rfl hin rfl (by decide +kernel) rfl rfl (Nat.le_of_ble_eq_true rfl) dX10_init_37 (fun H locs hP hD hS => ?_)
  have hP : va_P D vwCl [(h0, .inr (10, [.ref q1, .ref q2, .ref q3, .ref q4, .int 0, .int 0, .int 0])), (q1, .inl (c 0, 2400, .inl (fun _ => 0))), (q2, .inl (c 0, 1500, .inl (fun _ => 0))), (q3, .inl (c 0, 1500, .inl (fun _ => 0))), (q4, .inl (c 0, 1500, .inl (fun _ => 0)))] H := hP
  have hD : va_D A [(h0, .inr (10, [.ref q1, .ref q2, .ref q3, .ref q4, .int 0, .int 0, .int 0])), (q1, .inl (c 0, 2400, .inl (fun _ => 0))), (q2, .inl (c 0, 1500, .inl (fun _ => 0))), (q3, .inl (c 0, 1500, .inl (fun _ => 0))), (q4, .inl (c 0, 1500, .inl (fun _ => 0)))] := hD
  refine lv_aload_n hx hb dX10_init_40 rfl (lv_at hl 0 rfl) ?_
  refine lv_bipush (v := 100) hx hb dX10_init_41 (by decide) ?_
  refine va_put (D := D) (ci := 10) (v := .int 100) (ty := .int) (C := RX10) (T := TX10) (N := 7) hx hb hts inW_10 tyX10 tyX10_ok nmX10 hown hK hP hD hS 0 rfl rfl 5 (by decide) (hts _ wd_142) (fun _ h9 => h9) rfl (by decide +kernel) rfl rfl (Nat.le_of_ble_eq_true rfl) dX10_init_43 (fun H locs hP hD hS => ?_)
  have hP : va_P D vwCl [(h0, .inr (10, [.ref q1, .ref q2, .ref q3, .ref q4, .int 0, .int 100, .int 0])), (q1, .inl (c 0, 2400, .inl (fun _ => 0))), (q2, .inl (c 0, 1500, .inl (fun _ => 0))), (q3, .inl (c 0, 1500, .inl (fun _ => 0))), (q4, .inl (c 0, 1500, .inl (fun _ => 0)))] H := hP
  have hD : va_D A [(h0, .inr (10, [.ref q1, .ref q2, .ref q3, .ref q4, .int 0, .int 100, .int 0])), (q1, .inl (c 0, 2400, .inl (fun _ => 0))), (q2, .inl (c 0, 1500, .inl (fun _ => 0))), (q3, .inl (c 0, 1500, .inl (fun _ => 0))), (q4, .inl (c 0, 1500, .inl (fun _ => 0)))] := hD
  refine lv_aload_n hx hb dX10_init_46 rfl (lv_at hl 0 rfl) ?_
  refine lv_sipush (v := 150) hx hb dX10_init_47 (by decide) ?_
  refine va_put (D := D) (ci := 10) (v := .int 150) (ty := .int) (C := RX10) (T := TX10) (N := 7) hx hb hts inW_10 tyX10 tyX10_ok nmX10 hown hK hP hD hS 0 rfl rfl 6 (by decide) (hts _ wd_144) (fun _ h9 => h9) rfl (by decide +kernel) rfl rfl (Nat.le_of_ble_eq_true rfl) dX10_init_50 (fun H locs hP hD hS => ?_)
  have hP : va_P D vwCl [(h0, .inr (10, [.ref q1, .ref q2, .ref q3, .ref q4, .int 0, .int 100, .int 150])), (q1, .inl (c 0, 2400, .inl (fun _ => 0))), (q2, .inl (c 0, 1500, .inl (fun _ => 0))), (q3, .inl (c 0, 1500, .inl (fun _ => 0))), (q4, .inl (c 0, 1500, .inl (fun _ => 0)))] H := hP
  have hD : va_D A [(h0, .inr (10, [.ref q1, .ref q2, .ref q3, .ref q4, .int 0, .int 100, .int 150])), (q1, .inl (c 0, 2400, .inl (fun _ => 0))), (q2, .inl (c 0, 1500, .inl (fun _ => 0))), (q3, .inl (c 0, 1500, .inl (fun _ => 0))), (q4, .inl (c 0, 1500, .inl (fun _ => 0)))] := hD
  exact rt_v hx hb hr hlocks hK hP hD hS dX10_init_53 (q1, q2, q3, q4) [0, 1, 2, 3, 4] rfl rfl trivial
set_option maxHeartbeats 4000000 in
set_option maxRecDepth 100000 in
/-- X5_init -/
theorem c_X5_init (l : Launch) (D : va_G) (c : Nat → ClassId) (sz : Nat) (h0 : Nat) : Met l yX5_init (.code yX5_init cX5_init 1 none :: Wd) ({ frames := 1, cells := 2, slots := 620, locals := 32 }) (va_Pc [.ref h0] (WB D c [(h0, .inr (5, nwX5))] sz)) (QV (S := Nat × Nat) D c (fun _ => True) (fun u => [(h0, .inr (5, [.ref (u.1), .int 0, .int 0, .int 0, .ref (u.2), .int 0, .int 0, .int 0, .int 0])), (u.1, .inl (c 0, 320, .inl (fun _ => 0))), (u.2, .inl (c 0, 300, .inl (fun _ => 0)))]) (va_A [(h0, .inr (5, nwX5))] sz)) 2 620 (va_A [(h0, .inr (5, nwX5))] sz) := by
  refine kz_met (Qc := QV (S := Nat × Nat) D c (fun _ => True) (fun u => [(h0, .inr (5, [.ref (u.1), .int 0, .int 0, .int 0, .ref (u.2), .int 0, .int 0, .int 0, .int 0])), (u.1, .inl (c 0, 320, .inl (fun _ => 0))), (u.2, .inl (c 0, 300, .inl (fun _ => 0)))])) (by decide) (Nat.le_of_ble_eq_true rfl) ?_
  intro p e s m below meth cd A ls H hx hb hr hml hts hown hlocks hin hN hO hK hP hD hS hA hl
  have hl : lv_has ls 1 [(0, .ref h0)] := hl
  have hown : s.vm.findClass RX5 = some m.cls := hown
  refine lv_aload_n hx hb dX5_init_0 rfl (lv_at hl 0 rfl) ?_
  refine W.objInit hx hb hown (hts _ wd_168) (hts _ wd_110) (hts _ wd_111) rfl (by rw [hml]; exact hl.1) rfl dX5_init_1 (Nat.le_of_ble_eq_true rfl) (Nat.le_of_ble_eq_true rfl) ?_
  refine W.eq (g2 := F0 m 4 ls []) rfl ?_
  refine lv_aload_n hx hb dX5_init_4 rfl (lv_at hl 0 rfl) ?_
  refine lv_sipush (v := 320) hx hb dX5_init_5 (by decide) ?_
  refine kz_newa (c := c) (atype := .int) (a0 := (320, .inl (fun _ => 0))) hx hb 0 rfl (hts _ wd_129) rfl hK hP hD hS hA (fun _ => rfl) (by decide) (by decide) (Nat.le_of_ble_eq_true rfl) (Nat.le_of_ble_eq_true rfl) (Nat.le_of_ble_eq_true rfl) dX5_init_8 (fun q1 H hP hD hS => ?_)
  have hP : va_P D vwCl [(h0, .inr (5, nwX5)), (q1, .inl (c 0, 320, .inl (fun _ => 0)))] H := hP
  have hD : va_D A [(h0, .inr (5, nwX5)), (q1, .inl (c 0, 320, .inl (fun _ => 0)))] := hD
  refine W.widen (k := 1) (n := 320) (Nat.le_of_ble_eq_true rfl) (Nat.le_of_ble_eq_true rfl) ?_
  refine va_putF (D := D) (ci := 5) (v := .ref q1) (ty := (.array .int)) (C := RX5) (T := TX5) (N := 9) hx hb hts inW_5 tyX5 tyX5_ok nmX5 hown hK hP hD hS 0 rfl rfl 0 (by decide) (hts _ wd_169) (fun _ h9 => h9) rfl hin rfl (by decide +kernel) rfl rfl (Nat.le_of_ble_eq_true rfl) dX5_init_10 (fun H locs hP hD hS => ?_)
  have hP : va_P D vwCl [(h0, .inr (5, [.ref q1, .int 0, .int 0, .int 0, .null, .int 0, .int 0, .int 0, .int 0])), (q1, .inl (c 0, 320, .inl (fun _ => 0)))] H := hP
  have hD : va_D A [(h0, .inr (5, [.ref q1, .int 0, .int 0, .int 0, .null, .int 0, .int 0, .int 0, .int 0])), (q1, .inl (c 0, 320, .inl (fun _ => 0)))] := hD
  refine lv_aload_n hx hb dX5_init_13 rfl (lv_at hl 0 rfl) ?_
  refine lv_sipush (v := 300) hx hb dX5_init_14 (by decide) ?_
  refine kz_newa (c := c) (atype := .int) (a0 := (300, .inl (fun _ => 0))) hx hb 0 rfl (hts _ wd_129) rfl hK hP hD hS hA (fun _ => rfl) (by decide) (by decide) (Nat.le_of_ble_eq_true rfl) (Nat.le_of_ble_eq_true rfl) (Nat.le_of_ble_eq_true rfl) dX5_init_17 (fun q2 H hP hD hS => ?_)
  have hP : va_P D vwCl [(h0, .inr (5, [.ref q1, .int 0, .int 0, .int 0, .null, .int 0, .int 0, .int 0, .int 0])), (q1, .inl (c 0, 320, .inl (fun _ => 0))), (q2, .inl (c 0, 300, .inl (fun _ => 0)))] H := hP
  have hD : va_D A [(h0, .inr (5, [.ref q1, .int 0, .int 0, .int 0, .null, .int 0, .int 0, .int 0, .int 0])), (q1, .inl (c 0, 320, .inl (fun _ => 0))), (q2, .inl (c 0, 300, .inl (fun _ => 0)))] := hD
  refine W.widen (k := 2) (n := 620) (Nat.le_of_ble_eq_true rfl) (Nat.le_of_ble_eq_true rfl) ?_
  refine va_putF (D := D) (ci := 5) (v := .ref q2) (ty := (.array .int)) (C := RX5) (T := TX5) (N := 9) hx hb hts inW_5 tyX5 tyX5_ok nmX5 hown hK hP hD hS 0 rfl rfl 4 (by decide) (hts _ wd_177) (fun _ h9 => h9) rfl hin rfl (by decide +kernel) rfl rfl (Nat.le_of_ble_eq_true rfl) dX5_init_19 (fun H locs hP hD hS => ?_)
  have hP : va_P D vwCl [(h0, .inr (5, [.ref q1, .int 0, .int 0, .int 0, .ref q2, .int 0, .int 0, .int 0, .int 0])), (q1, .inl (c 0, 320, .inl (fun _ => 0))), (q2, .inl (c 0, 300, .inl (fun _ => 0)))] H := hP
  have hD : va_D A [(h0, .inr (5, [.ref q1, .int 0, .int 0, .int 0, .ref q2, .int 0, .int 0, .int 0, .int 0])), (q1, .inl (c 0, 320, .inl (fun _ => 0))), (q2, .inl (c 0, 300, .inl (fun _ => 0)))] := hD
  exact rt_v hx hb hr hlocks hK hP hD hS dX5_init_22 (q1, q2) [0, 1, 2] rfl rfl trivial
set_option maxHeartbeats 4000000 in
set_option maxRecDepth 100000 in
/-- X7_init -/
theorem c_X7_init (l : Launch) (D : va_G) (c : Nat → ClassId) (sz : Nat) (h0 : Nat) : Met l yX7_init (.code yX7_init cX7_init 1 none :: Wd) ({ frames := 1, cells := 4, slots := 2000, locals := 32 }) (va_Pc [.ref h0] (WB D c [(h0, .inr (7, nwX7))] sz)) (QV (S := Nat × Nat × Nat × Nat) D c (fun _ => True) (fun u => [(h0, .inr (7, [.ref (u.1), .ref (u.2.1), .ref (u.2.2.1), .ref (u.2.2.2), .int 0])), (u.1, .inl (c 0, 500, .inl (fun _ => 0))), (u.2.1, .inl (c 0, 500, .inl (fun _ => 0))), (u.2.2.1, .inl (c 0, 500, .inl (fun _ => 0))), (u.2.2.2, .inl (c 0, 500, .inl (fun _ => 0)))]) (va_A [(h0, .inr (7, nwX7))] sz)) 4 2000 (va_A [(h0, .inr (7, nwX7))] sz) := by
  refine kz_met (Qc := QV (S := Nat × Nat × Nat × Nat) D c (fun _ => True) (fun u => [(h0, .inr (7, [.ref (u.1), .ref (u.2.1), .ref (u.2.2.1), .ref (u.2.2.2), .int 0])), (u.1, .inl (c 0, 500, .inl (fun _ => 0))), (u.2.1, .inl (c 0, 500, .inl (fun _ => 0))), (u.2.2.1, .inl (c 0, 500, .inl (fun _ => 0))), (u.2.2.2, .inl (c 0, 500, .inl (fun _ => 0)))])) (by decide) (Nat.le_of_ble_eq_true rfl) ?_
  intro p e s m below meth cd A ls H hx hb hr hml hts hown hlocks hin hN hO hK hP hD hS hA hl
  have hl : lv_has ls 1 [(0, .ref h0)] := hl
  have hown : s.vm.findClass RX7 = some m.cls := hown
  refine lv_aload_n hx hb dX7_init_0 rfl (lv_at hl 0 rfl) ?_
  refine W.objInit hx hb hown (hts _ wd_208) (hts _ wd_110) (hts _ wd_111) rfl (by rw [hml]; exact hl.1) rfl dX7_init_1 (Nat.le_of_ble_eq_true rfl) (Nat.le_of_ble_eq_true rfl) ?_
  refine W.eq (g2 := F0 m 4 ls []) rfl ?_
  refine lv_aload_n hx hb dX7_init_4 rfl (lv_at hl 0 rfl) ?_
  refine lv_sipush (v := 500) hx hb dX7_init_5 (by decide) ?_
  refine kz_newa (c := c) (atype := .int) (a0 := (500, .inl (fun _ => 0))) hx hb 0 rfl (hts _ wd_129) rfl hK hP hD hS hA (fun _ => rfl) (by decide) (by decide) (Nat.le_of_ble_eq_true rfl) (Nat.le_of_ble_eq_true rfl) (Nat.le_of_ble_eq_true rfl) dX7_init_8 (fun q1 H hP hD hS => ?_)
  have hP : va_P D vwCl [(h0, .inr (7, nwX7)), (q1, .inl (c 0, 500, .inl (fun _ => 0)))] H := hP
  have hD : va_D A [(h0, .inr (7, nwX7)), (q1, .inl (c 0, 500, .inl (fun _ => 0)))] := hD
  refine W.widen (k := 1) (n := 500) (Nat.le_of_ble_eq_true rfl) (Nat.le_of_ble_eq_true rfl) ?_
  refine va_putF (D := D) (ci := 7) (v := .ref q1) (ty := (.array .int)) (C := RX7) (T := TX7) (N := 5) hx hb hts inW_7 tyX7 tyX7_ok nmX7 hown hK hP hD hS 0 rfl rfl 0 (by decide) (hts _ wd_209) (fun _ h9 => h9) rfl hin rfl (by decide +kernel) rfl rfl (Nat.le_of_ble_eq_true rfl) dX7_init_10 (fun H locs hP hD hS => ?_)
  have hP : va_P D vwCl [(h0, .inr (7, [.ref q1, .null, .null, .null, .int 0])), (q1, .inl (c 0, 500, .inl (fun _ => 0)))] H := hP
  have hD : va_D A [(h0, .inr (7, [.ref q1, .null, .null, .null, .int 0])), (q1, .inl (c 0, 500, .inl (fun _ => 0)))] := hD
  refine lv_aload_n hx hb dX7_init_13 rfl (lv_at hl 0 rfl) ?_
  refine lv_sipush (v := 500) hx hb dX7_init_14 (by decide) ?_
  refine kz_newa (c := c) (atype := .int) (a0 := (500, .inl (fun _ => 0))) hx hb 0 rfl (hts _ wd_129) rfl hK hP hD hS hA (fun _ => rfl) (by decide) (by decide) (Nat.le_of_ble_eq_true rfl) (Nat.le_of_ble_eq_true rfl) (Nat.le_of_ble_eq_true rfl) dX7_init_17 (fun q2 H hP hD hS => ?_)
  have hP : va_P D vwCl [(h0, .inr (7, [.ref q1, .null, .null, .null, .int 0])), (q1, .inl (c 0, 500, .inl (fun _ => 0))), (q2, .inl (c 0, 500, .inl (fun _ => 0)))] H := hP
  have hD : va_D A [(h0, .inr (7, [.ref q1, .null, .null, .null, .int 0])), (q1, .inl (c 0, 500, .inl (fun _ => 0))), (q2, .inl (c 0, 500, .inl (fun _ => 0)))] := hD
  refine W.widen (k := 2) (n := 1000) (Nat.le_of_ble_eq_true rfl) (Nat.le_of_ble_eq_true rfl) ?_
  refine va_putF (D := D) (ci := 7) (v := .ref q2) (ty := (.array .int)) (C := RX7) (T := TX7) (N := 5) hx hb hts inW_7 tyX7 tyX7_ok nmX7 hown hK hP hD hS 0 rfl rfl 1 (by decide) (hts _ wd_210) (fun _ h9 => h9) rfl hin rfl (by decide +kernel) rfl rfl (Nat.le_of_ble_eq_true rfl) dX7_init_19 (fun H locs hP hD hS => ?_)
  have hP : va_P D vwCl [(h0, .inr (7, [.ref q1, .ref q2, .null, .null, .int 0])), (q1, .inl (c 0, 500, .inl (fun _ => 0))), (q2, .inl (c 0, 500, .inl (fun _ => 0)))] H := hP
  have hD : va_D A [(h0, .inr (7, [.ref q1, .ref q2, .null, .null, .int 0])), (q1, .inl (c 0, 500, .inl (fun _ => 0))), (q2, .inl (c 0, 500, .inl (fun _ => 0)))] := hD
  refine lv_aload_n hx hb dX7_init_22 rfl (lv_at hl 0 rfl) ?_
  refine lv_sipush (v := 500) hx hb dX7_init_23 (by decide) ?_
  refine kz_newa (c := c) (atype := .int) (a0 := (500, .inl (fun _ => 0))) hx hb 0 rfl (hts _ wd_129) rfl hK hP hD hS hA (fun _ => rfl) (by decide) (by decide) (Nat.le_of_ble_eq_true rfl) (Nat.le_of_ble_eq_true rfl) (Nat.le_of_ble_eq_true rfl) dX7_init_26 (fun q3 H hP hD hS => ?_)
  have hP : va_P D vwCl [(h0, .inr (7, [.ref q1, .ref q2, .null, .null, .int 0])), (q1, .inl (c 0, 500, .inl (fun _ => 0))), (q2, .inl (c 0, 500, .inl (fun _ => 0))), (q3, .inl (c 0, 500, .inl (fun _ => 0)))] H := hP
  have hD : va_D A [(h0, .inr (7, [.ref q1, .ref q2, .null, .null, .int 0])), (q1, .inl (c 0, 500, .inl (fun _ => 0))), (q2, .inl (c 0, 500, .inl (fun _ => 0))), (q3, .inl (c 0, 500, .inl (fun _ => 0)))] := hD
  refine W.widen (k := 3) (n := 1500) (Nat.le_of_ble_eq_true rfl) (Nat.le_of_ble_eq_true rfl) ?_
  refine va_putF (D := D) (ci := 7) (v := .ref q3) (ty := (.array .int)) (C := RX7) (T := TX7) (N := 5) hx hb hts inW_7 tyX7 tyX7_ok nmX7 hown hK hP hD hS 0 rfl rfl 2 (by decide) (hts _ wd_211) (fun _ h9 => h9) rfl hin rfl (by decide +kernel) rfl rfl (Nat.le_of_ble_eq_true rfl) dX7_init_28 (fun H locs hP hD hS => ?_)
  have hP : va_P D vwCl [(h0, .inr (7, [.ref q1, .ref q2, .ref q3, .null, .int 0])), (q1, .inl (c 0, 500, .inl (fun _ => 0))), (q2, .inl (c 0, 500, .inl (fun _ => 0))), (q3, .inl (c 0, 500, .inl (fun _ => 0)))] H := hP
  have hD : va_D A [(h0, .inr (7, [.ref q1, .ref q2, .ref q3, .null, .int 0])), (q1, .inl (c 0, 500, .inl (fun _ => 0))), (q2, .inl (c 0, 500, .inl (fun _ => 0))), (q3, .inl (c 0, 500, .inl (fun _ => 0)))] := hD
  refine lv_aload_n hx hb dX7_init_31 rfl (lv_at hl 0 rfl) ?_
  refine lv_sipush (v := 500) hx hb dX7_init_32 (by decide) ?_
  refine kz_newa (c := c) (atype := .int) (a0 := (500, .inl (fun _ => 0))) hx hb 0 rfl (hts _ wd_129) rfl hK hP hD hS hA (fun _ => rfl) (by decide) (by decide) (Nat.le_of_ble_eq_true rfl) (Nat.le_of_ble_eq_true rfl) (Nat.le_of_ble_eq_true rfl) dX7_init_35 (fun q4 H hP hD hS => ?_)
  have hP : va_P D vwCl [(h0, .inr (7, [.ref q1, .ref q2, .ref q3, .null, .int 0])), (q1, .inl (c 0, 500, .inl (fun _ => 0))), (q2, .inl (c 0, 500, .inl (fun _ => 0))), (q3, .inl (c 0, 500, .inl (fun _ => 0))), (q4, .inl (c 0, 500, .inl (fun _ => 0)))] H := hP
  have hD : va_D A [(h0, .inr (7, [.ref q1, .ref q2, .ref q3, .null, .int 0])), (q1, .inl (c 0, 500, .inl (fun _ => 0))), (q2, .inl (c 0, 500, .inl (fun _ => 0))), (q3, .inl (c 0, 500, .inl (fun _ => 0))), (q4, .inl (c 0, 500, .inl (fun _ => 0)))] := hD
  refine W.widen (k := 4) (n := 2000) (Nat.le_of_ble_eq_true rfl) (Nat.le_of_ble_eq_true rfl) ?_
  refine va_putF (D := D) (ci := 7) (v := .ref q4) (ty := (.array .int)) (C := RX7) (T := TX7) (N := 5) hx hb hts inW_7 tyX7 tyX7_ok nmX7 hown hK hP hD hS 0 rfl rfl 3 (by decide) (hts _ wd_212) (fun _ h9 => h9) rfl hin rfl (by decide +kernel) rfl rfl (Nat.le_of_ble_eq_true rfl) dX7_init_37 (fun H locs hP hD hS => ?_)
  have hP : va_P D vwCl [(h0, .inr (7, [.ref q1, .ref q2, .ref q3, .ref q4, .int 0])), (q1, .inl (c 0, 500, .inl (fun _ => 0))), (q2, .inl (c 0, 500, .inl (fun _ => 0))), (q3, .inl (c 0, 500, .inl (fun _ => 0))), (q4, .inl (c 0, 500, .inl (fun _ => 0)))] H := hP
  have hD : va_D A [(h0, .inr (7, [.ref q1, .ref q2, .ref q3, .ref q4, .int 0])), (q1, .inl (c 0, 500, .inl (fun _ => 0))), (q2, .inl (c 0, 500, .inl (fun _ => 0))), (q3, .inl (c 0, 500, .inl (fun _ => 0))), (q4, .inl (c 0, 500, .inl (fun _ => 0)))] := hD
  exact rt_v hx hb hr hlocks hK hP hD hS dX7_init_40 (q1, q2, q3, q4) [0, 1, 2, 3, 4] rfl rfl trivial
set_option maxHeartbeats 4000000 in
set_option maxRecDepth 100000 in
/-- J7_fill_53178 -/
theorem c_J7_fill_53178 (l : Launch) (D : va_G) (c : Nat → ClassId) (sz : Nat) (q : Nat) (f : Nat → Int32) (x : Int32) : Met l yJ7_fill_53178 (.code yJ7_fill_53178 cJ7_fill_53178 4 none :: Wd) ({ frames := 0, cells := 0, slots := 0, locals := 0 }) (va_Pc [.ref q, .int x] (WB D c [(q, .inl (c 0, 11, .inl (f)))] sz)) (QV (S := Nat → Int32) D c (fun _ => True) (fun u => [(q, .inl (c 0, 11, .inl u))]) (va_A [(q, .inl (c 0, 11, .inl (f)))] sz)) 0 0 (va_A [(q, .inl (c 0, 11, .inl (f)))] sz) := by
  refine kz_met (Qc := QV (S := Nat → Int32) D c (fun _ => True) (fun u => [(q, .inl (c 0, 11, .inl u))])) (by decide) (Nat.le_of_ble_eq_true rfl) ?_
  intro p e s m below meth cd A ls H hx hb hr hml hts hown hlocks hin hN hO hK hP hD hS hA hl
  have hl : lv_has ls 4 [(0, .ref q), (1, .int x)] := hl
  refine lv_iconst (v := 0) hx hb dJ7_fill_53178_0 (by decide) ?_
  refine lv_istore_n (lv' := [(2, .int 0), (0, .ref q), (1, .int x)]) hx hb dJ7_fill_53178_1 rfl hl (by decide) rfl (fun ls hl => ?_)
  refine lv_aload_n hx hb dJ7_fill_53178_2 rfl (lv_at hl 1 rfl) ?_
  refine va_alen (v := 11) hx hb hK hP 0 0 rfl rfl (by show Int32.ofNat 11 = 11; decide) dJ7_fill_53178_3 ?_
  refine lv_istore_n (lv' := [(3, .int 11), (2, .int 0), (0, .ref q), (1, .int x)]) hx hb dJ7_fill_53178_4 rfl hl (by decide) rfl (fun ls hl => ?_)
  refine lv_iload_n hx hb dJ7_fill_53178_5 rfl (lv_at hl 1 rfl) ?_
  refine lv_iload_n hx hb dJ7_fill_53178_6 rfl (lv_at hl 0 rfl) ?_
  refine lv_icmp_ge (tgt := 20) hx hb dJ7_fill_53178_7 (by decide) (fun c => False.elim (by revert c; decide)) (fun _ => ?_)
  refine lv_aload_n hx hb dJ7_fill_53178_10 rfl (lv_at hl 2 rfl) ?_
  refine lv_iload_n hx hb dJ7_fill_53178_11 rfl (lv_at hl 1 rfl) ?_
  refine lv_iload_n hx hb dJ7_fill_53178_12 rfl (lv_at hl 3 rfl) ?_
  refine va_iast hx hb hK hP hD hS 0 0 rfl rfl (vp_in_iff.mpr (by decide)) dJ7_fill_53178_13 (fun H locs hP hD hS => ?_)
  have hP : va_P D vwCl [(q, .inl (c 0, 11, .inl (upd (f) (Int32.toNatClampNeg 0) x)))] H := hP
  have hD : va_D A [(q, .inl (c 0, 11, .inl (upd (f) (Int32.toNatClampNeg 0) x)))] := hD
  refine lv_iinc (v := 1) (lv' := [(2, .int 1), (3, .int 11), (0, .ref q), (1, .int x)]) hx hb dJ7_fill_53178_14 hl (k := 1) rfl (by decide) (by decide) rfl (fun ls hl => ?_)
  refine lv_goto (tgt := 5) hx hb dJ7_fill_53178_17 (by decide) ?_
  refine lv_iload_n hx hb dJ7_fill_53178_5 rfl (lv_at hl 0 rfl) ?_
  refine lv_iload_n hx hb dJ7_fill_53178_6 rfl (lv_at hl 1 rfl) ?_
  refine lv_icmp_ge (tgt := 20) hx hb dJ7_fill_53178_7 (by decide) (fun c => False.elim (by revert c; decide)) (fun _ => ?_)
  refine lv_aload_n hx hb dJ7_fill_53178_10 rfl (lv_at hl 2 rfl) ?_
  refine lv_iload_n hx hb dJ7_fill_53178_11 rfl (lv_at hl 0 rfl) ?_
  refine lv_iload_n hx hb dJ7_fill_53178_12 rfl (lv_at hl 3 rfl) ?_
  refine va_iast hx hb hK hP hD hS 0 0 rfl rfl (vp_in_iff.mpr (by decide)) dJ7_fill_53178_13 (fun H locs hP hD hS => ?_)
  have hP : va_P D vwCl [(q, .inl (c 0, 11, .inl (upd (upd (f) (Int32.toNatClampNeg 0) x) (Int32.toNatClampNeg 1) x)))] H := hP
  have hD : va_D A [(q, .inl (c 0, 11, .inl (upd (upd (f) (Int32.toNatClampNeg 0) x) (Int32.toNatClampNeg 1) x)))] := hD
  refine lv_iinc (v := 2) (lv' := [(2, .int 2), (3, .int 11), (0, .ref q), (1, .int x)]) hx hb dJ7_fill_53178_14 hl (k := 0) rfl (by decide) (by decide) rfl (fun ls hl => ?_)
  refine lv_goto (tgt := 5) hx hb dJ7_fill_53178_17 (by decide) ?_
  refine lv_iload_n hx hb dJ7_fill_53178_5 rfl (lv_at hl 0 rfl) ?_
  refine lv_iload_n hx hb dJ7_fill_53178_6 rfl (lv_at hl 1 rfl) ?_
  refine lv_icmp_ge (tgt := 20) hx hb dJ7_fill_53178_7 (by decide) (fun c => False.elim (by revert c; decide)) (fun _ => ?_)
  refine lv_aload_n hx hb dJ7_fill_53178_10 rfl (lv_at hl 2 rfl) ?_
  refine lv_iload_n hx hb dJ7_fill_53178_11 rfl (lv_at hl 0 rfl) ?_
  refine lv_iload_n hx hb dJ7_fill_53178_12 rfl (lv_at hl 3 rfl) ?_
  refine va_iast hx hb hK hP hD hS 0 0 rfl rfl (vp_in_iff.mpr (by decide)) dJ7_fill_53178_13 (fun H locs hP hD hS => ?_)
  have hP : va_P D vwCl [(q, .inl (c 0, 11, .inl (upd (upd (upd (f) (Int32.toNatClampNeg 0) x) (Int32.toNatClampNeg 1) x) (Int32.toNatClampNeg 2) x)))] H := hP
  have hD : va_D A [(q, .inl (c 0, 11, .inl (upd (upd (upd (f) (Int32.toNatClampNeg 0) x) (Int32.toNatClampNeg 1) x) (Int32.toNatClampNeg 2) x)))] := hD
  refine lv_iinc (v := 3) (lv' := [(2, .int 3), (3, .int 11), (0, .ref q), (1, .int x)]) hx hb dJ7_fill_53178_14 hl (k := 0) rfl (by decide) (by decide) rfl (fun ls hl => ?_)
  refine lv_goto (tgt := 5) hx hb dJ7_fill_53178_17 (by decide) ?_
  refine lv_iload_n hx hb dJ7_fill_53178_5 rfl (lv_at hl 0 rfl) ?_
  refine lv_iload_n hx hb dJ7_fill_53178_6 rfl (lv_at hl 1 rfl) ?_
  refine lv_icmp_ge (tgt := 20) hx hb dJ7_fill_53178_7 (by decide) (fun c => False.elim (by revert c; decide)) (fun _ => ?_)
  refine lv_aload_n hx hb dJ7_fill_53178_10 rfl (lv_at hl 2 rfl) ?_
  refine lv_iload_n hx hb dJ7_fill_53178_11 rfl (lv_at hl 0 rfl) ?_
  refine lv_iload_n hx hb dJ7_fill_53178_12 rfl (lv_at hl 3 rfl) ?_
  refine va_iast hx hb hK hP hD hS 0 0 rfl rfl (vp_in_iff.mpr (by decide)) dJ7_fill_53178_13 (fun H locs hP hD hS => ?_)
  have hP : va_P D vwCl [(q, .inl (c 0, 11, .inl (upd (upd (upd (upd (f) (Int32.toNatClampNeg 0) x) (Int32.toNatClampNeg 1) x) (Int32.toNatClampNeg 2) x) (Int32.toNatClampNeg 3) x)))] H := hP
  have hD : va_D A [(q, .inl (c 0, 11, .inl (upd (upd (upd (upd (f) (Int32.toNatClampNeg 0) x) (Int32.toNatClampNeg 1) x) (Int32.toNatClampNeg 2) x) (Int32.toNatClampNeg 3) x)))] := hD
  refine lv_iinc (v := 4) (lv' := [(2, .int 4), (3, .int 11), (0, .ref q), (1, .int x)]) hx hb dJ7_fill_53178_14 hl (k := 0) rfl (by decide) (by decide) rfl (fun ls hl => ?_)
  refine lv_goto (tgt := 5) hx hb dJ7_fill_53178_17 (by decide) ?_
  refine lv_iload_n hx hb dJ7_fill_53178_5 rfl (lv_at hl 0 rfl) ?_
  refine lv_iload_n hx hb dJ7_fill_53178_6 rfl (lv_at hl 1 rfl) ?_
  refine lv_icmp_ge (tgt := 20) hx hb dJ7_fill_53178_7 (by decide) (fun c => False.elim (by revert c; decide)) (fun _ => ?_)
  refine lv_aload_n hx hb dJ7_fill_53178_10 rfl (lv_at hl 2 rfl) ?_
  refine lv_iload_n hx hb dJ7_fill_53178_11 rfl (lv_at hl 0 rfl) ?_
  refine lv_iload_n hx hb dJ7_fill_53178_12 rfl (lv_at hl 3 rfl) ?_
  refine va_iast hx hb hK hP hD hS 0 0 rfl rfl (vp_in_iff.mpr (by decide)) dJ7_fill_53178_13 (fun H locs hP hD hS => ?_)
  have hP : va_P D vwCl [(q, .inl (c 0, 11, .inl (upd (upd (upd (upd (upd (f) (Int32.toNatClampNeg 0) x) (Int32.toNatClampNeg 1) x) (Int32.toNatClampNeg 2) x) (Int32.toNatClampNeg 3) x) (Int32.toNatClampNeg 4) x)))] H := hP
  have hD : va_D A [(q, .inl (c 0, 11, .inl (upd (upd (upd (upd (upd (f) (Int32.toNatClampNeg 0) x) (Int32.toNatClampNeg 1) x) (Int32.toNatClampNeg 2) x) (Int32.toNatClampNeg 3) x) (Int32.toNatClampNeg 4) x)))] := hD
  refine lv_iinc (v := 5) (lv' := [(2, .int 5), (3, .int 11), (0, .ref q), (1, .int x)]) hx hb dJ7_fill_53178_14 hl (k := 0) rfl (by decide) (by decide) rfl (fun ls hl => ?_)
  refine lv_goto (tgt := 5) hx hb dJ7_fill_53178_17 (by decide) ?_
  refine lv_iload_n hx hb dJ7_fill_53178_5 rfl (lv_at hl 0 rfl) ?_
  refine lv_iload_n hx hb dJ7_fill_53178_6 rfl (lv_at hl 1 rfl) ?_
  refine lv_icmp_ge (tgt := 20) hx hb dJ7_fill_53178_7 (by decide) (fun c => False.elim (by revert c; decide)) (fun _ => ?_)
  refine lv_aload_n hx hb dJ7_fill_53178_10 rfl (lv_at hl 2 rfl) ?_
  refine lv_iload_n hx hb dJ7_fill_53178_11 rfl (lv_at hl 0 rfl) ?_
  refine lv_iload_n hx hb dJ7_fill_53178_12 rfl (lv_at hl 3 rfl) ?_
  refine va_iast hx hb hK hP hD hS 0 0 rfl rfl (vp_in_iff.mpr (by decide)) dJ7_fill_53178_13 (fun H locs hP hD hS => ?_)
  have hP : va_P D vwCl [(q, .inl (c 0, 11, .inl (upd (upd (upd (upd (upd (upd (f) (Int32.toNatClampNeg 0) x) (Int32.toNatClampNeg 1) x) (Int32.toNatClampNeg 2) x) (Int32.toNatClampNeg 3) x) (Int32.toNatClampNeg 4) x) (Int32.toNatClampNeg 5) x)))] H := hP
  have hD : va_D A [(q, .inl (c 0, 11, .inl (upd (upd (upd (upd (upd (upd (f) (Int32.toNatClampNeg 0) x) (Int32.toNatClampNeg 1) x) (Int32.toNatClampNeg 2) x) (Int32.toNatClampNeg 3) x) (Int32.toNatClampNeg 4) x) (Int32.toNatClampNeg 5) x)))] := hD
  refine lv_iinc (v := 6) (lv' := [(2, .int 6), (3, .int 11), (0, .ref q), (1, .int x)]) hx hb dJ7_fill_53178_14 hl (k := 0) rfl (by decide) (by decide) rfl (fun ls hl => ?_)
  refine lv_goto (tgt := 5) hx hb dJ7_fill_53178_17 (by decide) ?_
  refine lv_iload_n hx hb dJ7_fill_53178_5 rfl (lv_at hl 0 rfl) ?_
  refine lv_iload_n hx hb dJ7_fill_53178_6 rfl (lv_at hl 1 rfl) ?_
  refine lv_icmp_ge (tgt := 20) hx hb dJ7_fill_53178_7 (by decide) (fun c => False.elim (by revert c; decide)) (fun _ => ?_)
  refine lv_aload_n hx hb dJ7_fill_53178_10 rfl (lv_at hl 2 rfl) ?_
  refine lv_iload_n hx hb dJ7_fill_53178_11 rfl (lv_at hl 0 rfl) ?_
  refine lv_iload_n hx hb dJ7_fill_53178_12 rfl (lv_at hl 3 rfl) ?_
  refine va_iast hx hb hK hP hD hS 0 0 rfl rfl (vp_in_iff.mpr (by decide)) dJ7_fill_53178_13 (fun H locs hP hD hS => ?_)
  have hP : va_P D vwCl [(q, .inl (c 0, 11, .inl (upd (upd (upd (upd (upd (upd (upd (f) (Int32.toNatClampNeg 0) x) (Int32.toNatClampNeg 1) x) (Int32.toNatClampNeg 2) x) (Int32.toNatClampNeg 3) x) (Int32.toNatClampNeg 4) x) (Int32.toNatClampNeg 5) x) (Int32.toNatClampNeg 6) x)))] H := hP
  have hD : va_D A [(q, .inl (c 0, 11, .inl (upd (upd (upd (upd (upd (upd (upd (f) (Int32.toNatClampNeg 0) x) (Int32.toNatClampNeg 1) x) (Int32.toNatClampNeg 2) x) (Int32.toNatClampNeg 3) x) (Int32.toNatClampNeg 4) x) (Int32.toNatClampNeg 5) x) (Int32.toNatClampNeg 6) x)))] := hD
  refine lv_iinc (v := 7) (lv' := [(2, .int 7), (3, .int 11), (0, .ref q), (1, .int x)]) hx hb dJ7_fill_53178_14 hl (k := 0) rfl (by decide) (by decide) rfl (fun ls hl => ?_)
  refine lv_goto (tgt := 5) hx hb dJ7_fill_53178_17 (by decide) ?_
  refine lv_iload_n hx hb dJ7_fill_53178_5 rfl (lv_at hl 0 rfl) ?_
  refine lv_iload_n hx hb dJ7_fill_53178_6 rfl (lv_at hl 1 rfl) ?_
  refine lv_icmp_ge (tgt := 20) hx hb dJ7_fill_53178_7 (by decide) (fun c => False.elim (by revert c; decide)) (fun _ => ?_)
  refine lv_aload_n hx hb dJ7_fill_53178_10 rfl (lv_at hl 2 rfl) ?_
  refine lv_iload_n hx hb dJ7_fill_53178_11 rfl (lv_at hl 0 rfl) ?_
  refine lv_iload_n hx hb dJ7_fill_53178_12 rfl (lv_at hl 3 rfl) ?_
  refine va_iast hx hb hK hP hD hS 0 0 rfl rfl (vp_in_iff.mpr (by decide)) dJ7_fill_53178_13 (fun H locs hP hD hS => ?_)
  have hP : va_P D vwCl [(q, .inl (c 0, 11, .inl (upd (upd (upd (upd (upd (upd (upd (upd (f) (Int32.toNatClampNeg 0) x) (Int32.toNatClampNeg 1) x) (Int32.toNatClampNeg 2) x) (Int32.toNatClampNeg 3) x) (Int32.toNatClampNeg 4) x) (Int32.toNatClampNeg 5) x) (Int32.toNatClampNeg 6) x) (Int32.toNatClampNeg 7) x)))] H := hP
  have hD : va_D A [(q, .inl (c 0, 11, .inl (upd (upd (upd (upd (upd (upd (upd (upd (f) (Int32.toNatClampNeg 0) x) (Int32.toNatClampNeg 1) x) (Int32.toNatClampNeg 2) x) (Int32.toNatClampNeg 3) x) (Int32.toNatClampNeg 4) x) (Int32.toNatClampNeg 5) x) (Int32.toNatClampNeg 6) x) (Int32.toNatClampNeg 7) x)))] := hD
  refine lv_iinc (v := 8) (lv' := [(2, .int 8), (3, .int 11), (0, .ref q), (1, .int x)]) hx hb dJ7_fill_53178_14 hl (k := 0) rfl (by decide) (by decide) rfl (fun ls hl => ?_)
  refine lv_goto (tgt := 5) hx hb dJ7_fill_53178_17 (by decide) ?_
  refine lv_iload_n hx hb dJ7_fill_53178_5 rfl (lv_at hl 0 rfl) ?_
  refine lv_iload_n hx hb dJ7_fill_53178_6 rfl (lv_at hl 1 rfl) ?_
  refine lv_icmp_ge (tgt := 20) hx hb dJ7_fill_53178_7 (by decide) (fun c => False.elim (by revert c; decide)) (fun _ => ?_)
  refine lv_aload_n hx hb dJ7_fill_53178_10 rfl (lv_at hl 2 rfl) ?_
  refine lv_iload_n hx hb dJ7_fill_53178_11 rfl (lv_at hl 0 rfl) ?_
  refine lv_iload_n hx hb dJ7_fill_53178_12 rfl (lv_at hl 3 rfl) ?_
  refine va_iast hx hb hK hP hD hS 0 0 rfl rfl (vp_in_iff.mpr (by decide)) dJ7_fill_53178_13 (fun H locs hP hD hS => ?_)
  have hP : va_P D vwCl [(q, .inl (c 0, 11, .inl (upd (upd (upd (upd (upd (upd (upd (upd (upd (f) (Int32.toNatClampNeg 0) x) (Int32.toNatClampNeg 1) x) (Int32.toNatClampNeg 2) x) (Int32.toNatClampNeg 3) x) (Int32.toNatClampNeg 4) x) (Int32.toNatClampNeg 5) x) (Int32.toNatClampNeg 6) x) (Int32.toNatClampNeg 7) x) (Int32.toNatClampNeg 8) x)))] H := hP
  have hD : va_D A [(q, .inl (c 0, 11, .inl (upd (upd (upd (upd (upd (upd (upd (upd (upd (f) (Int32.toNatClampNeg 0) x) (Int32.toNatClampNeg 1) x) (Int32.toNatClampNeg 2) x) (Int32.toNatClampNeg 3) x) (Int32.toNatClampNeg 4) x) (Int32.toNatClampNeg 5) x) (Int32.toNatClampNeg 6) x) (Int32.toNatClampNeg 7) x) (Int32.toNatClampNeg 8) x)))] := hD
  refine lv_iinc (v := 9) (lv' := [(2, .int 9), (3, .int 11), (0, .ref q), (1, .int x)]) hx hb dJ7_fill_53178_14 hl (k := 0) rfl (by decide) (by decide) rfl (fun ls hl => ?_)
  refine lv_goto (tgt := 5) hx hb dJ7_fill_53178_17 (by decide) ?_
  refine lv_iload_n hx hb dJ7_fill_53178_5 rfl (lv_at hl 0 rfl) ?_
  refine lv_iload_n hx hb dJ7_fill_53178_6 rfl (lv_at hl 1 rfl) ?_
  refine lv_icmp_ge (tgt := 20) hx hb dJ7_fill_53178_7 (by decide) (fun c => False.elim (by revert c; decide)) (fun _ => ?_)
  refine lv_aload_n hx hb dJ7_fill_53178_10 rfl (lv_at hl 2 rfl) ?_
  refine lv_iload_n hx hb dJ7_fill_53178_11 rfl (lv_at hl 0 rfl) ?_
  refine lv_iload_n hx hb dJ7_fill_53178_12 rfl (lv_at hl 3 rfl) ?_
  refine va_iast hx hb hK hP hD hS 0 0 rfl rfl (vp_in_iff.mpr (by decide)) dJ7_fill_53178_13 (fun H locs hP hD hS => ?_)
  have hP : va_P D vwCl [(q, .inl (c 0, 11, .inl (upd (upd (upd (upd (upd (upd (upd (upd (upd (upd (f) (Int32.toNatClampNeg 0) x) (Int32.toNatClampNeg 1) x) (Int32.toNatClampNeg 2) x) (Int32.toNatClampNeg 3) x) (Int32.toNatClampNeg 4) x) (Int32.toNatClampNeg 5) x) (Int32.toNatClampNeg 6) x) (Int32.toNatClampNeg 7) x) (Int32.toNatClampNeg 8) x) (Int32.toNatClampNeg 9) x)))] H := hP
  have hD : va_D A [(q, .inl (c 0, 11, .inl (upd (upd (upd (upd (upd (upd (upd (upd (upd (upd (f) (Int32.toNatClampNeg 0) x) (Int32.toNatClampNeg 1) x) (Int32.toNatClampNeg 2) x) (Int32.toNatClampNeg 3) x) (Int32.toNatClampNeg 4) x) (Int32.toNatClampNeg 5) x) (Int32.toNatClampNeg 6) x) (Int32.toNatClampNeg 7) x) (Int32.toNatClampNeg 8) x) (Int32.toNatClampNeg 9) x)))] := hD
  refine lv_iinc (v := 10) (lv' := [(2, .int 10), (3, .int 11), (0, .ref q), (1, .int x)]) hx hb dJ7_fill_53178_14 hl (k := 0) rfl (by decide) (by decide) rfl (fun ls hl => ?_)
  refine lv_goto (tgt := 5) hx hb dJ7_fill_53178_17 (by decide) ?_
  refine lv_iload_n hx hb dJ7_fill_53178_5 rfl (lv_at hl 0 rfl) ?_
  refine lv_iload_n hx hb dJ7_fill_53178_6 rfl (lv_at hl 1 rfl) ?_
  refine lv_icmp_ge (tgt := 20) hx hb dJ7_fill_53178_7 (by decide) (fun c => False.elim (by revert c; decide)) (fun _ => ?_)
  refine lv_aload_n hx hb dJ7_fill_53178_10 rfl (lv_at hl 2 rfl) ?_
  refine lv_iload_n hx hb dJ7_fill_53178_11 rfl (lv_at hl 0 rfl) ?_
  refine lv_iload_n hx hb dJ7_fill_53178_12 rfl (lv_at hl 3 rfl) ?_
  refine va_iast hx hb hK hP hD hS 0 0 rfl rfl (vp_in_iff.mpr (by decide)) dJ7_fill_53178_13 (fun H locs hP hD hS => ?_)
  have hP : va_P D vwCl [(q, .inl (c 0, 11, .inl (upd (upd (upd (upd (upd (upd (upd (upd (upd (upd (upd (f) (Int32.toNatClampNeg 0) x) (Int32.toNatClampNeg 1) x) (Int32.toNatClampNeg 2) x) (Int32.toNatClampNeg 3) x) (Int32.toNatClampNeg 4) x) (Int32.toNatClampNeg 5) x) (Int32.toNatClampNeg 6) x) (Int32.toNatClampNeg 7) x) (Int32.toNatClampNeg 8) x) (Int32.toNatClampNeg 9) x) (Int32.toNatClampNeg 10) x)))] H := hP
  have hD : va_D A [(q, .inl (c 0, 11, .inl (upd (upd (upd (upd (upd (upd (upd (upd (upd (upd (upd (f) (Int32.toNatClampNeg 0) x) (Int32.toNatClampNeg 1) x) (Int32.toNatClampNeg 2) x) (Int32.toNatClampNeg 3) x) (Int32.toNatClampNeg 4) x) (Int32.toNatClampNeg 5) x) (Int32.toNatClampNeg 6) x) (Int32.toNatClampNeg 7) x) (Int32.toNatClampNeg 8) x) (Int32.toNatClampNeg 9) x) (Int32.toNatClampNeg 10) x)))] := hD
  refine lv_iinc (v := 11) (lv' := [(2, .int 11), (3, .int 11), (0, .ref q), (1, .int x)]) hx hb dJ7_fill_53178_14 hl (k := 0) rfl (by decide) (by decide) rfl (fun ls hl => ?_)
  refine lv_goto (tgt := 5) hx hb dJ7_fill_53178_17 (by decide) ?_
  refine lv_iload_n hx hb dJ7_fill_53178_5 rfl (lv_at hl 0 rfl) ?_
  refine lv_iload_n hx hb dJ7_fill_53178_6 rfl (lv_at hl 1 rfl) ?_
  refine lv_icmp_ge (tgt := 20) hx hb dJ7_fill_53178_7 (by decide) (fun _ => ?_) (fun c => False.elim (by revert c; decide))
  exact rt_v hx hb hr hlocks hK hP hD hS dJ7_fill_53178_20 (upd (upd (upd (upd (upd (upd (upd (upd (upd (upd (upd (f) (Int32.toNatClampNeg 0) x) (Int32.toNatClampNeg 1) x) (Int32.toNatClampNeg 2) x) (Int32.toNatClampNeg 3) x) (Int32.toNatClampNeg 4) x) (Int32.toNatClampNeg 5) x) (Int32.toNatClampNeg 6) x) (Int32.toNatClampNeg 7) x) (Int32.toNatClampNeg 8) x) (Int32.toNatClampNeg 9) x) (Int32.toNatClampNeg 10) x) [0] rfl rfl trivial
set_option maxHeartbeats 4000000 in
set_option maxRecDepth 100000 in
/-- X3_init -/
theorem c_X3_init (l : Launch) (D : va_G) (c : Nat → ClassId) (sz : Nat) (h0 : Nat) : Met l yX3_init (.code yX3_init cX3_init 1 none :: Wd) ({ frames := 1, cells := 6, slots := 58, locals := 32 }) (va_Pc [.ref h0] (WB D c [(h0, .inr (3, nwX3))] sz)) (QV (S := Unit) D c (fun _ => True) (fun _ => []) (va_A [(h0, .inr (3, nwX3))] sz)) 6 58 (va_A [(h0, .inr (3, nwX3))] sz) := by
  refine kz_met (Qc := QV (S := Unit) D c (fun _ => True) (fun _ => [])) (by decide) (Nat.le_of_ble_eq_true rfl) ?_
  intro p e s m below meth cd A ls H hx hb hr hml hts hown hlocks hin hN hO hK hP hD hS hA hl
  have hl : lv_has ls 1 [(0, .ref h0)] := hl
  have hown : s.vm.findClass RX3 = some m.cls := hown
  refine lv_aload_n hx hb dX3_init_0 rfl (lv_at hl 0 rfl) ?_
  refine W.objInit hx hb hown (hts _ wd_233) (hts _ wd_110) (hts _ wd_111) rfl (by rw [hml]; exact hl.1) rfl dX3_init_1 (Nat.le_of_ble_eq_true rfl) (Nat.le_of_ble_eq_true rfl) ?_
  refine W.eq (g2 := F0 m 4 ls []) rfl ?_
  refine lv_aload_n hx hb dX3_init_4 rfl (lv_at hl 0 rfl) ?_
  refine lv_bipush (v := 11) hx hb dX3_init_5 (by decide) ?_
  refine kz_newa (c := c) (atype := .int) (a0 := (11, .inl (fun _ => 0))) hx hb 0 rfl (hts _ wd_129) rfl hK hP hD hS hA (fun _ => rfl) (by decide) (by decide) (Nat.le_of_ble_eq_true rfl) (Nat.le_of_ble_eq_true rfl) (Nat.le_of_ble_eq_true rfl) dX3_init_7 (fun q1 H hP hD hS => ?_)
  have hP : va_P D vwCl [(h0, .inr (3, nwX3)), (q1, .inl (c 0, 11, .inl (fun _ => 0)))] H := hP
  have hD : va_D A [(h0, .inr (3, nwX3)), (q1, .inl (c 0, 11, .inl (fun _ => 0)))] := hD
  refine W.widen (k := 1) (n := 11) (Nat.le_of_ble_eq_true rfl) (Nat.le_of_ble_eq_true rfl) ?_
  refine va_putF (D := D) (ci := 3) (v := .ref q1) (ty := (.array .int)) (C := RX3) (T := TX3) (N := 10) hx hb hts inW_3 tyX3 tyX3_ok nmX3 hown hK hP hD hS 0 rfl rfl 0 (by decide) (hts _ wd_237) (fun _ h9 => h9) rfl hin rfl (by decide +kernel) rfl rfl (Nat.le_of_ble_eq_true rfl) dX3_init_9 (fun H locs hP hD hS => ?_)
  have hP : va_P D vwCl [(h0, .inr (3, [.ref q1, .null, .null, .null, .null, .null, .int 0, .int 0, .int 0, .int 0])), (q1, .inl (c 0, 11, .inl (fun _ => 0)))] H := hP
  have hD : va_D A [(h0, .inr (3, [.ref q1, .null, .null, .null, .null, .null, .int 0, .int 0, .int 0, .int 0])), (q1, .inl (c 0, 11, .inl (fun _ => 0)))] := hD
  refine lv_aload_n hx hb dX3_init_12 rfl (lv_at hl 0 rfl) ?_
  refine lv_iconst (v := 4) hx hb dX3_init_13 (by decide) ?_
  refine kz_newa (c := c) (atype := .int) (a0 := (4, .inl (fun _ => 0))) hx hb 0 rfl (hts _ wd_129) rfl hK hP hD hS hA (fun _ => rfl) (by decide) (by decide) (Nat.le_of_ble_eq_true rfl) (Nat.le_of_ble_eq_true rfl) (Nat.le_of_ble_eq_true rfl) dX3_init_14 (fun q2 H hP hD hS => ?_)
  have hP : va_P D vwCl [(h0, .inr (3, [.ref q1, .null, .null, .null, .null, .null, .int 0, .int 0, .int 0, .int 0])), (q1, .inl (c 0, 11, .inl (fun _ => 0))), (q2, .inl (c 0, 4, .inl (fun _ => 0)))] H := hP
  have hD : va_D A [(h0, .inr (3, [.ref q1, .null, .null, .null, .null, .null, .int 0, .int 0, .int 0, .int 0])), (q1, .inl (c 0, 11, .inl (fun _ => 0))), (q2, .inl (c 0, 4, .inl (fun _ => 0)))] := hD
  refine W.widen (k := 2) (n := 15) (Nat.le_of_ble_eq_true rfl) (Nat.le_of_ble_eq_true rfl) ?_
  refine va_putF (D := D) (ci := 3) (v := .ref q2) (ty := (.array .int)) (C := RX3) (T := TX3) (N := 10) hx hb hts inW_3 tyX3 tyX3_ok nmX3 hown hK hP hD hS 0 rfl rfl 1 (by decide) (hts _ wd_239) (fun _ h9 => h9) rfl hin rfl (by decide +kernel) rfl rfl (Nat.le_of_ble_eq_true rfl) dX3_init_16 (fun H locs hP hD hS => ?_)
  have hP : va_P D vwCl [(h0, .inr (3, [.ref q1, .ref q2, .null, .null, .null, .null, .int 0, .int 0, .int 0, .int 0])), (q1, .inl (c 0, 11, .inl (fun _ => 0))), (q2, .inl (c 0, 4, .inl (fun _ => 0)))] H := hP
  have hD : va_D A [(h0, .inr (3, [.ref q1, .ref q2, .null, .null, .null, .null, .int 0, .int 0, .int 0, .int 0])), (q1, .inl (c 0, 11, .inl (fun _ => 0))), (q2, .inl (c 0, 4, .inl (fun _ => 0)))] := hD
  refine lv_aload_n hx hb dX3_init_19 rfl (lv_at hl 0 rfl) ?_
  refine lv_bipush (v := 28) hx hb dX3_init_20 (by decide) ?_
  refine kz_newa (c := c) (atype := .int) (a0 := (28, .inl (fun _ => 0))) hx hb 0 rfl (hts _ wd_129) rfl hK hP hD hS hA (fun _ => rfl) (by decide) (by decide) (Nat.le_of_ble_eq_true rfl) (Nat.le_of_ble_eq_true rfl) (Nat.le_of_ble_eq_true rfl) dX3_init_22 (fun q3 H hP hD hS => ?_)
  have hP : va_P D vwCl [(h0, .inr (3, [.ref q1, .ref q2, .null, .null, .null, .null, .int 0, .int 0, .int 0, .int 0])), (q1, .inl (c 0, 11, .inl (fun _ => 0))), (q2, .inl (c 0, 4, .inl (fun _ => 0))), (q3, .inl (c 0, 28, .inl (fun _ => 0)))] H := hP
  have hD : va_D A [(h0, .inr (3, [.ref q1, .ref q2, .null, .null, .null, .null, .int 0, .int 0, .int 0, .int 0])), (q1, .inl (c 0, 11, .inl (fun _ => 0))), (q2, .inl (c 0, 4, .inl (fun _ => 0))), (q3, .inl (c 0, 28, .inl (fun _ => 0)))] := hD
  refine W.widen (k := 3) (n := 43) (Nat.le_of_ble_eq_true rfl) (Nat.le_of_ble_eq_true rfl) ?_
  refine va_putF (D := D) (ci := 3) (v := .ref q3) (ty := (.array .int)) (C := RX3) (T := TX3) (N := 10) hx hb hts inW_3 tyX3 tyX3_ok nmX3 hown hK hP hD hS 0 rfl rfl 2 (by decide) (hts _ wd_240) (fun _ h9 => h9) rfl hin rfl (by decide +kernel) rfl rfl (Nat.le_of_ble_eq_true rfl) dX3_init_24 (fun H locs hP hD hS => ?_)
  have hP : va_P D vwCl [(h0, .inr (3, [.ref q1, .ref q2, .ref q3, .null, .null, .null, .int 0, .int 0, .int 0, .int 0])), (q1, .inl (c 0, 11, .inl (fun _ => 0))), (q2, .inl (c 0, 4, .inl (fun _ => 0))), (q3, .inl (c 0, 28, .inl (fun _ => 0)))] H := hP
  have hD : va_D A [(h0, .inr (3, [.ref q1, .ref q2, .ref q3, .null, .null, .null, .int 0, .int 0, .int 0, .int 0])), (q1, .inl (c 0, 11, .inl (fun _ => 0))), (q2, .inl (c 0, 4, .inl (fun _ => 0))), (q3, .inl (c 0, 28, .inl (fun _ => 0)))] := hD
  refine lv_aload_n hx hb dX3_init_27 rfl (lv_at hl 0 rfl) ?_
  refine lv_iconst (v := 4) hx hb dX3_init_28 (by decide) ?_
  refine kz_newa (c := c) (atype := .int) (a0 := (4, .inl (fun _ => 0))) hx hb 0 rfl (hts _ wd_129) rfl hK hP hD hS hA (fun _ => rfl) (by decide) (by decide) (Nat.le_of_ble_eq_true rfl) (Nat.le_of_ble_eq_true rfl) (Nat.le_of_ble_eq_true rfl) dX3_init_29 (fun q4 H hP hD hS => ?_)
  have hP : va_P D vwCl [(h0, .inr (3, [.ref q1, .ref q2, .ref q3, .null, .null, .null, .int 0, .int 0, .int 0, .int 0])), (q1, .inl (c 0, 11, .inl (fun _ => 0))), (q2, .inl (c 0, 4, .inl (fun _ => 0))), (q3, .inl (c 0, 28, .inl (fun _ => 0))), (q4, .inl (c 0, 4, .inl (fun _ => 0)))] H := hP
  have hD : va_D A [(h0, .inr (3, [.ref q1, .ref q2, .ref q3, .null, .null, .null, .int 0, .int 0, .int 0, .int 0])), (q1, .inl (c 0, 11, .inl (fun _ => 0))), (q2, .inl (c 0, 4, .inl (fun _ => 0))), (q3, .inl (c 0, 28, .inl (fun _ => 0))), (q4, .inl (c 0, 4, .inl (fun _ => 0)))] := hD
  refine W.widen (k := 4) (n := 47) (Nat.le_of_ble_eq_true rfl) (Nat.le_of_ble_eq_true rfl) ?_
  refine va_putF (D := D) (ci := 3) (v := .ref q4) (ty := (.array .int)) (C := RX3) (T := TX3) (N := 10) hx hb hts inW_3 tyX3 tyX3_ok nmX3 hown hK hP hD hS 0 rfl rfl 3 (by decide) (hts _ wd_241) (fun _ h9 => h9) rfl hin rfl (by decide +kernel) rfl rfl (Nat.le_of_ble_eq_true rfl) dX3_init_31 (fun H locs hP hD hS => ?_)
  have hP : va_P D vwCl [(h0, .inr (3, [.ref q1, .ref q2, .ref q3, .ref q4, .null, .null, .int 0, .int 0, .int 0, .int 0])), (q1, .inl (c 0, 11, .inl (fun _ => 0))), (q2, .inl (c 0, 4, .inl (fun _ => 0))), (q3, .inl (c 0, 28, .inl (fun _ => 0))), (q4, .inl (c 0, 4, .inl (fun _ => 0)))] H := hP
  have hD : va_D A [(h0, .inr (3, [.ref q1, .ref q2, .ref q3, .ref q4, .null, .null, .int 0, .int 0, .int 0, .int 0])), (q1, .inl (c 0, 11, .inl (fun _ => 0))), (q2, .inl (c 0, 4, .inl (fun _ => 0))), (q3, .inl (c 0, 28, .inl (fun _ => 0))), (q4, .inl (c 0, 4, .inl (fun _ => 0)))] := hD
  refine lv_aload_n hx hb dX3_init_34 rfl (lv_at hl 0 rfl) ?_
  refine lv_iconst (v := 4) hx hb dX3_init_35 (by decide) ?_
  refine kz_newa (c := c) (atype := .int) (a0 := (4, .inl (fun _ => 0))) hx hb 0 rfl (hts _ wd_129) rfl hK hP hD hS hA (fun _ => rfl) (by decide) (by decide) (Nat.le_of_ble_eq_true rfl) (Nat.le_of_ble_eq_true rfl) (Nat.le_of_ble_eq_true rfl) dX3_init_36 (fun q5 H hP hD hS => ?_)
  have hP : va_P D vwCl [(h0, .inr (3, [.ref q1, .ref q2, .ref q3, .ref q4, .null, .null, .int 0, .int 0, .int 0, .int 0])), (q1, .inl (c 0, 11, .inl (fun _ => 0))), (q2, .inl (c 0, 4, .inl (fun _ => 0))), (q3, .inl (c 0, 28, .inl (fun _ => 0))), (q4, .inl (c 0, 4, .inl (fun _ => 0))), (q5, .inl (c 0, 4, .inl (fun _ => 0)))] H := hP
  have hD : va_D A [(h0, .inr (3, [.ref q1, .ref q2, .ref q3, .ref q4, .null, .null, .int 0, .int 0, .int 0, .int 0])), (q1, .inl (c 0, 11, .inl (fun _ => 0))), (q2, .inl (c 0, 4, .inl (fun _ => 0))), (q3, .inl (c 0, 28, .inl (fun _ => 0))), (q4, .inl (c 0, 4, .inl (fun _ => 0))), (q5, .inl (c 0, 4, .inl (fun _ => 0)))] := hD
  refine W.widen (k := 5) (n := 51) (Nat.le_of_ble_eq_true rfl) (Nat.le_of_ble_eq_true rfl) ?_
  refine va_putF (D := D) (ci := 3) (v := .ref q5) (ty := (.array .int)) (C := RX3) (T := TX3) (N := 10) hx hb hts inW_3 tyX3 tyX3_ok nmX3 hown hK hP hD hS 0 rfl rfl 4 (by decide) (hts _ wd_242) (fun _ h9 => h9) rfl hin rfl (by decide +kernel) rfl rfl (Nat.le_of_ble_eq_true rfl) dX3_init_38 (fun H locs hP hD hS => ?_)
  have hP : va_P D vwCl [(h0, .inr (3, [.ref q1, .ref q2, .ref q3, .ref q4, .ref q5, .null, .int 0, .int 0, .int 0, .int 0])), (q1, .inl (c 0, 11, .inl (fun _ => 0))), (q2, .inl (c 0, 4, .inl (fun _ => 0))), (q3, .inl (c 0, 28, .inl (fun _ => 0))), (q4, .inl (c 0, 4, .inl (fun _ => 0))), (q5, .inl (c 0, 4, .inl (fun _ => 0)))] H := hP
  have hD : va_D A [(h0, .inr (3, [.ref q1, .ref q2, .ref q3, .ref q4, .ref q5, .null, .int 0, .int 0, .int 0, .int 0])), (q1, .inl (c 0, 11, .inl (fun _ => 0))), (q2, .inl (c 0, 4, .inl (fun _ => 0))), (q3, .inl (c 0, 28, .inl (fun _ => 0))), (q4, .inl (c 0, 4, .inl (fun _ => 0))), (q5, .inl (c 0, 4, .inl (fun _ => 0)))] := hD
  refine lv_aload_n hx hb dX3_init_41 rfl (lv_at hl 0 rfl) ?_
  refine lv_bipush (v := 7) hx hb dX3_init_42 (by decide) ?_
  refine kz_newa (c := c) (atype := .int) (a0 := (7, .inl (fun _ => 0))) hx hb 0 rfl (hts _ wd_129) rfl hK hP hD hS hA (fun _ => rfl) (by decide) (by decide) (Nat.le_of_ble_eq_true rfl) (Nat.le_of_ble_eq_true rfl) (Nat.le_of_ble_eq_true rfl) dX3_init_44 (fun q6 H hP hD hS => ?_)
  have hP : va_P D vwCl [(h0, .inr (3, [.ref q1, .ref q2, .ref q3, .ref q4, .ref q5, .null, .int 0, .int 0, .int 0, .int 0])), (q1, .inl (c 0, 11, .inl (fun _ => 0))), (q2, .inl (c 0, 4, .inl (fun _ => 0))), (q3, .inl (c 0, 28, .inl (fun _ => 0))), (q4, .inl (c 0, 4, .inl (fun _ => 0))), (q5, .inl (c 0, 4, .inl (fun _ => 0))), (q6, .inl (c 0, 7, .inl (fun _ => 0)))] H := hP
  have hD : va_D A [(h0, .inr (3, [.ref q1, .ref q2, .ref q3, .ref q4, .ref q5, .null, .int 0, .int 0, .int 0, .int 0])), (q1, .inl (c 0, 11, .inl (fun _ => 0))), (q2, .inl (c 0, 4, .inl (fun _ => 0))), (q3, .inl (c 0, 28, .inl (fun _ => 0))), (q4, .inl (c 0, 4, .inl (fun _ => 0))), (q5, .inl (c 0, 4, .inl (fun _ => 0))), (q6, .inl (c 0, 7, .inl (fun _ => 0)))] := hD
  refine W.widen (k := 6) (n := 58) (Nat.le_of_ble_eq_true rfl) (Nat.le_of_ble_eq_true rfl) ?_
  refine va_putF (D := D) (ci := 3) (v := .ref q6) (ty := (.array .int)) (C := RX3) (T := TX3) (N := 10) hx hb hts inW_3 tyX3 tyX3_ok nmX3 hown hK hP hD hS 0 rfl rfl 5 (by decide) (hts _ wd_243) (fun _ h9 => h9) rfl hin rfl (by decide +kernel) rfl rfl (Nat.le_of_ble_eq_true rfl) dX3_init_46 (fun H locs hP hD hS => ?_)
  have hP : va_P D vwCl [(h0, .inr (3, [.ref q1, .ref q2, .ref q3, .ref q4, .ref q5, .ref q6, .int 0, .int 0, .int 0, .int 0])), (q1, .inl (c 0, 11, .inl (fun _ => 0))), (q2, .inl (c 0, 4, .inl (fun _ => 0))), (q3, .inl (c 0, 28, .inl (fun _ => 0))), (q4, .inl (c 0, 4, .inl (fun _ => 0))), (q5, .inl (c 0, 4, .inl (fun _ => 0))), (q6, .inl (c 0, 7, .inl (fun _ => 0)))] H := hP
  have hD : va_D A [(h0, .inr (3, [.ref q1, .ref q2, .ref q3, .ref q4, .ref q5, .ref q6, .int 0, .int 0, .int 0, .int 0])), (q1, .inl (c 0, 11, .inl (fun _ => 0))), (q2, .inl (c 0, 4, .inl (fun _ => 0))), (q3, .inl (c 0, 28, .inl (fun _ => 0))), (q4, .inl (c 0, 4, .inl (fun _ => 0))), (q5, .inl (c 0, 4, .inl (fun _ => 0))), (q6, .inl (c 0, 7, .inl (fun _ => 0)))] := hD
  refine lv_aload_n hx hb dX3_init_49 rfl (lv_at hl 0 rfl) ?_
  refine va_get (D := D) (ci := 3) (v := .ref q1) (C := RX3) (T := TX3) (N := 10) hx hb hts inW_3 hown hK hP 0 rfl rfl 0 (by decide) (hts _ wd_237) (fun _ h9 => h9) rfl dX3_init_50 ?_
  refine lv_iconst (v := (-1)) hx hb dX3_init_53 (by decide) ?_
  have hPc := hP.sub (ws' := [(q1, .inl (c 0, 11, .inl ((fun _ => 0))))]) [1] rfl
  have hDc := hD.sub (ws' := [(q1, .inl (c 0, 11, .inl ((fun _ => 0))))]) [1] (by decide) rfl
  refine cl_v (wr := [(h0, .inr (3, [.ref q1, .ref q2, .ref q3, .ref q4, .ref q5, .ref q6, .int 0, .int 0, .int 0, .int 0])), (q2, .inl (c 0, 4, .inl (fun _ => 0))), (q3, .inl (c 0, 28, .inl (fun _ => 0))), (q4, .inl (c 0, 4, .inl (fun _ => 0))), (q5, .inl (c 0, 4, .inl (fun _ => 0))), (q6, .inl (c 0, 7, .inl (fun _ => 0)))]) (va_runS (As := [.ref q1, .int (-1)]) (rest := []) ⟨hx, hb, hml, hown, hts⟩ (c_J7_fill_53178 l D c H.size q1 ((fun _ => 0)) ((-1))) (kw_S 2 hts wd_234 wd_235 wd_89 wd_236 rfl rfl (by decide +kernel) ⟨Nat.le_of_ble_eq_true rfl, Nat.le_of_ble_eq_true rfl⟩) (pre_S hPc hK hDc hN hO) rfl rfl hl.1 rfl (lv_room (Nat.le_of_ble_eq_true rfl)) dX3_init_54 ⟨Nat.le_of_ble_eq_true rfl, Nat.le_of_ble_eq_true rfl⟩) hP hD hS hA [1] [0, 2, 3, 4, 5, 6] rfl rfl (by decide) (by decide) (fun u8 H locs h9 hP hD hS => ?_)
  have hP : va_P D vwCl [(h0, .inr (3, [.ref q1, .ref q2, .ref q3, .ref q4, .ref q5, .ref q6, .int 0, .int 0, .int 0, .int 0])), (q2, .inl (c 0, 4, .inl (fun _ => 0))), (q3, .inl (c 0, 28, .inl (fun _ => 0))), (q4, .inl (c 0, 4, .inl (fun _ => 0))), (q5, .inl (c 0, 4, .inl (fun _ => 0))), (q6, .inl (c 0, 7, .inl (fun _ => 0))), (q1, .inl (c 0, 11, .inl (u8)))] H := hP
  have hD : va_D A [(h0, .inr (3, [.ref q1, .ref q2, .ref q3, .ref q4, .ref q5, .ref q6, .int 0, .int 0, .int 0, .int 0])), (q2, .inl (c 0, 4, .inl (fun _ => 0))), (q3, .inl (c 0, 28, .inl (fun _ => 0))), (q4, .inl (c 0, 4, .inl (fun _ => 0))), (q5, .inl (c 0, 4, .inl (fun _ => 0))), (q6, .inl (c 0, 7, .inl (fun _ => 0))), (q1, .inl (c 0, 11, .inl (u8)))] := hD
  exact rt_v hx hb hr hlocks hK hP hD hS dX3_init_57 () [] rfl rfl trivial
set_option maxHeartbeats 4000000 in
set_option maxRecDepth 100000 in
/-- X9_init -/
theorem c_X9_init (l : Launch) (D : va_G) (c : Nat → ClassId) (sz : Nat) (h0 : Nat) : Met l yX9_init (.code yX9_init cX9_init 1 none :: Wd) ({ frames := 1, cells := 0, slots := 0, locals := 32 }) (va_Pc [.ref h0] (WB D c [(h0, .inr (9, nwX9))] sz)) (QV (S := Unit) D c (fun _ => True) (fun _ => [(h0, .inr (9, nwX9))]) (va_A [(h0, .inr (9, nwX9))] sz)) 0 0 (va_A [(h0, .inr (9, nwX9))] sz) := by
  refine kz_met (Qc := QV (S := Unit) D c (fun _ => True) (fun _ => [(h0, .inr (9, nwX9))])) (by decide) (Nat.le_of_ble_eq_true rfl) ?_
  intro p e s m below meth cd A ls H hx hb hr hml hts hown hlocks hin hN hO hK hP hD hS hA hl
  have hl : lv_has ls 1 [(0, .ref h0)] := hl
  have hown : s.vm.findClass RX9 = some m.cls := hown
  refine lv_aload_n hx hb dX9_init_0 rfl (lv_at hl 0 rfl) ?_
  refine W.objInit hx hb hown (hts _ wd_472) (hts _ wd_110) (hts _ wd_111) rfl (by rw [hml]; exact hl.1) rfl dX9_init_1 (Nat.le_of_ble_eq_true rfl) (Nat.le_of_ble_eq_true rfl) ?_
  refine W.eq (g2 := F0 m 4 ls []) rfl ?_
  exact rt_v hx hb hr hlocks hK hP hD hS dX9_init_4 () [0] rfl rfl trivial
set_option maxHeartbeats 4000000 in
set_option maxRecDepth 100000 in
/-- X1_init -/
theorem c_X1_init (l : Launch) (D : va_G) (c : Nat → ClassId) (sz : Nat) (h0 : Nat) (area : Int32) : Met l yX1_init (.code yX1_init cX1_init 2 none :: Wd) ({ frames := 1, cells := 7, slots := 148, locals := 32 }) (va_Pc [.ref h0, .int area] (WB D c [(h0, .inr (1, nwX1))] sz)) (QV (S := Unit) D c (fun _ => True) (fun _ => []) (va_A [(h0, .inr (1, nwX1))] sz)) 7 148 (va_A [(h0, .inr (1, nwX1))] sz) := by
  refine kz_met (Qc := QV (S := Unit) D c (fun _ => True) (fun _ => [])) (by decide) (Nat.le_of_ble_eq_true rfl) ?_
  intro p e s m below meth cd A ls H hx hb hr hml hts hown hlocks hin hN hO hK hP hD hS hA hl
  have hl : lv_has ls 2 [(0, .ref h0), (1, .int area)] := hl
  have hown : s.vm.findClass RX1 = some m.cls := hown
  refine lv_aload_n hx hb dX1_init_0 rfl (lv_at hl 0 rfl) ?_
  refine W.objInit hx hb hown (hts _ wd_496) (hts _ wd_110) (hts _ wd_111) rfl (by rw [hml]; exact hl.1) rfl dX1_init_1 (Nat.le_of_ble_eq_true rfl) (Nat.le_of_ble_eq_true rfl) ?_
  refine W.eq (g2 := F0 m 4 ls []) rfl ?_
  refine lv_aload_n hx hb dX1_init_4 rfl (lv_at hl 0 rfl) ?_
  refine lv_bipush (v := 20) hx hb dX1_init_5 (by decide) ?_
  refine kz_newa (c := c) (atype := .int) (a0 := (20, .inl (fun _ => 0))) hx hb 0 rfl (hts _ wd_129) rfl hK hP hD hS hA (fun _ => rfl) (by decide) (by decide) (Nat.le_of_ble_eq_true rfl) (Nat.le_of_ble_eq_true rfl) (Nat.le_of_ble_eq_true rfl) dX1_init_7 (fun q1 H hP hD hS => ?_)
  have hP : va_P D vwCl [(h0, .inr (1, nwX1)), (q1, .inl (c 0, 20, .inl (fun _ => 0)))] H := hP
  have hD : va_D A [(h0, .inr (1, nwX1)), (q1, .inl (c 0, 20, .inl (fun _ => 0)))] := hD
  refine W.widen (k := 1) (n := 20) (Nat.le_of_ble_eq_true rfl) (Nat.le_of_ble_eq_true rfl) ?_
  refine va_putF (D := D) (ci := 1) (v := .ref q1) (ty := (.array .int)) (C := RX1) (T := TX1) (N := 11) hx hb hts inW_1 tyX1 tyX1_ok nmX1 hown hK hP hD hS 0 rfl rfl 1 (by decide) (hts _ wd_498) (fun _ h9 => h9) rfl hin rfl (by decide +kernel) rfl rfl (Nat.le_of_ble_eq_true rfl) dX1_init_9 (fun H locs hP hD hS => ?_)
  have hP : va_P D vwCl [(h0, .inr (1, [.int 0, .ref q1, .null, .null, .null, .null, .null, .null, .int 0, .int 0, .int 0])), (q1, .inl (c 0, 20, .inl (fun _ => 0)))] H := hP
  have hD : va_D A [(h0, .inr (1, [.int 0, .ref q1, .null, .null, .null, .null, .null, .null, .int 0, .int 0, .int 0])), (q1, .inl (c 0, 20, .inl (fun _ => 0)))] := hD
  refine lv_aload_n hx hb dX1_init_12 rfl (lv_at hl 0 rfl) ?_
  refine lv_bipush (v := 20) hx hb dX1_init_13 (by decide) ?_
  refine kz_newa (c := c) (atype := .int) (a0 := (20, .inl (fun _ => 0))) hx hb 0 rfl (hts _ wd_129) rfl hK hP hD hS hA (fun _ => rfl) (by decide) (by decide) (Nat.le_of_ble_eq_true rfl) (Nat.le_of_ble_eq_true rfl) (Nat.le_of_ble_eq_true rfl) dX1_init_15 (fun q2 H hP hD hS => ?_)
  have hP : va_P D vwCl [(h0, .inr (1, [.int 0, .ref q1, .null, .null, .null, .null, .null, .null, .int 0, .int 0, .int 0])), (q1, .inl (c 0, 20, .inl (fun _ => 0))), (q2, .inl (c 0, 20, .inl (fun _ => 0)))] H := hP
  have hD : va_D A [(h0, .inr (1, [.int 0, .ref q1, .null, .null, .null, .null, .null, .null, .int 0, .int 0, .int 0])), (q1, .inl (c 0, 20, .inl (fun _ => 0))), (q2, .inl (c 0, 20, .inl (fun _ => 0)))] := hD
  refine W.widen (k := 2) (n := 40) (Nat.le_of_ble_eq_true rfl) (Nat.le_of_ble_eq_true rfl) ?_
  refine va_putF (D := D) (ci := 1) (v := .ref q2) (ty := (.array .int)) (C := RX1) (T := TX1) (N := 11) hx hb hts inW_1 tyX1 tyX1_ok nmX1 hown hK hP hD hS 0 rfl rfl 2 (by decide) (hts _ wd_499) (fun _ h9 => h9) rfl hin rfl (by decide +kernel) rfl rfl (Nat.le_of_ble_eq_true rfl) dX1_init_17 (fun H locs hP hD hS => ?_)
  have hP : va_P D vwCl [(h0, .inr (1, [.int 0, .ref q1, .ref q2, .null, .null, .null, .null, .null, .int 0, .int 0, .int 0])), (q1, .inl (c 0, 20, .inl (fun _ => 0))), (q2, .inl (c 0, 20, .inl (fun _ => 0)))] H := hP
  have hD : va_D A [(h0, .inr (1, [.int 0, .ref q1, .ref q2, .null, .null, .null, .null, .null, .int 0, .int 0, .int 0])), (q1, .inl (c 0, 20, .inl (fun _ => 0))), (q2, .inl (c 0, 20, .inl (fun _ => 0)))] := hD
  refine lv_aload_n hx hb dX1_init_20 rfl (lv_at hl 0 rfl) ?_
  refine lv_bipush (v := 20) hx hb dX1_init_21 (by decide) ?_
  refine kz_newa (c := c) (atype := .int) (a0 := (20, .inl (fun _ => 0))) hx hb 0 rfl (hts _ wd_129) rfl hK hP hD hS hA (fun _ => rfl) (by decide) (by decide) (Nat.le_of_ble_eq_true rfl) (Nat.le_of_ble_eq_true rfl) (Nat.le_of_ble_eq_true rfl) dX1_init_23 (fun q3 H hP hD hS => ?_)
  have hP : va_P D vwCl [(h0, .inr (1, [.int 0, .ref q1, .ref q2, .null, .null, .null, .null, .null, .int 0, .int 0, .int 0])), (q1, .inl (c 0, 20, .inl (fun _ => 0))), (q2, .inl (c 0, 20, .inl (fun _ => 0))), (q3, .inl (c 0, 20, .inl (fun _ => 0)))] H := hP
  have hD : va_D A [(h0, .inr (1, [.int 0, .ref q1, .ref q2, .null, .null, .null, .null, .null, .int 0, .int 0, .int 0])), (q1, .inl (c 0, 20, .inl (fun _ => 0))), (q2, .inl (c 0, 20, .inl (fun _ => 0))), (q3, .inl (c 0, 20, .inl (fun _ => 0)))] := hD
  refine W.widen (k := 3) (n := 60) (Nat.le_of_ble_eq_true rfl) (Nat.le_of_ble_eq_true rfl) ?_
  refine va_putF (D := D) (ci := 1) (v := .ref q3) (ty := (.array .int)) (C := RX1) (T := TX1) (N := 11) hx hb hts inW_1 tyX1 tyX1_ok nmX1 hown hK hP hD hS 0 rfl rfl 3 (by decide) (hts _ wd_500) (fun _ h9 => h9) rfl hin rfl (by decide +kernel) rfl rfl (Nat.le_of_ble_eq_true rfl) dX1_init_25 (fun H locs hP hD hS => ?_)
  have hP : va_P D vwCl [(h0, .inr (1, [.int 0, .ref q1, .ref q2, .ref q3, .null, .null, .null, .null, .int 0, .int 0, .int 0])), (q1, .inl (c 0, 20, .inl (fun _ => 0))), (q2, .inl (c 0, 20, .inl (fun _ => 0))), (q3, .inl (c 0, 20, .inl (fun _ => 0)))] H := hP
  have hD : va_D A [(h0, .inr (1, [.int 0, .ref q1, .ref q2, .ref q3, .null, .null, .null, .null, .int 0, .int 0, .int 0])), (q1, .inl (c 0, 20, .inl (fun _ => 0))), (q2, .inl (c 0, 20, .inl (fun _ => 0))), (q3, .inl (c 0, 20, .inl (fun _ => 0)))] := hD
  refine lv_aload_n hx hb dX1_init_28 rfl (lv_at hl 0 rfl) ?_
  refine lv_bipush (v := 8) hx hb dX1_init_29 (by decide) ?_
  refine kz_newa (c := c) (atype := .int) (a0 := (8, .inl (fun _ => 0))) hx hb 0 rfl (hts _ wd_129) rfl hK hP hD hS hA (fun _ => rfl) (by decide) (by decide) (Nat.le_of_ble_eq_true rfl) (Nat.le_of_ble_eq_true rfl) (Nat.le_of_ble_eq_true rfl) dX1_init_31 (fun q4 H hP hD hS => ?_)
  have hP : va_P D vwCl [(h0, .inr (1, [.int 0, .ref q1, .ref q2, .ref q3, .null, .null, .null, .null, .int 0, .int 0, .int 0])), (q1, .inl (c 0, 20, .inl (fun _ => 0))), (q2, .inl (c 0, 20, .inl (fun _ => 0))), (q3, .inl (c 0, 20, .inl (fun _ => 0))), (q4, .inl (c 0, 8, .inl (fun _ => 0)))] H := hP
  have hD : va_D A [(h0, .inr (1, [.int 0, .ref q1, .ref q2, .ref q3, .null, .null, .null, .null, .int 0, .int 0, .int 0])), (q1, .inl (c 0, 20, .inl (fun _ => 0))), (q2, .inl (c 0, 20, .inl (fun _ => 0))), (q3, .inl (c 0, 20, .inl (fun _ => 0))), (q4, .inl (c 0, 8, .inl (fun _ => 0)))] := hD
  refine W.widen (k := 4) (n := 68) (Nat.le_of_ble_eq_true rfl) (Nat.le_of_ble_eq_true rfl) ?_
  refine va_putF (D := D) (ci := 1) (v := .ref q4) (ty := (.array .int)) (C := RX1) (T := TX1) (N := 11) hx hb hts inW_1 tyX1 tyX1_ok nmX1 hown hK hP hD hS 0 rfl rfl 4 (by decide) (hts _ wd_501) (fun _ h9 => h9) rfl hin rfl (by decide +kernel) rfl rfl (Nat.le_of_ble_eq_true rfl) dX1_init_33 (fun H locs hP hD hS => ?_)
  have hP : va_P D vwCl [(h0, .inr (1, [.int 0, .ref q1, .ref q2, .ref q3, .ref q4, .null, .null, .null, .int 0, .int 0, .int 0])), (q1, .inl (c 0, 20, .inl (fun _ => 0))), (q2, .inl (c 0, 20, .inl (fun _ => 0))), (q3, .inl (c 0, 20, .inl (fun _ => 0))), (q4, .inl (c 0, 8, .inl (fun _ => 0)))] H := hP
  have hD : va_D A [(h0, .inr (1, [.int 0, .ref q1, .ref q2, .ref q3, .ref q4, .null, .null, .null, .int 0, .int 0, .int 0])), (q1, .inl (c 0, 20, .inl (fun _ => 0))), (q2, .inl (c 0, 20, .inl (fun _ => 0))), (q3, .inl (c 0, 20, .inl (fun _ => 0))), (q4, .inl (c 0, 8, .inl (fun _ => 0)))] := hD
  refine lv_aload_n hx hb dX1_init_36 rfl (lv_at hl 0 rfl) ?_
  refine lv_bipush (v := 8) hx hb dX1_init_37 (by decide) ?_
  refine kz_newa (c := c) (atype := .int) (a0 := (8, .inl (fun _ => 0))) hx hb 0 rfl (hts _ wd_129) rfl hK hP hD hS hA (fun _ => rfl) (by decide) (by decide) (Nat.le_of_ble_eq_true rfl) (Nat.le_of_ble_eq_true rfl) (Nat.le_of_ble_eq_true rfl) dX1_init_39 (fun q5 H hP hD hS => ?_)
  have hP : va_P D vwCl [(h0, .inr (1, [.int 0, .ref q1, .ref q2, .ref q3, .ref q4, .null, .null, .null, .int 0, .int 0, .int 0])), (q1, .inl (c 0, 20, .inl (fun _ => 0))), (q2, .inl (c 0, 20, .inl (fun _ => 0))), (q3, .inl (c 0, 20, .inl (fun _ => 0))), (q4, .inl (c 0, 8, .inl (fun _ => 0))), (q5, .inl (c 0, 8, .inl (fun _ => 0)))] H := hP
  have hD : va_D A [(h0, .inr (1, [.int 0, .ref q1, .ref q2, .ref q3, .ref q4, .null, .null, .null, .int 0, .int 0, .int 0])), (q1, .inl (c 0, 20, .inl (fun _ => 0))), (q2, .inl (c 0, 20, .inl (fun _ => 0))), (q3, .inl (c 0, 20, .inl (fun _ => 0))), (q4, .inl (c 0, 8, .inl (fun _ => 0))), (q5, .inl (c 0, 8, .inl (fun _ => 0)))] := hD
  refine W.widen (k := 5) (n := 76) (Nat.le_of_ble_eq_true rfl) (Nat.le_of_ble_eq_true rfl) ?_
  refine va_putF (D := D) (ci := 1) (v := .ref q5) (ty := (.array .int)) (C := RX1) (T := TX1) (N := 11) hx hb hts inW_1 tyX1 tyX1_ok nmX1 hown hK hP hD hS 0 rfl rfl 5 (by decide) (hts _ wd_502) (fun _ h9 => h9) rfl hin rfl (by decide +kernel) rfl rfl (Nat.le_of_ble_eq_true rfl) dX1_init_41 (fun H locs hP hD hS => ?_)
  have hP : va_P D vwCl [(h0, .inr (1, [.int 0, .ref q1, .ref q2, .ref q3, .ref q4, .ref q5, .null, .null, .int 0, .int 0, .int 0])), (q1, .inl (c 0, 20, .inl (fun _ => 0))), (q2, .inl (c 0, 20, .inl (fun _ => 0))), (q3, .inl (c 0, 20, .inl (fun _ => 0))), (q4, .inl (c 0, 8, .inl (fun _ => 0))), (q5, .inl (c 0, 8, .inl (fun _ => 0)))] H := hP
  have hD : va_D A [(h0, .inr (1, [.int 0, .ref q1, .ref q2, .ref q3, .ref q4, .ref q5, .null, .null, .int 0, .int 0, .int 0])), (q1, .inl (c 0, 20, .inl (fun _ => 0))), (q2, .inl (c 0, 20, .inl (fun _ => 0))), (q3, .inl (c 0, 20, .inl (fun _ => 0))), (q4, .inl (c 0, 8, .inl (fun _ => 0))), (q5, .inl (c 0, 8, .inl (fun _ => 0)))] := hD
  refine lv_aload_n hx hb dX1_init_44 rfl (lv_at hl 0 rfl) ?_
  refine lv_bipush (v := 36) hx hb dX1_init_45 (by decide) ?_
  refine kz_newa (c := c) (atype := .int) (a0 := (36, .inl (fun _ => 0))) hx hb 0 rfl (hts _ wd_129) rfl hK hP hD hS hA (fun _ => rfl) (by decide) (by decide) (Nat.le_of_ble_eq_true rfl) (Nat.le_of_ble_eq_true rfl) (Nat.le_of_ble_eq_true rfl) dX1_init_47 (fun q6 H hP hD hS => ?_)
  have hP : va_P D vwCl [(h0, .inr (1, [.int 0, .ref q1, .ref q2, .ref q3, .ref q4, .ref q5, .null, .null, .int 0, .int 0, .int 0])), (q1, .inl (c 0, 20, .inl (fun _ => 0))), (q2, .inl (c 0, 20, .inl (fun _ => 0))), (q3, .inl (c 0, 20, .inl (fun _ => 0))), (q4, .inl (c 0, 8, .inl (fun _ => 0))), (q5, .inl (c 0, 8, .inl (fun _ => 0))), (q6, .inl (c 0, 36, .inl (fun _ => 0)))] H := hP
  have hD : va_D A [(h0, .inr (1, [.int 0, .ref q1, .ref q2, .ref q3, .ref q4, .ref q5, .null, .null, .int 0, .int 0, .int 0])), (q1, .inl (c 0, 20, .inl (fun _ => 0))), (q2, .inl (c 0, 20, .inl (fun _ => 0))), (q3, .inl (c 0, 20, .inl (fun _ => 0))), (q4, .inl (c 0, 8, .inl (fun _ => 0))), (q5, .inl (c 0, 8, .inl (fun _ => 0))), (q6, .inl (c 0, 36, .inl (fun _ => 0)))] := hD
  refine W.widen (k := 6) (n := 112) (Nat.le_of_ble_eq_true rfl) (Nat.le_of_ble_eq_true rfl) ?_
  refine va_putF (D := D) (ci := 1) (v := .ref q6) (ty := (.array .int)) (C := RX1) (T := TX1) (N := 11) hx hb hts inW_1 tyX1 tyX1_ok nmX1 hown hK hP hD hS 0 rfl rfl 6 (by decide) (hts _ wd_503) (fun _ h9 => h9) rfl hin rfl (by decide +kernel) rfl rfl (Nat.le_of_ble_eq_true rfl) dX1_init_49 (fun H locs hP hD hS => ?_)
  have hP : va_P D vwCl [(h0, .inr (1, [.int 0, .ref q1, .ref q2, .ref q3, .ref q4, .ref q5, .ref q6, .null, .int 0, .int 0, .int 0])), (q1, .inl (c 0, 20, .inl (fun _ => 0))), (q2, .inl (c 0, 20, .inl (fun _ => 0))), (q3, .inl (c 0, 20, .inl (fun _ => 0))), (q4, .inl (c 0, 8, .inl (fun _ => 0))), (q5, .inl (c 0, 8, .inl (fun _ => 0))), (q6, .inl (c 0, 36, .inl (fun _ => 0)))] H := hP
  have hD : va_D A [(h0, .inr (1, [.int 0, .ref q1, .ref q2, .ref q3, .ref q4, .ref q5, .ref q6, .null, .int 0, .int 0, .int 0])), (q1, .inl (c 0, 20, .inl (fun _ => 0))), (q2, .inl (c 0, 20, .inl (fun _ => 0))), (q3, .inl (c 0, 20, .inl (fun _ => 0))), (q4, .inl (c 0, 8, .inl (fun _ => 0))), (q5, .inl (c 0, 8, .inl (fun _ => 0))), (q6, .inl (c 0, 36, .inl (fun _ => 0)))] := hD
  refine lv_aload_n hx hb dX1_init_52 rfl (lv_at hl 0 rfl) ?_
  refine lv_bipush (v := 36) hx hb dX1_init_53 (by decide) ?_
  refine kz_newa (c := c) (atype := .int) (a0 := (36, .inl (fun _ => 0))) hx hb 0 rfl (hts _ wd_129) rfl hK hP hD hS hA (fun _ => rfl) (by decide) (by decide) (Nat.le_of_ble_eq_true rfl) (Nat.le_of_ble_eq_true rfl) (Nat.le_of_ble_eq_true rfl) dX1_init_55 (fun q7 H hP hD hS => ?_)
  have hP : va_P D vwCl [(h0, .inr (1, [.int 0, .ref q1, .ref q2, .ref q3, .ref q4, .ref q5, .ref q6, .null, .int 0, .int 0, .int 0])), (q1, .inl (c 0, 20, .inl (fun _ => 0))), (q2, .inl (c 0, 20, .inl (fun _ => 0))), (q3, .inl (c 0, 20, .inl (fun _ => 0))), (q4, .inl (c 0, 8, .inl (fun _ => 0))), (q5, .inl (c 0, 8, .inl (fun _ => 0))), (q6, .inl (c 0, 36, .inl (fun _ => 0))), (q7, .inl (c 0, 36, .inl (fun _ => 0)))] H := hP
  have hD : va_D A [(h0, .inr (1, [.int 0, .ref q1, .ref q2, .ref q3, .ref q4, .ref q5, .ref q6, .null, .int 0, .int 0, .int 0])), (q1, .inl (c 0, 20, .inl (fun _ => 0))), (q2, .inl (c 0, 20, .inl (fun _ => 0))), (q3, .inl (c 0, 20, .inl (fun _ => 0))), (q4, .inl (c 0, 8, .inl (fun _ => 0))), (q5, .inl (c 0, 8, .inl (fun _ => 0))), (q6, .inl (c 0, 36, .inl (fun _ => 0))), (q7, .inl (c 0, 36, .inl (fun _ => 0)))] := hD
  refine W.widen (k := 7) (n := 148) (Nat.le_of_ble_eq_true rfl) (Nat.le_of_ble_eq_true rfl) ?_
  refine va_putF (D := D) (ci := 1) (v := .ref q7) (ty := (.array .int)) (C := RX1) (T := TX1) (N := 11) hx hb hts inW_1 tyX1 tyX1_ok nmX1 hown hK hP hD hS 0 rfl rfl 7 (by decide) (hts _ wd_504) (fun _ h9 => h9) rfl hin rfl (by decide +kernel) rfl rfl (Nat.le_of_ble_eq_true rfl) dX1_init_57 (fun H locs hP hD hS => ?_)
  have hP : va_P D vwCl [(h0, .inr (1, [.int 0, .ref q1, .ref q2, .ref q3, .ref q4, .ref q5, .ref q6, .ref q7, .int 0, .int 0, .int 0])), (q1, .inl (c 0, 20, .inl (fun _ => 0))), (q2, .inl (c 0, 20, .inl (fun _ => 0))), (q3, .inl (c 0, 20, .inl (fun _ => 0))), (q4, .inl (c 0, 8, .inl (fun _ => 0))), (q5, .inl (c 0, 8, .inl (fun _ => 0))), (q6, .inl (c 0, 36, .inl (fun _ => 0))), (q7, .inl (c 0, 36, .inl (fun _ => 0)))] H := hP
  have hD : va_D A [(h0, .inr (1, [.int 0, .ref q1, .ref q2, .ref q3, .ref q4, .ref q5, .ref q6, .ref q7, .int 0, .int 0, .int 0])), (q1, .inl (c 0, 20, .inl (fun _ => 0))), (q2, .inl (c 0, 20, .inl (fun _ => 0))), (q3, .inl (c 0, 20, .inl (fun _ => 0))), (q4, .inl (c 0, 8, .inl (fun _ => 0))), (q5, .inl (c 0, 8, .inl (fun _ => 0))), (q6, .inl (c 0, 36, .inl (fun _ => 0))), (q7, .inl (c 0, 36, .inl (fun _ => 0)))] := hD
  refine lv_aload_n hx hb dX1_init_60 rfl (lv_at hl 0 rfl) ?_
  refine lv_iload_n hx hb dX1_init_61 rfl (lv_at hl 1 rfl) ?_
  refine va_putF (D := D) (ci := 1) (v := .int area) (ty := .int) (C := RX1) (T := TX1) (N := 11) hx hb hts inW_1 tyX1 tyX1_ok nmX1 hown hK hP hD hS 0 rfl rfl 0 (by decide) (hts _ wd_497) (fun _ h9 => h9) rfl hin rfl (by decide +kernel) rfl rfl (Nat.le_of_ble_eq_true rfl) dX1_init_62 (fun H locs hP hD hS => ?_)
  have hP : va_P D vwCl [(h0, .inr (1, [.int area, .ref q1, .ref q2, .ref q3, .ref q4, .ref q5, .ref q6, .ref q7, .int 0, .int 0, .int 0])), (q1, .inl (c 0, 20, .inl (fun _ => 0))), (q2, .inl (c 0, 20, .inl (fun _ => 0))), (q3, .inl (c 0, 20, .inl (fun _ => 0))), (q4, .inl (c 0, 8, .inl (fun _ => 0))), (q5, .inl (c 0, 8, .inl (fun _ => 0))), (q6, .inl (c 0, 36, .inl (fun _ => 0))), (q7, .inl (c 0, 36, .inl (fun _ => 0)))] H := hP
  have hD : va_D A [(h0, .inr (1, [.int area, .ref q1, .ref q2, .ref q3, .ref q4, .ref q5, .ref q6, .ref q7, .int 0, .int 0, .int 0])), (q1, .inl (c 0, 20, .inl (fun _ => 0))), (q2, .inl (c 0, 20, .inl (fun _ => 0))), (q3, .inl (c 0, 20, .inl (fun _ => 0))), (q4, .inl (c 0, 8, .inl (fun _ => 0))), (q5, .inl (c 0, 8, .inl (fun _ => 0))), (q6, .inl (c 0, 36, .inl (fun _ => 0))), (q7, .inl (c 0, 36, .inl (fun _ => 0)))] := hD
  exact rt_v hx hb hr hlocks hK hP hD hS dX1_init_65 () [] rfl rfl trivial
set_option maxHeartbeats 4000000 in
set_option maxRecDepth 100000 in
/-- X0_init -/
theorem c_X0_init (l : Launch) (D : va_G) (c : Nat → ClassId) (sz : Nat) (h0 : Nat) (ar : Int32) (fl : Int32) (wa : Int32) (si : Int32) (sl : Int32) (ov : Int32) : Met l yX0_init (.code yX0_init cX0_init 7 none :: Wd) ({ frames := 1, cells := 2, slots := 8, locals := 32 }) (va_Pc [.ref h0, .int ar, .int fl, .int wa, .int si, .int sl, .int ov] (WB D c [(h0, .inr (0, nwX0))] sz)) (QV (S := Nat × Nat) D c (fun _ => True) (fun u => [(h0, .inr (0, [.int ar, .int fl, .int wa, .int si, .int sl, .int ov, .ref u.1, .ref u.2, .int 0, .int 0, .int 0, .int 0, .int 0]))]) (va_A [(h0, .inr (0, nwX0))] sz)) 2 8 (va_A [(h0, .inr (0, nwX0))] sz) := by
  refine kz_met (Qc := QV (S := Nat × Nat) D c (fun _ => True) (fun u => [(h0, .inr (0, [.int ar, .int fl, .int wa, .int si, .int sl, .int ov, .ref u.1, .ref u.2, .int 0, .int 0, .int 0, .int 0, .int 0]))])) (by decide) (Nat.le_of_ble_eq_true rfl) ?_
  intro p e s m below meth cd A ls H hx hb hr hml hts hown hlocks hin hN hO hK hP hD hS hA hl
  have hl : lv_has ls 7 [(0, .ref h0), (1, .int ar), (2, .int fl), (3, .int wa), (4, .int si), (5, .int sl), (6, .int ov)] := hl
  have hown : s.vm.findClass RX0 = some m.cls := hown
  refine lv_aload_n hx hb dX0_init_0 rfl (lv_at hl 0 rfl) ?_
  refine W.objInit hx hb hown (hts _ wd_403) (hts _ wd_110) (hts _ wd_111) rfl (by rw [hml]; exact hl.1) rfl dX0_init_1 (Nat.le_of_ble_eq_true rfl) (Nat.le_of_ble_eq_true rfl) ?_
  refine W.eq (g2 := F0 m 4 ls []) rfl ?_
  refine lv_aload_n hx hb dX0_init_4 rfl (lv_at hl 0 rfl) ?_
  refine lv_iconst (v := 4) hx hb dX0_init_5 (by decide) ?_
  refine kz_newa (c := c) (atype := .int) (a0 := (4, .inl (fun _ => 0))) hx hb 0 rfl (hts _ wd_129) rfl hK hP hD hS hA (fun _ => rfl) (by decide) (by decide) (Nat.le_of_ble_eq_true rfl) (Nat.le_of_ble_eq_true rfl) (Nat.le_of_ble_eq_true rfl) dX0_init_6 (fun q1 H hP hD hS => ?_)
  have hP : va_P D vwCl [(h0, .inr (0, nwX0)), (q1, .inl (c 0, 4, .inl (fun _ => 0)))] H := hP
  have hD : va_D A [(h0, .inr (0, nwX0)), (q1, .inl (c 0, 4, .inl (fun _ => 0)))] := hD
  refine W.widen (k := 1) (n := 4) (Nat.le_of_ble_eq_true rfl) (Nat.le_of_ble_eq_true rfl) ?_
  refine va_putF (D := D) (ci := 0) (v := .ref q1) (ty := (.array .int)) (C := RX0) (T := TX0) (N := 13) hx hb hts inW_0 tyX0 tyX0_ok nmX0 hown hK hP hD hS 0 rfl rfl 6 (by decide) (hts _ wd_420) (fun _ h9 => h9) rfl hin rfl (by decide +kernel) rfl rfl (Nat.le_of_ble_eq_true rfl) dX0_init_8 (fun H locs hP hD hS => ?_)
  have hP : va_P D vwCl [(h0, .inr (0, [.int 0, .int 0, .int 0, .int 0, .int 0, .int 0, .ref q1, .null, .int 0, .int 0, .int 0, .int 0, .int 0])), (q1, .inl (c 0, 4, .inl (fun _ => 0)))] H := hP
  have hD : va_D A [(h0, .inr (0, [.int 0, .int 0, .int 0, .int 0, .int 0, .int 0, .ref q1, .null, .int 0, .int 0, .int 0, .int 0, .int 0])), (q1, .inl (c 0, 4, .inl (fun _ => 0)))] := hD
  refine lv_aload_n hx hb dX0_init_11 rfl (lv_at hl 0 rfl) ?_
  refine lv_iconst (v := 4) hx hb dX0_init_12 (by decide) ?_
  refine kz_newa (c := c) (atype := .int) (a0 := (4, .inl (fun _ => 0))) hx hb 0 rfl (hts _ wd_129) rfl hK hP hD hS hA (fun _ => rfl) (by decide) (by decide) (Nat.le_of_ble_eq_true rfl) (Nat.le_of_ble_eq_true rfl) (Nat.le_of_ble_eq_true rfl) dX0_init_13 (fun q2 H hP hD hS => ?_)
  have hP : va_P D vwCl [(h0, .inr (0, [.int 0, .int 0, .int 0, .int 0, .int 0, .int 0, .ref q1, .null, .int 0, .int 0, .int 0, .int 0, .int 0])), (q1, .inl (c 0, 4, .inl (fun _ => 0))), (q2, .inl (c 0, 4, .inl (fun _ => 0)))] H := hP
  have hD : va_D A [(h0, .inr (0, [.int 0, .int 0, .int 0, .int 0, .int 0, .int 0, .ref q1, .null, .int 0, .int 0, .int 0, .int 0, .int 0])), (q1, .inl (c 0, 4, .inl (fun _ => 0))), (q2, .inl (c 0, 4, .inl (fun _ => 0)))] := hD
  refine W.widen (k := 2) (n := 8) (Nat.le_of_ble_eq_true rfl) (Nat.le_of_ble_eq_true rfl) ?_
  refine va_putF (D := D) (ci := 0) (v := .ref q2) (ty := (.array .int)) (C := RX0) (T := TX0) (N := 13) hx hb hts inW_0 tyX0 tyX0_ok nmX0 hown hK hP hD hS 0 rfl rfl 7 (by decide) (hts _ wd_422) (fun _ h9 => h9) rfl hin rfl (by decide +kernel) rfl rfl (Nat.le_of_ble_eq_true rfl) dX0_init_15 (fun H locs hP hD hS => ?_)
  have hP : va_P D vwCl [(h0, .inr (0, [.int 0, .int 0, .int 0, .int 0, .int 0, .int 0, .ref q1, .ref q2, .int 0, .int 0, .int 0, .int 0, .int 0])), (q1, .inl (c 0, 4, .inl (fun _ => 0))), (q2, .inl (c 0, 4, .inl (fun _ => 0)))] H := hP
  have hD : va_D A [(h0, .inr (0, [.int 0, .int 0, .int 0, .int 0, .int 0, .int 0, .ref q1, .ref q2, .int 0, .int 0, .int 0, .int 0, .int 0])), (q1, .inl (c 0, 4, .inl (fun _ => 0))), (q2, .inl (c 0, 4, .inl (fun _ => 0)))] := hD
  refine lv_aload_n hx hb dX0_init_18 rfl (lv_at hl 0 rfl) ?_
  refine lv_iload_n hx hb dX0_init_19 rfl (lv_at hl 1 rfl) ?_
  refine va_putF (D := D) (ci := 0) (v := .int ar) (ty := .int) (C := RX0) (T := TX0) (N := 13) hx hb hts inW_0 tyX0 tyX0_ok nmX0 hown hK hP hD hS 0 rfl rfl 0 (by decide) (hts _ wd_404) (fun _ h9 => h9) rfl hin rfl (by decide +kernel) rfl rfl (Nat.le_of_ble_eq_true rfl) dX0_init_20 (fun H locs hP hD hS => ?_)
  have hP : va_P D vwCl [(h0, .inr (0, [.int ar, .int 0, .int 0, .int 0, .int 0, .int 0, .ref q1, .ref q2, .int 0, .int 0, .int 0, .int 0, .int 0])), (q1, .inl (c 0, 4, .inl (fun _ => 0))), (q2, .inl (c 0, 4, .inl (fun _ => 0)))] H := hP
  have hD : va_D A [(h0, .inr (0, [.int ar, .int 0, .int 0, .int 0, .int 0, .int 0, .ref q1, .ref q2, .int 0, .int 0, .int 0, .int 0, .int 0])), (q1, .inl (c 0, 4, .inl (fun _ => 0))), (q2, .inl (c 0, 4, .inl (fun _ => 0)))] := hD
  refine lv_aload_n hx hb dX0_init_23 rfl (lv_at hl 0 rfl) ?_
  refine lv_iload_n hx hb dX0_init_24 rfl (lv_at hl 2 rfl) ?_
  refine va_putF (D := D) (ci := 0) (v := .int fl) (ty := .int) (C := RX0) (T := TX0) (N := 13) hx hb hts inW_0 tyX0 tyX0_ok nmX0 hown hK hP hD hS 0 rfl rfl 1 (by decide) (hts _ wd_408) (fun _ h9 => h9) rfl hin rfl (by decide +kernel) rfl rfl (Nat.le_of_ble_eq_true rfl) dX0_init_25 (fun H locs hP hD hS => ?_)
  have hP : va_P D vwCl [(h0, .inr (0, [.int ar, .int fl, .int 0, .int 0, .int 0, .int 0, .ref q1, .ref q2, .int 0, .int 0, .int 0, .int 0, .int 0])), (q1, .inl (c 0, 4, .inl (fun _ => 0))), (q2, .inl (c 0, 4, .inl (fun _ => 0)))] H := hP
  have hD : va_D A [(h0, .inr (0, [.int ar, .int fl, .int 0, .int 0, .int 0, .int 0, .ref q1, .ref q2, .int 0, .int 0, .int 0, .int 0, .int 0])), (q1, .inl (c 0, 4, .inl (fun _ => 0))), (q2, .inl (c 0, 4, .inl (fun _ => 0)))] := hD
  refine lv_aload_n hx hb dX0_init_28 rfl (lv_at hl 0 rfl) ?_
  refine lv_iload_n hx hb dX0_init_29 rfl (lv_at hl 3 rfl) ?_
  refine va_putF (D := D) (ci := 0) (v := .int wa) (ty := .int) (C := RX0) (T := TX0) (N := 13) hx hb hts inW_0 tyX0 tyX0_ok nmX0 hown hK hP hD hS 0 rfl rfl 2 (by decide) (hts _ wd_412) (fun _ h9 => h9) rfl hin rfl (by decide +kernel) rfl rfl (Nat.le_of_ble_eq_true rfl) dX0_init_30 (fun H locs hP hD hS => ?_)
  have hP : va_P D vwCl [(h0, .inr (0, [.int ar, .int fl, .int wa, .int 0, .int 0, .int 0, .ref q1, .ref q2, .int 0, .int 0, .int 0, .int 0, .int 0])), (q1, .inl (c 0, 4, .inl (fun _ => 0))), (q2, .inl (c 0, 4, .inl (fun _ => 0)))] H := hP
  have hD : va_D A [(h0, .inr (0, [.int ar, .int fl, .int wa, .int 0, .int 0, .int 0, .ref q1, .ref q2, .int 0, .int 0, .int 0, .int 0, .int 0])), (q1, .inl (c 0, 4, .inl (fun _ => 0))), (q2, .inl (c 0, 4, .inl (fun _ => 0)))] := hD
  refine lv_aload_n hx hb dX0_init_33 rfl (lv_at hl 0 rfl) ?_
  refine lv_iload hx hb dX0_init_34 (lv_at hl 4 rfl) ?_
  refine va_putF (D := D) (ci := 0) (v := .int si) (ty := .int) (C := RX0) (T := TX0) (N := 13) hx hb hts inW_0 tyX0 tyX0_ok nmX0 hown hK hP hD hS 0 rfl rfl 3 (by decide) (hts _ wd_414) (fun _ h9 => h9) rfl hin rfl (by decide +kernel) rfl rfl (Nat.le_of_ble_eq_true rfl) dX0_init_36 (fun H locs hP hD hS => ?_)
  have hP : va_P D vwCl [(h0, .inr (0, [.int ar, .int fl, .int wa, .int si, .int 0, .int 0, .ref q1, .ref q2, .int 0, .int 0, .int 0, .int 0, .int 0])), (q1, .inl (c 0, 4, .inl (fun _ => 0))), (q2, .inl (c 0, 4, .inl (fun _ => 0)))] H := hP
  have hD : va_D A [(h0, .inr (0, [.int ar, .int fl, .int wa, .int si, .int 0, .int 0, .ref q1, .ref q2, .int 0, .int 0, .int 0, .int 0, .int 0])), (q1, .inl (c 0, 4, .inl (fun _ => 0))), (q2, .inl (c 0, 4, .inl (fun _ => 0)))] := hD
  refine lv_aload_n hx hb dX0_init_39 rfl (lv_at hl 0 rfl) ?_
  refine lv_iload hx hb dX0_init_40 (lv_at hl 5 rfl) ?_
  refine va_putF (D := D) (ci := 0) (v := .int sl) (ty := .int) (C := RX0) (T := TX0) (N := 13) hx hb hts inW_0 tyX0 tyX0_ok nmX0 hown hK hP hD hS 0 rfl rfl 4 (by decide) (hts _ wd_416) (fun _ h9 => h9) rfl hin rfl (by decide +kernel) rfl rfl (Nat.le_of_ble_eq_true rfl) dX0_init_42 (fun H locs hP hD hS => ?_)
  have hP : va_P D vwCl [(h0, .inr (0, [.int ar, .int fl, .int wa, .int si, .int sl, .int 0, .ref q1, .ref q2, .int 0, .int 0, .int 0, .int 0, .int 0])), (q1, .inl (c 0, 4, .inl (fun _ => 0))), (q2, .inl (c 0, 4, .inl (fun _ => 0)))] H := hP
  have hD : va_D A [(h0, .inr (0, [.int ar, .int fl, .int wa, .int si, .int sl, .int 0, .ref q1, .ref q2, .int 0, .int 0, .int 0, .int 0, .int 0])), (q1, .inl (c 0, 4, .inl (fun _ => 0))), (q2, .inl (c 0, 4, .inl (fun _ => 0)))] := hD
  refine lv_aload_n hx hb dX0_init_45 rfl (lv_at hl 0 rfl) ?_
  refine lv_iload hx hb dX0_init_46 (lv_at hl 6 rfl) ?_
  refine va_putF (D := D) (ci := 0) (v := .int ov) (ty := .int) (C := RX0) (T := TX0) (N := 13) hx hb hts inW_0 tyX0 tyX0_ok nmX0 hown hK hP hD hS 0 rfl rfl 5 (by decide) (hts _ wd_418) (fun _ h9 => h9) rfl hin rfl (by decide +kernel) rfl rfl (Nat.le_of_ble_eq_true rfl) dX0_init_48 (fun H locs hP hD hS => ?_)
  have hP : va_P D vwCl [(h0, .inr (0, [.int ar, .int fl, .int wa, .int si, .int sl, .int ov, .ref q1, .ref q2, .int 0, .int 0, .int 0, .int 0, .int 0])), (q1, .inl (c 0, 4, .inl (fun _ => 0))), (q2, .inl (c 0, 4, .inl (fun _ => 0)))] H := hP
  have hD : va_D A [(h0, .inr (0, [.int ar, .int fl, .int wa, .int si, .int sl, .int ov, .ref q1, .ref q2, .int 0, .int 0, .int 0, .int 0, .int 0])), (q1, .inl (c 0, 4, .inl (fun _ => 0))), (q2, .inl (c 0, 4, .inl (fun _ => 0)))] := hD
  exact rt_v hx hb hr hlocks hK hP hD hS dX0_init_51 (q1, q2) [0] rfl rfl trivial
set_option maxHeartbeats 4000000 in
set_option maxRecDepth 100000 in
/-- X4_init -/
theorem c_X4_init (l : Launch) (D : va_G) (c : Nat → ClassId) (sz : Nat) (h0 : Nat) (b : Nat) (ar : Int32) (fl : Int32) (wa : Int32) (si : Int32) (sl : Int32) (ov : Int32) (b1 : Nat) (b2 : Nat) (nu : Int32) (de : Int32) (ca : Int32) : Met l yX4_init (.code yX4_init cX4_init 5 none :: Wd) ({ frames := 2, cells := 14, slots := 7467, locals := 53 }) (va_Pc [.ref h0, .ref b, .int nu, .int de, .int ca] (WB D c [(h0, .inr (4, nwX4)), (b, .inr (0, [.int ar, .int fl, .int wa, .int si, .int sl, .int ov, .ref b1, .ref b2, .int 0, .int 0, .int 0, .int 0, .int 0]))] sz)) (QV (S := List Value) D c (fun _ => True) (fun u => [(h0, .inr (4, u))]) (va_A [(h0, .inr (4, nwX4)), (b, .inr (0, [.int ar, .int fl, .int wa, .int si, .int sl, .int ov, .ref b1, .ref b2, .int 0, .int 0, .int 0, .int 0, .int 0]))] sz)) 14 7467 (va_A [(h0, .inr (4, nwX4)), (b, .inr (0, [.int ar, .int fl, .int wa, .int si, .int sl, .int ov, .ref b1, .ref b2, .int 0, .int 0, .int 0, .int 0, .int 0]))] sz) := by
  refine kz_met (Qc := QV (S := List Value) D c (fun _ => True) (fun u => [(h0, .inr (4, u))])) (by decide) (Nat.le_of_ble_eq_true rfl) ?_
  intro p e s m below meth cd A ls H hx hb hr hml hts hown hlocks hin hN hO hK hP hD hS hA hl
  have hl : lv_has ls 5 [(0, .ref h0), (1, .ref b), (2, .int nu), (3, .int de), (4, .int ca)] := hl
  have hown : s.vm.findClass RX4 = some m.cls := hown
  refine lv_aload_n hx hb dX4_init_0 rfl (lv_at hl 0 rfl) ?_
  refine W.objInit hx hb hown (hts _ wd_466) (hts _ wd_110) (hts _ wd_111) rfl (by rw [hml]; exact hl.1) rfl dX4_init_1 (Nat.le_of_ble_eq_true rfl) (Nat.le_of_ble_eq_true rfl) ?_
  refine W.eq (g2 := F0 m 4 ls []) rfl ?_
  refine lv_aload_n hx hb dX4_init_4 rfl (lv_at hl 0 rfl) ?_
  refine va_new (ci := 9) (fs := nwX9) (C := RX9) (T := TX9) (N := 4) hx hb hts inW_9 tyX9 tyX9_ok hown (hts _ wd_467) (hts _ wd_468) (hts _ wd_93) hK hP hD hS hA rfl nwX9_ok (Nat.le_of_ble_eq_true rfl) (Nat.le_of_ble_eq_true rfl) dX4_init_5 (fun q1 H hP hD hS => ?_)
  have hP : va_P D vwCl [(h0, .inr (4, nwX4)), (b, .inr (0, [.int ar, .int fl, .int wa, .int si, .int sl, .int ov, .ref b1, .ref b2, .int 0, .int 0, .int 0, .int 0, .int 0])), (q1, .inr (9, nwX9))] H := hP
  have hD : va_D A [(h0, .inr (4, nwX4)), (b, .inr (0, [.int ar, .int fl, .int wa, .int si, .int sl, .int ov, .ref b1, .ref b2, .int 0, .int 0, .int 0, .int 0, .int 0])), (q1, .inr (9, nwX9))] := hD
  refine W.widen (k := 1) (n := 4) (Nat.le_of_ble_eq_true rfl) (Nat.le_of_ble_eq_true rfl) ?_
  refine lv_dup hx hb dX4_init_8 rfl ?_
  have hPc := hP.sub (ws' := [(q1, .inr (9, nwX9))]) [2] rfl
  have hDc := hD.sub (ws' := [(q1, .inr (9, nwX9))]) [2] (by decide) rfl
  refine cl_v (wr := [(h0, .inr (4, nwX4)), (b, .inr (0, [.int ar, .int fl, .int wa, .int si, .int sl, .int ov, .ref b1, .ref b2, .int 0, .int 0, .int 0, .int 0, .int 0]))]) (va_runIN (As := []) (rest := [.ref q1, .ref h0]) ⟨hx, hb, hml, hown, hts⟩ (c_X9_init l D c H.size q1) (kw_IN 0 hts (hN (RX4, 11, yX9_init) (List.mem_of_getElem? (i := 9) rfl)) wd_470 wd_93 wd_471 rfl rfl rfl (by decide +kernel) ⟨Nat.le_of_ble_eq_true rfl, Nat.le_of_ble_eq_true rfl⟩) (pre_S hPc hK hDc hN hO) rfl rfl hl.1 rfl (lv_room (Nat.le_of_ble_eq_true rfl)) dX4_init_9 ⟨Nat.le_of_ble_eq_true rfl, Nat.le_of_ble_eq_true rfl⟩) hP hD hS hA [2] [0, 1] rfl rfl (by decide) (by decide) (fun u3 H locs h4 hP hD hS => ?_)
  have hP : va_P D vwCl [(h0, .inr (4, nwX4)), (b, .inr (0, [.int ar, .int fl, .int wa, .int si, .int sl, .int ov, .ref b1, .ref b2, .int 0, .int 0, .int 0, .int 0, .int 0])), (q1, .inr (9, nwX9))] H := hP
  have hD : va_D A [(h0, .inr (4, nwX4)), (b, .inr (0, [.int ar, .int fl, .int wa, .int si, .int sl, .int ov, .ref b1, .ref b2, .int 0, .int 0, .int 0, .int 0, .int 0])), (q1, .inr (9, nwX9))] := hD
  refine va_putF (D := D) (ci := 4) (v := .ref q1) (ty := (.object "PoolCoast$Water")) (C := RX4) (T := TX4) (N := 12) hx hb hts inW_4 tyX4 tyX4_ok nmX4 hown hK hP hD hS 0 rfl rfl 3 (by decide) (hts _ wd_537) (fun _ h9 => h9) rfl hin rfl (by decide +kernel) rfl rfl (Nat.le_of_ble_eq_true rfl) dX4_init_12 (fun H locs hP hD hS => ?_)
  have hP : va_P D vwCl [(h0, .inr (4, [.null, .int 0, .int 0, .ref q1, .null, .null, .null, .null, .null, .null, .int 0, .int 0])), (b, .inr (0, [.int ar, .int fl, .int wa, .int si, .int sl, .int ov, .ref b1, .ref b2, .int 0, .int 0, .int 0, .int 0, .int 0])), (q1, .inr (9, nwX9))] H := hP
  have hD : va_D A [(h0, .inr (4, [.null, .int 0, .int 0, .ref q1, .null, .null, .null, .null, .null, .null, .int 0, .int 0])), (b, .inr (0, [.int ar, .int fl, .int wa, .int si, .int sl, .int ov, .ref b1, .ref b2, .int 0, .int 0, .int 0, .int 0, .int 0])), (q1, .inr (9, nwX9))] := hD
  refine lv_aload_n hx hb dX4_init_15 rfl (lv_at hl 0 rfl) ?_
  refine lv_sipush (v := 2400) hx hb dX4_init_16 (by decide) ?_
  refine kz_newa (c := c) (atype := .int) (a0 := (2400, .inl (fun _ => 0))) hx hb 0 rfl (hts _ wd_129) rfl hK hP hD hS hA (fun _ => rfl) (by decide) (by decide) (Nat.le_of_ble_eq_true rfl) (Nat.le_of_ble_eq_true rfl) (Nat.le_of_ble_eq_true rfl) dX4_init_19 (fun q5 H hP hD hS => ?_)
  have hP : va_P D vwCl [(h0, .inr (4, [.null, .int 0, .int 0, .ref q1, .null, .null, .null, .null, .null, .null, .int 0, .int 0])), (b, .inr (0, [.int ar, .int fl, .int wa, .int si, .int sl, .int ov, .ref b1, .ref b2, .int 0, .int 0, .int 0, .int 0, .int 0])), (q1, .inr (9, nwX9)), (q5, .inl (c 0, 2400, .inl (fun _ => 0)))] H := hP
  have hD : va_D A [(h0, .inr (4, [.null, .int 0, .int 0, .ref q1, .null, .null, .null, .null, .null, .null, .int 0, .int 0])), (b, .inr (0, [.int ar, .int fl, .int wa, .int si, .int sl, .int ov, .ref b1, .ref b2, .int 0, .int 0, .int 0, .int 0, .int 0])), (q1, .inr (9, nwX9)), (q5, .inl (c 0, 2400, .inl (fun _ => 0)))] := hD
  refine W.widen (k := 2) (n := 2404) (Nat.le_of_ble_eq_true rfl) (Nat.le_of_ble_eq_true rfl) ?_
  refine va_putF (D := D) (ci := 4) (v := .ref q5) (ty := (.array .int)) (C := RX4) (T := TX4) (N := 12) hx hb hts inW_4 tyX4 tyX4_ok nmX4 hown hK hP hD hS 0 rfl rfl 5 (by decide) (hts _ wd_541) (fun _ h9 => h9) rfl hin rfl (by decide +kernel) rfl rfl (Nat.le_of_ble_eq_true rfl) dX4_init_21 (fun H locs hP hD hS => ?_)
  have hP : va_P D vwCl [(h0, .inr (4, [.null, .int 0, .int 0, .ref q1, .null, .ref q5, .null, .null, .null, .null, .int 0, .int 0])), (b, .inr (0, [.int ar, .int fl, .int wa, .int si, .int sl, .int ov, .ref b1, .ref b2, .int 0, .int 0, .int 0, .int 0, .int 0])), (q1, .inr (9, nwX9)), (q5, .inl (c 0, 2400, .inl (fun _ => 0)))] H := hP
  have hD : va_D A [(h0, .inr (4, [.null, .int 0, .int 0, .ref q1, .null, .ref q5, .null, .null, .null, .null, .int 0, .int 0])), (b, .inr (0, [.int ar, .int fl, .int wa, .int si, .int sl, .int ov, .ref b1, .ref b2, .int 0, .int 0, .int 0, .int 0, .int 0])), (q1, .inr (9, nwX9)), (q5, .inl (c 0, 2400, .inl (fun _ => 0)))] := hD
  refine lv_aload_n hx hb dX4_init_24 rfl (lv_at hl 0 rfl) ?_
  refine lv_sipush (v := 2400) hx hb dX4_init_25 (by decide) ?_
  refine kz_newa (c := c) (atype := .int) (a0 := (2400, .inl (fun _ => 0))) hx hb 0 rfl (hts _ wd_129) rfl hK hP hD hS hA (fun _ => rfl) (by decide) (by decide) (Nat.le_of_ble_eq_true rfl) (Nat.le_of_ble_eq_true rfl) (Nat.le_of_ble_eq_true rfl) dX4_init_28 (fun q6 H hP hD hS => ?_)
  have hP : va_P D vwCl [(h0, .inr (4, [.null, .int 0, .int 0, .ref q1, .null, .ref q5, .null, .null, .null, .null, .int 0, .int 0])), (b, .inr (0, [.int ar, .int fl, .int wa, .int si, .int sl, .int ov, .ref b1, .ref b2, .int 0, .int 0, .int 0, .int 0, .int 0])), (q1, .inr (9, nwX9)), (q5, .inl (c 0, 2400, .inl (fun _ => 0))), (q6, .inl (c 0, 2400, .inl (fun _ => 0)))] H := hP
  have hD : va_D A [(h0, .inr (4, [.null, .int 0, .int 0, .ref q1, .null, .ref q5, .null, .null, .null, .null, .int 0, .int 0])), (b, .inr (0, [.int ar, .int fl, .int wa, .int si, .int sl, .int ov, .ref b1, .ref b2, .int 0, .int 0, .int 0, .int 0, .int 0])), (q1, .inr (9, nwX9)), (q5, .inl (c 0, 2400, .inl (fun _ => 0))), (q6, .inl (c 0, 2400, .inl (fun _ => 0)))] := hD
  refine W.widen (k := 3) (n := 4804) (Nat.le_of_ble_eq_true rfl) (Nat.le_of_ble_eq_true rfl) ?_
  refine va_putF (D := D) (ci := 4) (v := .ref q6) (ty := (.array .int)) (C := RX4) (T := TX4) (N := 12) hx hb hts inW_4 tyX4 tyX4_ok nmX4 hown hK hP hD hS 0 rfl rfl 6 (by decide) (hts _ wd_543) (fun _ h9 => h9) rfl hin rfl (by decide +kernel) rfl rfl (Nat.le_of_ble_eq_true rfl) dX4_init_30 (fun H locs hP hD hS => ?_)
  have hP : va_P D vwCl [(h0, .inr (4, [.null, .int 0, .int 0, .ref q1, .null, .ref q5, .ref q6, .null, .null, .null, .int 0, .int 0])), (b, .inr (0, [.int ar, .int fl, .int wa, .int si, .int sl, .int ov, .ref b1, .ref b2, .int 0, .int 0, .int 0, .int 0, .int 0])), (q1, .inr (9, nwX9)), (q5, .inl (c 0, 2400, .inl (fun _ => 0))), (q6, .inl (c 0, 2400, .inl (fun _ => 0)))] H := hP
  have hD : va_D A [(h0, .inr (4, [.null, .int 0, .int 0, .ref q1, .null, .ref q5, .ref q6, .null, .null, .null, .int 0, .int 0])), (b, .inr (0, [.int ar, .int fl, .int wa, .int si, .int sl, .int ov, .ref b1, .ref b2, .int 0, .int 0, .int 0, .int 0, .int 0])), (q1, .inr (9, nwX9)), (q5, .inl (c 0, 2400, .inl (fun _ => 0))), (q6, .inl (c 0, 2400, .inl (fun _ => 0)))] := hD
  refine lv_aload_n hx hb dX4_init_33 rfl (lv_at hl 0 rfl) ?_
  refine lv_sipush (v := 2400) hx hb dX4_init_34 (by decide) ?_
  refine kz_newa (c := c) (atype := .int) (a0 := (2400, .inl (fun _ => 0))) hx hb 0 rfl (hts _ wd_129) rfl hK hP hD hS hA (fun _ => rfl) (by decide) (by decide) (Nat.le_of_ble_eq_true rfl) (Nat.le_of_ble_eq_true rfl) (Nat.le_of_ble_eq_true rfl) dX4_init_37 (fun q7 H hP hD hS => ?_)
  have hP : va_P D vwCl [(h0, .inr (4, [.null, .int 0, .int 0, .ref q1, .null, .ref q5, .ref q6, .null, .null, .null, .int 0, .int 0])), (b, .inr (0, [.int ar, .int fl, .int wa, .int si, .int sl, .int ov, .ref b1, .ref b2, .int 0, .int 0, .int 0, .int 0, .int 0])), (q1, .inr (9, nwX9)), (q5, .inl (c 0, 2400, .inl (fun _ => 0))), (q6, .inl (c 0, 2400, .inl (fun _ => 0))), (q7, .inl (c 0, 2400, .inl (fun _ => 0)))] H := hP
  have hD : va_D A [(h0, .inr (4, [.null, .int 0, .int 0, .ref q1, .null, .ref q5, .ref q6, .null, .null, .null, .int 0, .int 0])), (b, .inr (0, [.int ar, .int fl, .int wa, .int si, .int sl, .int ov, .ref b1, .ref b2, .int 0, .int 0, .int 0, .int 0, .int 0])), (q1, .inr (9, nwX9)), (q5, .inl (c 0, 2400, .inl (fun _ => 0))), (q6, .inl (c 0, 2400, .inl (fun _ => 0))), (q7, .inl (c 0, 2400, .inl (fun _ => 0)))] := hD
  refine W.widen (k := 4) (n := 7204) (Nat.le_of_ble_eq_true rfl) (Nat.le_of_ble_eq_true rfl) ?_
  refine va_putF (D := D) (ci := 4) (v := .ref q7) (ty := (.array .int)) (C := RX4) (T := TX4) (N := 12) hx hb hts inW_4 tyX4 tyX4_ok nmX4 hown hK hP hD hS 0 rfl rfl 7 (by decide) (hts _ wd_545) (fun _ h9 => h9) rfl hin rfl (by decide +kernel) rfl rfl (Nat.le_of_ble_eq_true rfl) dX4_init_39 (fun H locs hP hD hS => ?_)
  have hP : va_P D vwCl [(h0, .inr (4, [.null, .int 0, .int 0, .ref q1, .null, .ref q5, .ref q6, .ref q7, .null, .null, .int 0, .int 0])), (b, .inr (0, [.int ar, .int fl, .int wa, .int si, .int sl, .int ov, .ref b1, .ref b2, .int 0, .int 0, .int 0, .int 0, .int 0])), (q1, .inr (9, nwX9)), (q5, .inl (c 0, 2400, .inl (fun _ => 0))), (q6, .inl (c 0, 2400, .inl (fun _ => 0))), (q7, .inl (c 0, 2400, .inl (fun _ => 0)))] H := hP
  have hD : va_D A [(h0, .inr (4, [.null, .int 0, .int 0, .ref q1, .null, .ref q5, .ref q6, .ref q7, .null, .null, .int 0, .int 0])), (b, .inr (0, [.int ar, .int fl, .int wa, .int si, .int sl, .int ov, .ref b1, .ref b2, .int 0, .int 0, .int 0, .int 0, .int 0])), (q1, .inr (9, nwX9)), (q5, .inl (c 0, 2400, .inl (fun _ => 0))), (q6, .inl (c 0, 2400, .inl (fun _ => 0))), (q7, .inl (c 0, 2400, .inl (fun _ => 0)))] := hD
  refine lv_aload_n hx hb dX4_init_42 rfl (lv_at hl 0 rfl) ?_
  refine lv_bipush (v := 100) hx hb dX4_init_43 (by decide) ?_
  refine kz_newa (c := c) (atype := .int) (a0 := (100, .inl (fun _ => 0))) hx hb 0 rfl (hts _ wd_129) rfl hK hP hD hS hA (fun _ => rfl) (by decide) (by decide) (Nat.le_of_ble_eq_true rfl) (Nat.le_of_ble_eq_true rfl) (Nat.le_of_ble_eq_true rfl) dX4_init_45 (fun q8 H hP hD hS => ?_)
  have hP : va_P D vwCl [(h0, .inr (4, [.null, .int 0, .int 0, .ref q1, .null, .ref q5, .ref q6, .ref q7, .null, .null, .int 0, .int 0])), (b, .inr (0, [.int ar, .int fl, .int wa, .int si, .int sl, .int ov, .ref b1, .ref b2, .int 0, .int 0, .int 0, .int 0, .int 0])), (q1, .inr (9, nwX9)), (q5, .inl (c 0, 2400, .inl (fun _ => 0))), (q6, .inl (c 0, 2400, .inl (fun _ => 0))), (q7, .inl (c 0, 2400, .inl (fun _ => 0))), (q8, .inl (c 0, 100, .inl (fun _ => 0)))] H := hP
  have hD : va_D A [(h0, .inr (4, [.null, .int 0, .int 0, .ref q1, .null, .ref q5, .ref q6, .ref q7, .null, .null, .int 0, .int 0])), (b, .inr (0, [.int ar, .int fl, .int wa, .int si, .int sl, .int ov, .ref b1, .ref b2, .int 0, .int 0, .int 0, .int 0, .int 0])), (q1, .inr (9, nwX9)), (q5, .inl (c 0, 2400, .inl (fun _ => 0))), (q6, .inl (c 0, 2400, .inl (fun _ => 0))), (q7, .inl (c 0, 2400, .inl (fun _ => 0))), (q8, .inl (c 0, 100, .inl (fun _ => 0)))] := hD
  refine W.widen (k := 5) (n := 7304) (Nat.le_of_ble_eq_true rfl) (Nat.le_of_ble_eq_true rfl) ?_
  refine va_putF (D := D) (ci := 4) (v := .ref q8) (ty := (.array .int)) (C := RX4) (T := TX4) (N := 12) hx hb hts inW_4 tyX4 tyX4_ok nmX4 hown hK hP hD hS 0 rfl rfl 8 (by decide) (hts _ wd_547) (fun _ h9 => h9) rfl hin rfl (by decide +kernel) rfl rfl (Nat.le_of_ble_eq_true rfl) dX4_init_47 (fun H locs hP hD hS => ?_)
  have hP : va_P D vwCl [(h0, .inr (4, [.null, .int 0, .int 0, .ref q1, .null, .ref q5, .ref q6, .ref q7, .ref q8, .null, .int 0, .int 0])), (b, .inr (0, [.int ar, .int fl, .int wa, .int si, .int sl, .int ov, .ref b1, .ref b2, .int 0, .int 0, .int 0, .int 0, .int 0])), (q1, .inr (9, nwX9)), (q5, .inl (c 0, 2400, .inl (fun _ => 0))), (q6, .inl (c 0, 2400, .inl (fun _ => 0))), (q7, .inl (c 0, 2400, .inl (fun _ => 0))), (q8, .inl (c 0, 100, .inl (fun _ => 0)))] H := hP
  have hD : va_D A [(h0, .inr (4, [.null, .int 0, .int 0, .ref q1, .null, .ref q5, .ref q6, .ref q7, .ref q8, .null, .int 0, .int 0])), (b, .inr (0, [.int ar, .int fl, .int wa, .int si, .int sl, .int ov, .ref b1, .ref b2, .int 0, .int 0, .int 0, .int 0, .int 0])), (q1, .inr (9, nwX9)), (q5, .inl (c 0, 2400, .inl (fun _ => 0))), (q6, .inl (c 0, 2400, .inl (fun _ => 0))), (q7, .inl (c 0, 2400, .inl (fun _ => 0))), (q8, .inl (c 0, 100, .inl (fun _ => 0)))] := hD
  refine lv_aload_n hx hb dX4_init_50 rfl (lv_at hl 0 rfl) ?_
  refine va_new (ci := 9) (fs := nwX9) (C := RX9) (T := TX9) (N := 4) hx hb hts inW_9 tyX9 tyX9_ok hown (hts _ wd_467) (hts _ wd_468) (hts _ wd_93) hK hP hD hS hA rfl nwX9_ok (Nat.le_of_ble_eq_true rfl) (Nat.le_of_ble_eq_true rfl) dX4_init_51 (fun q9 H hP hD hS => ?_)
  have hP : va_P D vwCl [(h0, .inr (4, [.null, .int 0, .int 0, .ref q1, .null, .ref q5, .ref q6, .ref q7, .ref q8, .null, .int 0, .int 0])), (b, .inr (0, [.int ar, .int fl, .int wa, .int si, .int sl, .int ov, .ref b1, .ref b2, .int 0, .int 0, .int 0, .int 0, .int 0])), (q1, .inr (9, nwX9)), (q5, .inl (c 0, 2400, .inl (fun _ => 0))), (q6, .inl (c 0, 2400, .inl (fun _ => 0))), (q7, .inl (c 0, 2400, .inl (fun _ => 0))), (q8, .inl (c 0, 100, .inl (fun _ => 0))), (q9, .inr (9, nwX9))] H := hP
  have hD : va_D A [(h0, .inr (4, [.null, .int 0, .int 0, .ref q1, .null, .ref q5, .ref q6, .ref q7, .ref q8, .null, .int 0, .int 0])), (b, .inr (0, [.int ar, .int fl, .int wa, .int si, .int sl, .int ov, .ref b1, .ref b2, .int 0, .int 0, .int 0, .int 0, .int 0])), (q1, .inr (9, nwX9)), (q5, .inl (c 0, 2400, .inl (fun _ => 0))), (q6, .inl (c 0, 2400, .inl (fun _ => 0))), (q7, .inl (c 0, 2400, .inl (fun _ => 0))), (q8, .inl (c 0, 100, .inl (fun _ => 0))), (q9, .inr (9, nwX9))] := hD
  refine W.widen (k := 6) (n := 7308) (Nat.le_of_ble_eq_true rfl) (Nat.le_of_ble_eq_true rfl) ?_
  refine lv_dup hx hb dX4_init_54 rfl ?_
  have hPc := hP.sub (ws' := [(q9, .inr (9, nwX9))]) [7] rfl
  have hDc := hD.sub (ws' := [(q9, .inr (9, nwX9))]) [7] (by decide) rfl
  refine cl_v (wr := [(h0, .inr (4, [.null, .int 0, .int 0, .ref q1, .null, .ref q5, .ref q6, .ref q7, .ref q8, .null, .int 0, .int 0])), (b, .inr (0, [.int ar, .int fl, .int wa, .int si, .int sl, .int ov, .ref b1, .ref b2, .int 0, .int 0, .int 0, .int 0, .int 0])), (q1, .inr (9, nwX9)), (q5, .inl (c 0, 2400, .inl (fun _ => 0))), (q6, .inl (c 0, 2400, .inl (fun _ => 0))), (q7, .inl (c 0, 2400, .inl (fun _ => 0))), (q8, .inl (c 0, 100, .inl (fun _ => 0)))]) (va_runIN (As := []) (rest := [.ref q9, .ref h0]) ⟨hx, hb, hml, hown, hts⟩ (c_X9_init l D c H.size q9) (kw_IN 0 hts (hN (RX4, 11, yX9_init) (List.mem_of_getElem? (i := 9) rfl)) wd_470 wd_93 wd_471 rfl rfl rfl (by decide +kernel) ⟨Nat.le_of_ble_eq_true rfl, Nat.le_of_ble_eq_true rfl⟩) (pre_S hPc hK hDc hN hO) rfl rfl hl.1 rfl (lv_room (Nat.le_of_ble_eq_true rfl)) dX4_init_55 ⟨Nat.le_of_ble_eq_true rfl, Nat.le_of_ble_eq_true rfl⟩) hP hD hS hA [7] [0, 1, 2, 3, 4, 5, 6] rfl rfl (by decide) (by decide) (fun u11 H locs h12 hP hD hS => ?_)
  have hP : va_P D vwCl [(h0, .inr (4, [.null, .int 0, .int 0, .ref q1, .null, .ref q5, .ref q6, .ref q7, .ref q8, .null, .int 0, .int 0])), (b, .inr (0, [.int ar, .int fl, .int wa, .int si, .int sl, .int ov, .ref b1, .ref b2, .int 0, .int 0, .int 0, .int 0, .int 0])), (q1, .inr (9, nwX9)), (q5, .inl (c 0, 2400, .inl (fun _ => 0))), (q6, .inl (c 0, 2400, .inl (fun _ => 0))), (q7, .inl (c 0, 2400, .inl (fun _ => 0))), (q8, .inl (c 0, 100, .inl (fun _ => 0))), (q9, .inr (9, nwX9))] H := hP
  have hD : va_D A [(h0, .inr (4, [.null, .int 0, .int 0, .ref q1, .null, .ref q5, .ref q6, .ref q7, .ref q8, .null, .int 0, .int 0])), (b, .inr (0, [.int ar, .int fl, .int wa, .int si, .int sl, .int ov, .ref b1, .ref b2, .int 0, .int 0, .int 0, .int 0, .int 0])), (q1, .inr (9, nwX9)), (q5, .inl (c 0, 2400, .inl (fun _ => 0))), (q6, .inl (c 0, 2400, .inl (fun _ => 0))), (q7, .inl (c 0, 2400, .inl (fun _ => 0))), (q8, .inl (c 0, 100, .inl (fun _ => 0))), (q9, .inr (9, nwX9))] := hD
  refine va_putF (D := D) (ci := 4) (v := .ref q9) (ty := (.object "PoolCoast$Water")) (C := RX4) (T := TX4) (N := 12) hx hb hts inW_4 tyX4 tyX4_ok nmX4 hown hK hP hD hS 0 rfl rfl 9 (by decide) (hts _ wd_549) (fun _ h9 => h9) rfl hin rfl (by decide +kernel) rfl rfl (Nat.le_of_ble_eq_true rfl) dX4_init_58 (fun H locs hP hD hS => ?_)
  have hP : va_P D vwCl [(h0, .inr (4, [.null, .int 0, .int 0, .ref q1, .null, .ref q5, .ref q6, .ref q7, .ref q8, .ref q9, .int 0, .int 0])), (b, .inr (0, [.int ar, .int fl, .int wa, .int si, .int sl, .int ov, .ref b1, .ref b2, .int 0, .int 0, .int 0, .int 0, .int 0])), (q1, .inr (9, nwX9)), (q5, .inl (c 0, 2400, .inl (fun _ => 0))), (q6, .inl (c 0, 2400, .inl (fun _ => 0))), (q7, .inl (c 0, 2400, .inl (fun _ => 0))), (q8, .inl (c 0, 100, .inl (fun _ => 0))), (q9, .inr (9, nwX9))] H := hP
  have hD : va_D A [(h0, .inr (4, [.null, .int 0, .int 0, .ref q1, .null, .ref q5, .ref q6, .ref q7, .ref q8, .ref q9, .int 0, .int 0])), (b, .inr (0, [.int ar, .int fl, .int wa, .int si, .int sl, .int ov, .ref b1, .ref b2, .int 0, .int 0, .int 0, .int 0, .int 0])), (q1, .inr (9, nwX9)), (q5, .inl (c 0, 2400, .inl (fun _ => 0))), (q6, .inl (c 0, 2400, .inl (fun _ => 0))), (q7, .inl (c 0, 2400, .inl (fun _ => 0))), (q8, .inl (c 0, 100, .inl (fun _ => 0))), (q9, .inr (9, nwX9))] := hD
  refine lv_aload_n hx hb dX4_init_61 rfl (lv_at hl 0 rfl) ?_
  refine lv_iconst (v := (-1)) hx hb dX4_init_62 (by decide) ?_
  refine va_put (D := D) (ci := 4) (v := .int (-1)) (ty := .int) (C := RX4) (T := TX4) (N := 12) hx hb hts inW_4 tyX4 tyX4_ok nmX4 hown hK hP hD hS 0 rfl rfl 11 (by decide) (hts _ wd_551) (fun _ h9 => h9) rfl (by decide +kernel) rfl rfl (Nat.le_of_ble_eq_true rfl) dX4_init_63 (fun H locs hP hD hS => ?_)
  have hP : va_P D vwCl [(h0, .inr (4, [.null, .int 0, .int 0, .ref q1, .null, .ref q5, .ref q6, .ref q7, .ref q8, .ref q9, .int 0, .int (-1)])), (b, .inr (0, [.int ar, .int fl, .int wa, .int si, .int sl, .int ov, .ref b1, .ref b2, .int 0, .int 0, .int 0, .int 0, .int 0])), (q1, .inr (9, nwX9)), (q5, .inl (c 0, 2400, .inl (fun _ => 0))), (q6, .inl (c 0, 2400, .inl (fun _ => 0))), (q7, .inl (c 0, 2400, .inl (fun _ => 0))), (q8, .inl (c 0, 100, .inl (fun _ => 0))), (q9, .inr (9, nwX9))] H := hP
  have hD : va_D A [(h0, .inr (4, [.null, .int 0, .int 0, .ref q1, .null, .ref q5, .ref q6, .ref q7, .ref q8, .ref q9, .int 0, .int (-1)])), (b, .inr (0, [.int ar, .int fl, .int wa, .int si, .int sl, .int ov, .ref b1, .ref b2, .int 0, .int 0, .int 0, .int 0, .int 0])), (q1, .inr (9, nwX9)), (q5, .inl (c 0, 2400, .inl (fun _ => 0))), (q6, .inl (c 0, 2400, .inl (fun _ => 0))), (q7, .inl (c 0, 2400, .inl (fun _ => 0))), (q8, .inl (c 0, 100, .inl (fun _ => 0))), (q9, .inr (9, nwX9))] := hD
  refine lv_aload_n hx hb dX4_init_66 rfl (lv_at hl 0 rfl) ?_
  refine lv_aload_n hx hb dX4_init_67 rfl (lv_at hl 1 rfl) ?_
  refine va_putF (D := D) (ci := 4) (v := .ref b) (ty := (.object "PoolCoast$Basin")) (C := RX4) (T := TX4) (N := 12) hx hb hts inW_4 tyX4 tyX4_ok nmX4 hown hK hP hD hS 0 rfl rfl 0 (by decide) (hts _ wd_531) (fun _ h9 => h9) rfl hin rfl (by decide +kernel) rfl rfl (Nat.le_of_ble_eq_true rfl) dX4_init_68 (fun H locs hP hD hS => ?_)
  have hP : va_P D vwCl [(h0, .inr (4, [.ref b, .int 0, .int 0, .ref q1, .null, .ref q5, .ref q6, .ref q7, .ref q8, .ref q9, .int 0, .int (-1)])), (b, .inr (0, [.int ar, .int fl, .int wa, .int si, .int sl, .int ov, .ref b1, .ref b2, .int 0, .int 0, .int 0, .int 0, .int 0])), (q1, .inr (9, nwX9)), (q5, .inl (c 0, 2400, .inl (fun _ => 0))), (q6, .inl (c 0, 2400, .inl (fun _ => 0))), (q7, .inl (c 0, 2400, .inl (fun _ => 0))), (q8, .inl (c 0, 100, .inl (fun _ => 0))), (q9, .inr (9, nwX9))] H := hP
  have hD : va_D A [(h0, .inr (4, [.ref b, .int 0, .int 0, .ref q1, .null, .ref q5, .ref q6, .ref q7, .ref q8, .ref q9, .int 0, .int (-1)])), (b, .inr (0, [.int ar, .int fl, .int wa, .int si, .int sl, .int ov, .ref b1, .ref b2, .int 0, .int 0, .int 0, .int 0, .int 0])), (q1, .inr (9, nwX9)), (q5, .inl (c 0, 2400, .inl (fun _ => 0))), (q6, .inl (c 0, 2400, .inl (fun _ => 0))), (q7, .inl (c 0, 2400, .inl (fun _ => 0))), (q8, .inl (c 0, 100, .inl (fun _ => 0))), (q9, .inr (9, nwX9))] := hD
  refine lv_aload_n hx hb dX4_init_71 rfl (lv_at hl 0 rfl) ?_
  refine lv_iload_n hx hb dX4_init_72 rfl (lv_at hl 2 rfl) ?_
  refine va_putF (D := D) (ci := 4) (v := .int nu) (ty := .int) (C := RX4) (T := TX4) (N := 12) hx hb hts inW_4 tyX4 tyX4_ok nmX4 hown hK hP hD hS 0 rfl rfl 1 (by decide) (hts _ wd_533) (fun _ h9 => h9) rfl hin rfl (by decide +kernel) rfl rfl (Nat.le_of_ble_eq_true rfl) dX4_init_73 (fun H locs hP hD hS => ?_)
  have hP : va_P D vwCl [(h0, .inr (4, [.ref b, .int nu, .int 0, .ref q1, .null, .ref q5, .ref q6, .ref q7, .ref q8, .ref q9, .int 0, .int (-1)])), (b, .inr (0, [.int ar, .int fl, .int wa, .int si, .int sl, .int ov, .ref b1, .ref b2, .int 0, .int 0, .int 0, .int 0, .int 0])), (q1, .inr (9, nwX9)), (q5, .inl (c 0, 2400, .inl (fun _ => 0))), (q6, .inl (c 0, 2400, .inl (fun _ => 0))), (q7, .inl (c 0, 2400, .inl (fun _ => 0))), (q8, .inl (c 0, 100, .inl (fun _ => 0))), (q9, .inr (9, nwX9))] H := hP
  have hD : va_D A [(h0, .inr (4, [.ref b, .int nu, .int 0, .ref q1, .null, .ref q5, .ref q6, .ref q7, .ref q8, .ref q9, .int 0, .int (-1)])), (b, .inr (0, [.int ar, .int fl, .int wa, .int si, .int sl, .int ov, .ref b1, .ref b2, .int 0, .int 0, .int 0, .int 0, .int 0])), (q1, .inr (9, nwX9)), (q5, .inl (c 0, 2400, .inl (fun _ => 0))), (q6, .inl (c 0, 2400, .inl (fun _ => 0))), (q7, .inl (c 0, 2400, .inl (fun _ => 0))), (q8, .inl (c 0, 100, .inl (fun _ => 0))), (q9, .inr (9, nwX9))] := hD
  refine lv_aload_n hx hb dX4_init_76 rfl (lv_at hl 0 rfl) ?_
  refine lv_iload hx hb dX4_init_77 (lv_at hl 4 rfl) ?_
  refine va_putF (D := D) (ci := 4) (v := .int ca) (ty := .int) (C := RX4) (T := TX4) (N := 12) hx hb hts inW_4 tyX4 tyX4_ok nmX4 hown hK hP hD hS 0 rfl rfl 2 (by decide) (hts _ wd_535) (fun _ h9 => h9) rfl hin rfl (by decide +kernel) rfl rfl (Nat.le_of_ble_eq_true rfl) dX4_init_79 (fun H locs hP hD hS => ?_)
  have hP : va_P D vwCl [(h0, .inr (4, [.ref b, .int nu, .int ca, .ref q1, .null, .ref q5, .ref q6, .ref q7, .ref q8, .ref q9, .int 0, .int (-1)])), (b, .inr (0, [.int ar, .int fl, .int wa, .int si, .int sl, .int ov, .ref b1, .ref b2, .int 0, .int 0, .int 0, .int 0, .int 0])), (q1, .inr (9, nwX9)), (q5, .inl (c 0, 2400, .inl (fun _ => 0))), (q6, .inl (c 0, 2400, .inl (fun _ => 0))), (q7, .inl (c 0, 2400, .inl (fun _ => 0))), (q8, .inl (c 0, 100, .inl (fun _ => 0))), (q9, .inr (9, nwX9))] H := hP
  have hD : va_D A [(h0, .inr (4, [.ref b, .int nu, .int ca, .ref q1, .null, .ref q5, .ref q6, .ref q7, .ref q8, .ref q9, .int 0, .int (-1)])), (b, .inr (0, [.int ar, .int fl, .int wa, .int si, .int sl, .int ov, .ref b1, .ref b2, .int 0, .int 0, .int 0, .int 0, .int 0])), (q1, .inr (9, nwX9)), (q5, .inl (c 0, 2400, .inl (fun _ => 0))), (q6, .inl (c 0, 2400, .inl (fun _ => 0))), (q7, .inl (c 0, 2400, .inl (fun _ => 0))), (q8, .inl (c 0, 100, .inl (fun _ => 0))), (q9, .inr (9, nwX9))] := hD
  refine lv_aload_n hx hb dX4_init_82 rfl (lv_at hl 0 rfl) ?_
  refine va_new (ci := 1) (fs := nwX1) (C := RX1) (T := TX1) (N := 11) hx hb hts inW_1 tyX1 tyX1_ok hown (hts _ wd_491) (hts _ wd_492) (hts _ wd_94) hK hP hD hS hA rfl nwX1_ok (Nat.le_of_ble_eq_true rfl) (Nat.le_of_ble_eq_true rfl) dX4_init_83 (fun q13 H hP hD hS => ?_)
  have hP : va_P D vwCl [(h0, .inr (4, [.ref b, .int nu, .int ca, .ref q1, .null, .ref q5, .ref q6, .ref q7, .ref q8, .ref q9, .int 0, .int (-1)])), (b, .inr (0, [.int ar, .int fl, .int wa, .int si, .int sl, .int ov, .ref b1, .ref b2, .int 0, .int 0, .int 0, .int 0, .int 0])), (q1, .inr (9, nwX9)), (q5, .inl (c 0, 2400, .inl (fun _ => 0))), (q6, .inl (c 0, 2400, .inl (fun _ => 0))), (q7, .inl (c 0, 2400, .inl (fun _ => 0))), (q8, .inl (c 0, 100, .inl (fun _ => 0))), (q9, .inr (9, nwX9)), (q13, .inr (1, nwX1))] H := hP
  have hD : va_D A [(h0, .inr (4, [.ref b, .int nu, .int ca, .ref q1, .null, .ref q5, .ref q6, .ref q7, .ref q8, .ref q9, .int 0, .int (-1)])), (b, .inr (0, [.int ar, .int fl, .int wa, .int si, .int sl, .int ov, .ref b1, .ref b2, .int 0, .int 0, .int 0, .int 0, .int 0])), (q1, .inr (9, nwX9)), (q5, .inl (c 0, 2400, .inl (fun _ => 0))), (q6, .inl (c 0, 2400, .inl (fun _ => 0))), (q7, .inl (c 0, 2400, .inl (fun _ => 0))), (q8, .inl (c 0, 100, .inl (fun _ => 0))), (q9, .inr (9, nwX9)), (q13, .inr (1, nwX1))] := hD
  refine W.widen (k := 7) (n := 7319) (Nat.le_of_ble_eq_true rfl) (Nat.le_of_ble_eq_true rfl) ?_
  refine lv_dup hx hb dX4_init_86 rfl ?_
  refine lv_aload_n hx hb dX4_init_87 rfl (lv_at hl 1 rfl) ?_
  refine va_get (D := D) (ci := 0) (v := .int ar) (C := RX0) (T := TX0) (N := 13) hx hb hts inW_0 hown hK hP 1 rfl rfl 0 (by decide) (hts _ wd_405) (fun _ h9 => h9) rfl dX4_init_88 ?_
  have hPc := hP.sub (ws' := [(q13, .inr (1, nwX1))]) [8] rfl
  have hDc := hD.sub (ws' := [(q13, .inr (1, nwX1))]) [8] (by decide) rfl
  refine cl_v (wr := [(h0, .inr (4, [.ref b, .int nu, .int ca, .ref q1, .null, .ref q5, .ref q6, .ref q7, .ref q8, .ref q9, .int 0, .int (-1)])), (b, .inr (0, [.int ar, .int fl, .int wa, .int si, .int sl, .int ov, .ref b1, .ref b2, .int 0, .int 0, .int 0, .int 0, .int 0])), (q1, .inr (9, nwX9)), (q5, .inl (c 0, 2400, .inl (fun _ => 0))), (q6, .inl (c 0, 2400, .inl (fun _ => 0))), (q7, .inl (c 0, 2400, .inl (fun _ => 0))), (q8, .inl (c 0, 100, .inl (fun _ => 0))), (q9, .inr (9, nwX9))]) (va_runI (As := [.int ar]) (rest := [.ref q13, .ref h0]) ⟨hx, hb, hml, hown, hts⟩ (c_X1_init l D c H.size q13 ar) (kw_I 1 hts wd_493 wd_494 wd_94 wd_495 rfl rfl rfl (by decide +kernel) ⟨Nat.le_of_ble_eq_true rfl, Nat.le_of_ble_eq_true rfl⟩) (pre_S hPc hK hDc hN hO) rfl rfl hl.1 rfl (lv_room (Nat.le_of_ble_eq_true rfl)) dX4_init_91 ⟨Nat.le_of_ble_eq_true rfl, Nat.le_of_ble_eq_true rfl⟩) hP hD hS hA [8] [0, 1, 2, 3, 4, 5, 6, 7] rfl rfl (by decide) (by decide) (fun u15 H locs h16 hP hD hS => ?_)
  refine W.widen (k := 14) (n := 7467) (Nat.le_of_ble_eq_true rfl) (Nat.le_of_ble_eq_true rfl) ?_
  have hP : va_P D vwCl [(h0, .inr (4, [.ref b, .int nu, .int ca, .ref q1, .null, .ref q5, .ref q6, .ref q7, .ref q8, .ref q9, .int 0, .int (-1)])), (b, .inr (0, [.int ar, .int fl, .int wa, .int si, .int sl, .int ov, .ref b1, .ref b2, .int 0, .int 0, .int 0, .int 0, .int 0])), (q1, .inr (9, nwX9)), (q5, .inl (c 0, 2400, .inl (fun _ => 0))), (q6, .inl (c 0, 2400, .inl (fun _ => 0))), (q7, .inl (c 0, 2400, .inl (fun _ => 0))), (q8, .inl (c 0, 100, .inl (fun _ => 0))), (q9, .inr (9, nwX9))] H := hP
  have hD : va_D A [(h0, .inr (4, [.ref b, .int nu, .int ca, .ref q1, .null, .ref q5, .ref q6, .ref q7, .ref q8, .ref q9, .int 0, .int (-1)])), (b, .inr (0, [.int ar, .int fl, .int wa, .int si, .int sl, .int ov, .ref b1, .ref b2, .int 0, .int 0, .int 0, .int 0, .int 0])), (q1, .inr (9, nwX9)), (q5, .inl (c 0, 2400, .inl (fun _ => 0))), (q6, .inl (c 0, 2400, .inl (fun _ => 0))), (q7, .inl (c 0, 2400, .inl (fun _ => 0))), (q8, .inl (c 0, 100, .inl (fun _ => 0))), (q9, .inr (9, nwX9))] := hD
  refine va_putF (D := D) (ci := 4) (v := .ref q13) (ty := (.object "PoolCoast$Evidence")) (C := RX4) (T := TX4) (N := 12) hx hb hts inW_4 tyX4 tyX4_ok nmX4 hown hK hP hD hS 0 rfl rfl 4 (by decide) (hts _ wd_539) (fun _ h9 => h9) rfl hin rfl (by decide +kernel) rfl rfl (Nat.le_of_ble_eq_true rfl) dX4_init_94 (fun H locs hP hD hS => ?_)
  have hP : va_P D vwCl [(h0, .inr (4, [.ref b, .int nu, .int ca, .ref q1, .ref q13, .ref q5, .ref q6, .ref q7, .ref q8, .ref q9, .int 0, .int (-1)])), (b, .inr (0, [.int ar, .int fl, .int wa, .int si, .int sl, .int ov, .ref b1, .ref b2, .int 0, .int 0, .int 0, .int 0, .int 0])), (q1, .inr (9, nwX9)), (q5, .inl (c 0, 2400, .inl (fun _ => 0))), (q6, .inl (c 0, 2400, .inl (fun _ => 0))), (q7, .inl (c 0, 2400, .inl (fun _ => 0))), (q8, .inl (c 0, 100, .inl (fun _ => 0))), (q9, .inr (9, nwX9))] H := hP
  have hD : va_D A [(h0, .inr (4, [.ref b, .int nu, .int ca, .ref q1, .ref q13, .ref q5, .ref q6, .ref q7, .ref q8, .ref q9, .int 0, .int (-1)])), (b, .inr (0, [.int ar, .int fl, .int wa, .int si, .int sl, .int ov, .ref b1, .ref b2, .int 0, .int 0, .int 0, .int 0, .int 0])), (q1, .inr (9, nwX9)), (q5, .inl (c 0, 2400, .inl (fun _ => 0))), (q6, .inl (c 0, 2400, .inl (fun _ => 0))), (q7, .inl (c 0, 2400, .inl (fun _ => 0))), (q8, .inl (c 0, 100, .inl (fun _ => 0))), (q9, .inr (9, nwX9))] := hD
  refine lv_aload_n hx hb dX4_init_97 rfl (lv_at hl 0 rfl) ?_
  refine va_get (D := D) (ci := 4) (v := .ref q1) (C := RX4) (T := TX4) (N := 12) hx hb hts inW_4 hown hK hP 0 rfl rfl 3 (by decide) (hts _ wd_537) (fun _ h9 => h9) rfl dX4_init_98 ?_
  refine lv_aload_n hx hb dX4_init_101 rfl (lv_at hl 1 rfl) ?_
  refine va_get (D := D) (ci := 0) (v := .int ar) (C := RX0) (T := TX0) (N := 13) hx hb hts inW_0 hown hK hP 1 rfl rfl 0 (by decide) (hts _ wd_405) (fun _ h9 => h9) rfl dX4_init_102 ?_
  refine lv_iload_n hx hb dX4_init_105 rfl (lv_at hl 3 rfl) ?_
  refine lv_imul hx hb dX4_init_106 ?_
  refine lv_topi (fun v17 e18 => ?_)
  refine va_put (D := D) (ci := 9) (v := .int v17) (ty := .int) (C := RX9) (T := TX9) (N := 4) hx hb hts inW_9 tyX9 tyX9_ok nmX9 hown hK hP hD hS 2 rfl rfl 0 (by decide) (hts _ wd_473) (fun _ h9 => h9) rfl (by decide +kernel) rfl rfl (Nat.le_of_ble_eq_true rfl) dX4_init_107 (fun H locs hP hD hS => ?_)
  have hP : va_P D vwCl [(h0, .inr (4, [.ref b, .int nu, .int ca, .ref q1, .ref q13, .ref q5, .ref q6, .ref q7, .ref q8, .ref q9, .int 0, .int (-1)])), (b, .inr (0, [.int ar, .int fl, .int wa, .int si, .int sl, .int ov, .ref b1, .ref b2, .int 0, .int 0, .int 0, .int 0, .int 0])), (q1, .inr (9, (nwX9).set 0 (.int v17))), (q5, .inl (c 0, 2400, .inl (fun _ => 0))), (q6, .inl (c 0, 2400, .inl (fun _ => 0))), (q7, .inl (c 0, 2400, .inl (fun _ => 0))), (q8, .inl (c 0, 100, .inl (fun _ => 0))), (q9, .inr (9, nwX9))] H := hP
  have hD : va_D A [(h0, .inr (4, [.ref b, .int nu, .int ca, .ref q1, .ref q13, .ref q5, .ref q6, .ref q7, .ref q8, .ref q9, .int 0, .int (-1)])), (b, .inr (0, [.int ar, .int fl, .int wa, .int si, .int sl, .int ov, .ref b1, .ref b2, .int 0, .int 0, .int 0, .int 0, .int 0])), (q1, .inr (9, (nwX9).set 0 (.int v17))), (q5, .inl (c 0, 2400, .inl (fun _ => 0))), (q6, .inl (c 0, 2400, .inl (fun _ => 0))), (q7, .inl (c 0, 2400, .inl (fun _ => 0))), (q8, .inl (c 0, 100, .inl (fun _ => 0))), (q9, .inr (9, nwX9))] := hD
  exact rt_v hx hb hr hlocks hK hP hD hS dX4_init_110 [.ref b, .int nu, .int ca, .ref q1, .ref q13, .ref q5, .ref q6, .ref q7, .ref q8, .ref q9, .int 0, .int (-1)] [0] rfl rfl trivial
set_option maxHeartbeats 4000000 in
set_option maxRecDepth 100000 in
/-- X6_init -/
theorem c_X6_init (l : Launch) (D : va_G) (c : Nat → ClassId) (sz : Nat) (h0 : Nat) (q : Nat) (kn : Int32) : Met l yX6_init (.code yX6_init cX6_init 6 none :: Wd) ({ frames := 1, cells := 1, slots := 0, locals := 40 }) (va_Pc [.ref h0, .ref q, .int 0, .int kn] (WB D c [(h0, .inr (6, nwX6)), (q, .inl (c 0, 320, .inl (fun _ => 0)))] sz)) (QV (S := List Value) D c (fun _ => True) (fun u => [(h0, .inr (6, u))]) (va_A [(h0, .inr (6, nwX6)), (q, .inl (c 0, 320, .inl (fun _ => 0)))] sz)) 1 0 (va_A [(h0, .inr (6, nwX6)), (q, .inl (c 0, 320, .inl (fun _ => 0)))] sz) := by
  refine kz_met (Qc := QV (S := List Value) D c (fun _ => True) (fun u => [(h0, .inr (6, u))])) (by decide) (Nat.le_of_ble_eq_true rfl) ?_
  intro p e s m below meth cd A ls H hx hb hr hml hts hown hlocks hin hN hO hK hP hD hS hA hl
  have hl : lv_has ls 6 [(0, .ref h0), (1, .ref q), (2, .int 0), (3, .int kn)] := hl
  have hown : s.vm.findClass RX6 = some m.cls := hown
  refine lv_aload_n hx hb dX6_init_0 rfl (lv_at hl 0 rfl) ?_
  refine W.objInit hx hb hown (hts _ wd_855) (hts _ wd_110) (hts _ wd_111) rfl (by rw [hml]; exact hl.1) rfl dX6_init_1 (Nat.le_of_ble_eq_true rfl) (Nat.le_of_ble_eq_true rfl) ?_
  refine W.eq (g2 := F0 m 4 ls []) rfl ?_
  refine lv_aload_n hx hb dX6_init_4 rfl (lv_at hl 0 rfl) ?_
  refine lv_iload_n hx hb dX6_init_5 rfl (lv_at hl 3 rfl) ?_
  refine va_putF (D := D) (ci := 6) (v := .int kn) (ty := .int) (C := RX6) (T := TX6) (N := 3) hx hb hts inW_6 tyX6 tyX6_ok nmX6 hown hK hP hD hS 0 rfl rfl 0 (by decide) (hts _ wd_860) (fun _ h9 => h9) rfl hin rfl (by decide +kernel) rfl rfl (Nat.le_of_ble_eq_true rfl) dX6_init_6 (fun H locs hP hD hS => ?_)
  have hP : va_P D vwCl [(h0, .inr (6, [.int kn, .int 0, .null])), (q, .inl (c 0, 320, .inl (fun _ => 0)))] H := hP
  have hD : va_D A [(h0, .inr (6, [.int kn, .int 0, .null])), (q, .inl (c 0, 320, .inl (fun _ => 0)))] := hD
  refine lv_aload_n hx hb dX6_init_9 rfl (lv_at hl 0 rfl) ?_
  refine lv_iconst (v := 0) hx hb dX6_init_10 (by decide) ?_
  refine lv_iload_n hx hb dX6_init_11 rfl (lv_at hl 2 rfl) ?_
  refine lv_aload_n hx hb dX6_init_12 rfl (lv_at hl 1 rfl) ?_
  refine va_alen (v := 320) hx hb hK hP 1 0 rfl rfl (by show Int32.ofNat 320 = 320; decide) dX6_init_13 ?_
  refine va_mmin hx hb (by rw [hml]; exact hl.1.symm) hown (hts _ wd_856) (hts _ wd_639) (hts _ wd_95) (hts _ wd_640) (Nat.le_of_ble_eq_true rfl) (Nat.le_of_ble_eq_true rfl) (Nat.le_of_ble_eq_true rfl) (Nat.le_of_ble_eq_true rfl) dX6_init_14 ?_
  refine lv_topi (fun v1 e2 => ?_)
  obtain rfl : v1 = 0 := e2.trans (by decide)
  refine va_mmax hx hb (by rw [hml]; exact hl.1.symm) hown (hts _ wd_857) (hts _ wd_646) (hts _ wd_95) (hts _ wd_647) (Nat.le_of_ble_eq_true rfl) (Nat.le_of_ble_eq_true rfl) (Nat.le_of_ble_eq_true rfl) (Nat.le_of_ble_eq_true rfl) dX6_init_17 ?_
  refine lv_topi (fun v3 e4 => ?_)
  obtain rfl : v3 = 0 := e4.trans (by decide)
  refine kz_newa (c := c) (atype := .int) (a0 := (0, .inl (fun _ => 0))) hx hb 0 rfl (hts _ wd_129) rfl hK hP hD hS hA (fun _ => rfl) (by decide) (by decide) (Nat.le_of_ble_eq_true rfl) (Nat.le_of_ble_eq_true rfl) (Nat.le_of_ble_eq_true rfl) dX6_init_20 (fun q5 H hP hD hS => ?_)
  have hP : va_P D vwCl [(h0, .inr (6, [.int kn, .int 0, .null])), (q, .inl (c 0, 320, .inl (fun _ => 0))), (q5, .inl (c 0, 0, .inl (fun _ => 0)))] H := hP
  have hD : va_D A [(h0, .inr (6, [.int kn, .int 0, .null])), (q, .inl (c 0, 320, .inl (fun _ => 0))), (q5, .inl (c 0, 0, .inl (fun _ => 0)))] := hD
  refine W.widen (k := 1) (n := 0) (Nat.le_of_ble_eq_true rfl) (Nat.le_of_ble_eq_true rfl) ?_
  refine va_putF (D := D) (ci := 6) (v := .ref q5) (ty := (.array .int)) (C := RX6) (T := TX6) (N := 3) hx hb hts inW_6 tyX6 tyX6_ok nmX6 hown hK hP hD hS 0 rfl rfl 2 (by decide) (hts _ wd_864) (fun _ h9 => h9) rfl hin rfl (by decide +kernel) rfl rfl (Nat.le_of_ble_eq_true rfl) dX6_init_22 (fun H locs hP hD hS => ?_)
  have hP : va_P D vwCl [(h0, .inr (6, [.int kn, .int 0, .ref q5])), (q, .inl (c 0, 320, .inl (fun _ => 0))), (q5, .inl (c 0, 0, .inl (fun _ => 0)))] H := hP
  have hD : va_D A [(h0, .inr (6, [.int kn, .int 0, .ref q5])), (q, .inl (c 0, 320, .inl (fun _ => 0))), (q5, .inl (c 0, 0, .inl (fun _ => 0)))] := hD
  refine lv_iconst (v := 0) hx hb dX6_init_25 (by decide) ?_
  refine lv_istore (lv' := [(4, .int 0), (0, .ref h0), (1, .ref q), (2, .int 0), (3, .int kn)]) hx hb dX6_init_26 hl (by decide) rfl (fun ls hl => ?_)
  refine lv_iconst (v := 0) hx hb dX6_init_28 (by decide) ?_
  refine lv_istore (lv' := [(5, .int 0), (4, .int 0), (0, .ref h0), (1, .ref q), (2, .int 0), (3, .int kn)]) hx hb dX6_init_29 hl (by decide) rfl (fun ls hl => ?_)
  refine lv_iload hx hb dX6_init_31 (lv_at hl 0 rfl) ?_
  refine lv_aload_n hx hb dX6_init_33 rfl (lv_at hl 2 rfl) ?_
  refine va_get (D := D) (ci := 6) (v := .ref q5) (C := RX6) (T := TX6) (N := 3) hx hb hts inW_6 hown hK hP 0 rfl rfl 2 (by decide) (hts _ wd_864) (fun _ h9 => h9) rfl dX6_init_34 ?_
  refine va_alen (v := 0) hx hb hK hP 2 0 rfl rfl (by show Int32.ofNat 0 = 0; decide) dX6_init_37 ?_
  refine lv_icmp_ge (tgt := 102) hx hb dX6_init_38 (by decide) (fun _ => ?_) (fun c => False.elim (by revert c; decide))
  refine lv_aload_n hx hb dX6_init_102 rfl (lv_at hl 2 rfl) ?_
  refine lv_iload hx hb dX6_init_103 (lv_at hl 1 rfl) ?_
  refine va_putF (D := D) (ci := 6) (v := .int 0) (ty := .boolean) (C := RX6) (T := TX6) (N := 3) hx hb hts inW_6 tyX6 tyX6_ok nmX6 hown hK hP hD hS 0 rfl rfl 1 (by decide) (hts _ wd_862) (fun _ h9 => h9) rfl hin rfl (by decide +kernel) rfl rfl (Nat.le_of_ble_eq_true rfl) dX6_init_105 (fun H locs hP hD hS => ?_)
  have hP : va_P D vwCl [(h0, .inr (6, [.int kn, .int 0, .ref q5])), (q, .inl (c 0, 320, .inl (fun _ => 0))), (q5, .inl (c 0, 0, .inl (fun _ => 0)))] H := hP
  have hD : va_D A [(h0, .inr (6, [.int kn, .int 0, .ref q5])), (q, .inl (c 0, 320, .inl (fun _ => 0))), (q5, .inl (c 0, 0, .inl (fun _ => 0)))] := hD
  exact rt_v hx hb hr hlocks hK hP hD hS dX6_init_108 [.int kn, .int 0, .ref q5] [0] rfl rfl trivial
end
section
set_option maxHeartbeats 4000000 in
set_option maxRecDepth 100000 in
/-- X11_init -/
theorem c_X11_init (l : Launch) (D : va_G) (c : Nat → ClassId) (sz : Nat) (h0 : Nat) : Met l yX11_init (.code yX11_init cX11_init 1 none :: Wd) ({ frames := 2, cells := 27, slots := 10651, locals := 52 }) (va_Pc [.ref h0] (WB D c [(h0, .inr (11, nwX11))] sz)) (QV (S := Nat → Nat) D c (fun r => r 0 = h0) (fun r => [((r 0), .inr (11, fX r 0 0)), ((r 1), .inr (8, fTd r)), ((r 20), .inl (c 0, 500, .inl (fun _ => 0))), ((r 21), .inl (c 0, 500, .inl (fun _ => 0))), ((r 2), .inr (10, fWv r)), ((r 22), .inl (c 0, 2400, .inl (fun _ => 0))), ((r 23), .inl (c 0, 1500, .inl (fun _ => 0))), ((r 24), .inl (c 0, 1500, .inl (fun _ => 0))), ((r 25), .inl (c 0, 1500, .inl (fun _ => 0))), ((r 3), .inl (c 4, 11, .inr (.inr (.inr (.inr (fun _ => none)))))), ((r 4), .inr (5, fRd r 0)), ((r 26), .inl (c 0, 320, .inl (fun _ => 0))), ((r 27), .inl (c 0, 300, .inl (fun _ => 0))), ((r 5), .inl (c 5, 10, .inr (.inr (.inr (.inr (fun _ => none)))))), ((r 6), .inr (7, fSm r)), ((r 7), .inl (c 6, 10, .inr (.inr (.inr (.inr (fun _ => none))))))]) (va_A [(h0, .inr (11, nwX11))] sz)) 27 10651 (va_A [(h0, .inr (11, nwX11))] sz) := by
  refine kz_met (Qc := QV (S := Nat → Nat) D c (fun r => r 0 = h0) (fun r => [((r 0), .inr (11, fX r 0 0)), ((r 1), .inr (8, fTd r)), ((r 20), .inl (c 0, 500, .inl (fun _ => 0))), ((r 21), .inl (c 0, 500, .inl (fun _ => 0))), ((r 2), .inr (10, fWv r)), ((r 22), .inl (c 0, 2400, .inl (fun _ => 0))), ((r 23), .inl (c 0, 1500, .inl (fun _ => 0))), ((r 24), .inl (c 0, 1500, .inl (fun _ => 0))), ((r 25), .inl (c 0, 1500, .inl (fun _ => 0))), ((r 3), .inl (c 4, 11, .inr (.inr (.inr (.inr (fun _ => none)))))), ((r 4), .inr (5, fRd r 0)), ((r 26), .inl (c 0, 320, .inl (fun _ => 0))), ((r 27), .inl (c 0, 300, .inl (fun _ => 0))), ((r 5), .inl (c 5, 10, .inr (.inr (.inr (.inr (fun _ => none)))))), ((r 6), .inr (7, fSm r)), ((r 7), .inl (c 6, 10, .inr (.inr (.inr (.inr (fun _ => none))))))])) (by decide) (Nat.le_of_ble_eq_true rfl) ?_
  intro p e s m below meth cd A ls H hx hb hr hml hts hown hlocks hin hN hO hK hP hD hS hA hl
  have hl : lv_has ls 1 [(0, .ref h0)] := hl
  have hown : s.vm.findClass RX11 = some m.cls := hown
  refine lv_aload_n hx hb dX11_init_0 rfl (lv_at hl 0 rfl) ?_
  refine W.objInit hx hb hown (hts _ wd_109) (hts _ wd_110) (hts _ wd_111) rfl (by rw [hml]; exact hl.1) rfl dX11_init_1 (Nat.le_of_ble_eq_true rfl) (Nat.le_of_ble_eq_true rfl) ?_
  refine W.eq (g2 := F0 m 4 ls []) rfl ?_
  refine lv_aload_n hx hb dX11_init_4 rfl (lv_at hl 0 rfl) ?_
  refine va_new (ci := 8) (fs := nwX8) (C := RX8) (T := TX8) (N := 3) hx hb hts inW_8 tyX8 tyX8_ok hown (hts _ wd_112) (hts _ wd_113) (hts _ wd_84) hK hP hD hS hA rfl nwX8_ok (Nat.le_of_ble_eq_true rfl) (Nat.le_of_ble_eq_true rfl) dX11_init_5 (fun q1 H hP hD hS => ?_)
  have hP : va_P D vwCl [(h0, .inr (11, nwX11)), (q1, .inr (8, nwX8))] H := hP
  have hD : va_D A [(h0, .inr (11, nwX11)), (q1, .inr (8, nwX8))] := hD
  refine W.widen (k := 1) (n := 3) (Nat.le_of_ble_eq_true rfl) (Nat.le_of_ble_eq_true rfl) ?_
  refine lv_dup hx hb dX11_init_8 rfl ?_
  have hPc := hP.sub (ws' := [(q1, .inr (8, nwX8))]) [1] rfl
  have hDc := hD.sub (ws' := [(q1, .inr (8, nwX8))]) [1] (by decide) rfl
  refine cl_v (wr := [(h0, .inr (11, nwX11))]) (va_runIN (As := []) (rest := [.ref q1, .ref h0]) ⟨hx, hb, hml, hown, hts⟩ (c_X8_init l D c H.size q1) (kw_IN 0 hts (hN (RX11, 11, yX8_init) (List.mem_of_getElem? (i := 0) rfl)) wd_115 wd_84 wd_116 rfl rfl rfl (by decide +kernel) ⟨Nat.le_of_ble_eq_true rfl, Nat.le_of_ble_eq_true rfl⟩) (pre_S hPc hK hDc hN hO) rfl rfl hl.1 rfl (lv_room (Nat.le_of_ble_eq_true rfl)) dX11_init_9 ⟨Nat.le_of_ble_eq_true rfl, Nat.le_of_ble_eq_true rfl⟩) hP hD hS hA [1] [0] rfl rfl (by decide) (by decide) (fun u3 H locs h4 hP hD hS => ?_)
  refine W.widen (k := 3) (n := 1003) (Nat.le_of_ble_eq_true rfl) (Nat.le_of_ble_eq_true rfl) ?_
  obtain ⟨q5, q6⟩ := u3
  have hP : va_P D vwCl [(h0, .inr (11, nwX11)), (q1, .inr (8, [.ref q5, .ref q6, .int 0])), (q5, .inl (c 0, 500, .inl (fun _ => 0))), (q6, .inl (c 0, 500, .inl (fun _ => 0)))] H := hP
  have hD : va_D A [(h0, .inr (11, nwX11)), (q1, .inr (8, [.ref q5, .ref q6, .int 0])), (q5, .inl (c 0, 500, .inl (fun _ => 0))), (q6, .inl (c 0, 500, .inl (fun _ => 0)))] := hD
  refine va_putF (D := D) (ci := 11) (v := .ref q1) (ty := (.object "PoolCoast$Tides")) (C := RX11) (T := TX11) (N := 16) hx hb hts inW_11 tyX11 tyX11_ok nmX11 hown hK hP hD hS 0 rfl rfl 0 (by decide) (hts _ wd_269) (fun _ h9 => h9) rfl hin rfl (by decide +kernel) rfl rfl (Nat.le_of_ble_eq_true rfl) dX11_init_12 (fun H locs hP hD hS => ?_)
  have hP : va_P D vwCl [(h0, .inr (11, [.ref q1, .null, .null, .null, .null, .null, .null, .null, .null, .null, .int 0, .int 0, .int 0, .int 0, .int 0, .int 0])), (q1, .inr (8, [.ref q5, .ref q6, .int 0])), (q5, .inl (c 0, 500, .inl (fun _ => 0))), (q6, .inl (c 0, 500, .inl (fun _ => 0)))] H := hP
  have hD : va_D A [(h0, .inr (11, [.ref q1, .null, .null, .null, .null, .null, .null, .null, .null, .null, .int 0, .int 0, .int 0, .int 0, .int 0, .int 0])), (q1, .inr (8, [.ref q5, .ref q6, .int 0])), (q5, .inl (c 0, 500, .inl (fun _ => 0))), (q6, .inl (c 0, 500, .inl (fun _ => 0)))] := hD
  refine lv_aload_n hx hb dX11_init_15 rfl (lv_at hl 0 rfl) ?_
  refine va_new (ci := 10) (fs := nwX10) (C := RX10) (T := TX10) (N := 7) hx hb hts inW_10 tyX10 tyX10_ok hown (hts _ wd_130) (hts _ wd_131) (hts _ wd_85) hK hP hD hS hA rfl nwX10_ok (Nat.le_of_ble_eq_true rfl) (Nat.le_of_ble_eq_true rfl) dX11_init_16 (fun q7 H hP hD hS => ?_)
  have hP : va_P D vwCl [(h0, .inr (11, [.ref q1, .null, .null, .null, .null, .null, .null, .null, .null, .null, .int 0, .int 0, .int 0, .int 0, .int 0, .int 0])), (q1, .inr (8, [.ref q5, .ref q6, .int 0])), (q5, .inl (c 0, 500, .inl (fun _ => 0))), (q6, .inl (c 0, 500, .inl (fun _ => 0))), (q7, .inr (10, nwX10))] H := hP
  have hD : va_D A [(h0, .inr (11, [.ref q1, .null, .null, .null, .null, .null, .null, .null, .null, .null, .int 0, .int 0, .int 0, .int 0, .int 0, .int 0])), (q1, .inr (8, [.ref q5, .ref q6, .int 0])), (q5, .inl (c 0, 500, .inl (fun _ => 0))), (q6, .inl (c 0, 500, .inl (fun _ => 0))), (q7, .inr (10, nwX10))] := hD
  refine W.widen (k := 4) (n := 1010) (Nat.le_of_ble_eq_true rfl) (Nat.le_of_ble_eq_true rfl) ?_
  refine lv_dup hx hb dX11_init_19 rfl ?_
  have hPc := hP.sub (ws' := [(q7, .inr (10, nwX10))]) [4] rfl
  have hDc := hD.sub (ws' := [(q7, .inr (10, nwX10))]) [4] (by decide) rfl
  refine cl_v (wr := [(h0, .inr (11, [.ref q1, .null, .null, .null, .null, .null, .null, .null, .null, .null, .int 0, .int 0, .int 0, .int 0, .int 0, .int 0])), (q1, .inr (8, [.ref q5, .ref q6, .int 0])), (q5, .inl (c 0, 500, .inl (fun _ => 0))), (q6, .inl (c 0, 500, .inl (fun _ => 0)))]) (va_runIN (As := []) (rest := [.ref q7, .ref h0]) ⟨hx, hb, hml, hown, hts⟩ (c_X10_init l D c H.size q7) (kw_IN 0 hts (hN (RX11, 18, yX10_init) (List.mem_of_getElem? (i := 1) rfl)) wd_133 wd_85 wd_134 rfl rfl rfl (by decide +kernel) ⟨Nat.le_of_ble_eq_true rfl, Nat.le_of_ble_eq_true rfl⟩) (pre_S hPc hK hDc hN hO) rfl rfl hl.1 rfl (lv_room (Nat.le_of_ble_eq_true rfl)) dX11_init_20 ⟨Nat.le_of_ble_eq_true rfl, Nat.le_of_ble_eq_true rfl⟩) hP hD hS hA [4] [0, 1, 2, 3] rfl rfl (by decide) (by decide) (fun u9 H locs h10 hP hD hS => ?_)
  refine W.widen (k := 8) (n := 7910) (Nat.le_of_ble_eq_true rfl) (Nat.le_of_ble_eq_true rfl) ?_
  obtain ⟨q11, q12, q13, q14⟩ := u9
  have hP : va_P D vwCl [(h0, .inr (11, [.ref q1, .null, .null, .null, .null, .null, .null, .null, .null, .null, .int 0, .int 0, .int 0, .int 0, .int 0, .int 0])), (q1, .inr (8, [.ref q5, .ref q6, .int 0])), (q5, .inl (c 0, 500, .inl (fun _ => 0))), (q6, .inl (c 0, 500, .inl (fun _ => 0))), (q7, .inr (10, [.ref q11, .ref q12, .ref q13, .ref q14, .int 0, .int 100, .int 150])), (q11, .inl (c 0, 2400, .inl (fun _ => 0))), (q12, .inl (c 0, 1500, .inl (fun _ => 0))), (q13, .inl (c 0, 1500, .inl (fun _ => 0))), (q14, .inl (c 0, 1500, .inl (fun _ => 0)))] H := hP
  have hD : va_D A [(h0, .inr (11, [.ref q1, .null, .null, .null, .null, .null, .null, .null, .null, .null, .int 0, .int 0, .int 0, .int 0, .int 0, .int 0])), (q1, .inr (8, [.ref q5, .ref q6, .int 0])), (q5, .inl (c 0, 500, .inl (fun _ => 0))), (q6, .inl (c 0, 500, .inl (fun _ => 0))), (q7, .inr (10, [.ref q11, .ref q12, .ref q13, .ref q14, .int 0, .int 100, .int 150])), (q11, .inl (c 0, 2400, .inl (fun _ => 0))), (q12, .inl (c 0, 1500, .inl (fun _ => 0))), (q13, .inl (c 0, 1500, .inl (fun _ => 0))), (q14, .inl (c 0, 1500, .inl (fun _ => 0)))] := hD
  refine va_putF (D := D) (ci := 11) (v := .ref q7) (ty := (.object "PoolCoast$Waves")) (C := RX11) (T := TX11) (N := 16) hx hb hts inW_11 tyX11 tyX11_ok nmX11 hown hK hP hD hS 0 rfl rfl 1 (by decide) (hts _ wd_270) (fun _ h9 => h9) rfl hin rfl (by decide +kernel) rfl rfl (Nat.le_of_ble_eq_true rfl) dX11_init_23 (fun H locs hP hD hS => ?_)
  have hP : va_P D vwCl [(h0, .inr (11, [.ref q1, .ref q7, .null, .null, .null, .null, .null, .null, .null, .null, .int 0, .int 0, .int 0, .int 0, .int 0, .int 0])), (q1, .inr (8, [.ref q5, .ref q6, .int 0])), (q5, .inl (c 0, 500, .inl (fun _ => 0))), (q6, .inl (c 0, 500, .inl (fun _ => 0))), (q7, .inr (10, [.ref q11, .ref q12, .ref q13, .ref q14, .int 0, .int 100, .int 150])), (q11, .inl (c 0, 2400, .inl (fun _ => 0))), (q12, .inl (c 0, 1500, .inl (fun _ => 0))), (q13, .inl (c 0, 1500, .inl (fun _ => 0))), (q14, .inl (c 0, 1500, .inl (fun _ => 0)))] H := hP
  have hD : va_D A [(h0, .inr (11, [.ref q1, .ref q7, .null, .null, .null, .null, .null, .null, .null, .null, .int 0, .int 0, .int 0, .int 0, .int 0, .int 0])), (q1, .inr (8, [.ref q5, .ref q6, .int 0])), (q5, .inl (c 0, 500, .inl (fun _ => 0))), (q6, .inl (c 0, 500, .inl (fun _ => 0))), (q7, .inr (10, [.ref q11, .ref q12, .ref q13, .ref q14, .int 0, .int 100, .int 150])), (q11, .inl (c 0, 2400, .inl (fun _ => 0))), (q12, .inl (c 0, 1500, .inl (fun _ => 0))), (q13, .inl (c 0, 1500, .inl (fun _ => 0))), (q14, .inl (c 0, 1500, .inl (fun _ => 0)))] := hD
  refine lv_aload_n hx hb dX11_init_26 rfl (lv_at hl 0 rfl) ?_
  refine lv_bipush (v := 11) hx hb dX11_init_27 (by decide) ?_
  refine kz_newq (c := c) (C := RX4) (N' := 11) hx hb 4 rfl hown (hts _ wd_161) (hO _ (List.mem_of_getElem? (i := 0) rfl)) hK hP hD hS hA (by decide) (by decide) (Nat.le_of_ble_eq_true rfl) (Nat.le_of_ble_eq_true rfl) (Nat.le_of_ble_eq_true rfl) dX11_init_29 (fun q15 H hP hD hS => ?_)
  have hP : va_P D vwCl [(h0, .inr (11, [.ref q1, .ref q7, .null, .null, .null, .null, .null, .null, .null, .null, .int 0, .int 0, .int 0, .int 0, .int 0, .int 0])), (q1, .inr (8, [.ref q5, .ref q6, .int 0])), (q5, .inl (c 0, 500, .inl (fun _ => 0))), (q6, .inl (c 0, 500, .inl (fun _ => 0))), (q7, .inr (10, [.ref q11, .ref q12, .ref q13, .ref q14, .int 0, .int 100, .int 150])), (q11, .inl (c 0, 2400, .inl (fun _ => 0))), (q12, .inl (c 0, 1500, .inl (fun _ => 0))), (q13, .inl (c 0, 1500, .inl (fun _ => 0))), (q14, .inl (c 0, 1500, .inl (fun _ => 0))), (q15, .inl (c 4, 11, .inr (.inr (.inr (.inr (fun _ => none))))))] H := hP
  have hD : va_D A [(h0, .inr (11, [.ref q1, .ref q7, .null, .null, .null, .null, .null, .null, .null, .null, .int 0, .int 0, .int 0, .int 0, .int 0, .int 0])), (q1, .inr (8, [.ref q5, .ref q6, .int 0])), (q5, .inl (c 0, 500, .inl (fun _ => 0))), (q6, .inl (c 0, 500, .inl (fun _ => 0))), (q7, .inr (10, [.ref q11, .ref q12, .ref q13, .ref q14, .int 0, .int 100, .int 150])), (q11, .inl (c 0, 2400, .inl (fun _ => 0))), (q12, .inl (c 0, 1500, .inl (fun _ => 0))), (q13, .inl (c 0, 1500, .inl (fun _ => 0))), (q14, .inl (c 0, 1500, .inl (fun _ => 0))), (q15, .inl (c 4, 11, .inr (.inr (.inr (.inr (fun _ => none))))))] := hD
  refine W.widen (k := 9) (n := 7921) (Nat.le_of_ble_eq_true rfl) (Nat.le_of_ble_eq_true rfl) ?_
  refine va_putF (D := D) (ci := 11) (v := .ref q15) (ty := (.array (.object "PoolCoast$Pool"))) (C := RX11) (T := TX11) (N := 16) hx hb hts inW_11 tyX11 tyX11_ok nmX11 hown hK hP hD hS 0 rfl rfl 2 (by decide) (hts _ wd_271) (fun _ h9 => h9) rfl hin rfl (by decide +kernel) rfl rfl (Nat.le_of_ble_eq_true rfl) dX11_init_32 (fun H locs hP hD hS => ?_)
  have hP : va_P D vwCl [(h0, .inr (11, [.ref q1, .ref q7, .ref q15, .null, .null, .null, .null, .null, .null, .null, .int 0, .int 0, .int 0, .int 0, .int 0, .int 0])), (q1, .inr (8, [.ref q5, .ref q6, .int 0])), (q5, .inl (c 0, 500, .inl (fun _ => 0))), (q6, .inl (c 0, 500, .inl (fun _ => 0))), (q7, .inr (10, [.ref q11, .ref q12, .ref q13, .ref q14, .int 0, .int 100, .int 150])), (q11, .inl (c 0, 2400, .inl (fun _ => 0))), (q12, .inl (c 0, 1500, .inl (fun _ => 0))), (q13, .inl (c 0, 1500, .inl (fun _ => 0))), (q14, .inl (c 0, 1500, .inl (fun _ => 0))), (q15, .inl (c 4, 11, .inr (.inr (.inr (.inr (fun _ => none))))))] H := hP
  have hD : va_D A [(h0, .inr (11, [.ref q1, .ref q7, .ref q15, .null, .null, .null, .null, .null, .null, .null, .int 0, .int 0, .int 0, .int 0, .int 0, .int 0])), (q1, .inr (8, [.ref q5, .ref q6, .int 0])), (q5, .inl (c 0, 500, .inl (fun _ => 0))), (q6, .inl (c 0, 500, .inl (fun _ => 0))), (q7, .inr (10, [.ref q11, .ref q12, .ref q13, .ref q14, .int 0, .int 100, .int 150])), (q11, .inl (c 0, 2400, .inl (fun _ => 0))), (q12, .inl (c 0, 1500, .inl (fun _ => 0))), (q13, .inl (c 0, 1500, .inl (fun _ => 0))), (q14, .inl (c 0, 1500, .inl (fun _ => 0))), (q15, .inl (c 4, 11, .inr (.inr (.inr (.inr (fun _ => none))))))] := hD
  refine lv_aload_n hx hb dX11_init_35 rfl (lv_at hl 0 rfl) ?_
  refine va_new (ci := 5) (fs := nwX5) (C := RX5) (T := TX5) (N := 9) hx hb hts inW_5 tyX5 tyX5_ok hown (hts _ wd_163) (hts _ wd_164) (hts _ wd_86) hK hP hD hS hA rfl nwX5_ok (Nat.le_of_ble_eq_true rfl) (Nat.le_of_ble_eq_true rfl) dX11_init_36 (fun q16 H hP hD hS => ?_)
  have hP : va_P D vwCl [(h0, .inr (11, [.ref q1, .ref q7, .ref q15, .null, .null, .null, .null, .null, .null, .null, .int 0, .int 0, .int 0, .int 0, .int 0, .int 0])), (q1, .inr (8, [.ref q5, .ref q6, .int 0])), (q5, .inl (c 0, 500, .inl (fun _ => 0))), (q6, .inl (c 0, 500, .inl (fun _ => 0))), (q7, .inr (10, [.ref q11, .ref q12, .ref q13, .ref q14, .int 0, .int 100, .int 150])), (q11, .inl (c 0, 2400, .inl (fun _ => 0))), (q12, .inl (c 0, 1500, .inl (fun _ => 0))), (q13, .inl (c 0, 1500, .inl (fun _ => 0))), (q14, .inl (c 0, 1500, .inl (fun _ => 0))), (q15, .inl (c 4, 11, .inr (.inr (.inr (.inr (fun _ => none)))))), (q16, .inr (5, nwX5))] H := hP
  have hD : va_D A [(h0, .inr (11, [.ref q1, .ref q7, .ref q15, .null, .null, .null, .null, .null, .null, .null, .int 0, .int 0, .int 0, .int 0, .int 0, .int 0])), (q1, .inr (8, [.ref q5, .ref q6, .int 0])), (q5, .inl (c 0, 500, .inl (fun _ => 0))), (q6, .inl (c 0, 500, .inl (fun _ => 0))), (q7, .inr (10, [.ref q11, .ref q12, .ref q13, .ref q14, .int 0, .int 100, .int 150])), (q11, .inl (c 0, 2400, .inl (fun _ => 0))), (q12, .inl (c 0, 1500, .inl (fun _ => 0))), (q13, .inl (c 0, 1500, .inl (fun _ => 0))), (q14, .inl (c 0, 1500, .inl (fun _ => 0))), (q15, .inl (c 4, 11, .inr (.inr (.inr (.inr (fun _ => none)))))), (q16, .inr (5, nwX5))] := hD
  refine W.widen (k := 10) (n := 7930) (Nat.le_of_ble_eq_true rfl) (Nat.le_of_ble_eq_true rfl) ?_
  refine lv_dup hx hb dX11_init_39 rfl ?_
  have hPc := hP.sub (ws' := [(q16, .inr (5, nwX5))]) [10] rfl
  have hDc := hD.sub (ws' := [(q16, .inr (5, nwX5))]) [10] (by decide) rfl
  refine cl_v (wr := [(h0, .inr (11, [.ref q1, .ref q7, .ref q15, .null, .null, .null, .null, .null, .null, .null, .int 0, .int 0, .int 0, .int 0, .int 0, .int 0])), (q1, .inr (8, [.ref q5, .ref q6, .int 0])), (q5, .inl (c 0, 500, .inl (fun _ => 0))), (q6, .inl (c 0, 500, .inl (fun _ => 0))), (q7, .inr (10, [.ref q11, .ref q12, .ref q13, .ref q14, .int 0, .int 100, .int 150])), (q11, .inl (c 0, 2400, .inl (fun _ => 0))), (q12, .inl (c 0, 1500, .inl (fun _ => 0))), (q13, .inl (c 0, 1500, .inl (fun _ => 0))), (q14, .inl (c 0, 1500, .inl (fun _ => 0))), (q15, .inl (c 4, 11, .inr (.inr (.inr (.inr (fun _ => none))))))]) (va_runIN (As := []) (rest := [.ref q16, .ref h0]) ⟨hx, hb, hml, hown, hts⟩ (c_X5_init l D c H.size q16) (kw_IN 0 hts (hN (RX11, 31, yX5_init) (List.mem_of_getElem? (i := 2) rfl)) wd_166 wd_86 wd_167 rfl rfl rfl (by decide +kernel) ⟨Nat.le_of_ble_eq_true rfl, Nat.le_of_ble_eq_true rfl⟩) (pre_S hPc hK hDc hN hO) rfl rfl hl.1 rfl (lv_room (Nat.le_of_ble_eq_true rfl)) dX11_init_40 ⟨Nat.le_of_ble_eq_true rfl, Nat.le_of_ble_eq_true rfl⟩) hP hD hS hA [10] [0, 1, 2, 3, 4, 5, 6, 7, 8, 9] rfl rfl (by decide) (by decide) (fun u18 H locs h19 hP hD hS => ?_)
  refine W.widen (k := 12) (n := 8550) (Nat.le_of_ble_eq_true rfl) (Nat.le_of_ble_eq_true rfl) ?_
  obtain ⟨q20, q21⟩ := u18
  have hP : va_P D vwCl [(h0, .inr (11, [.ref q1, .ref q7, .ref q15, .null, .null, .null, .null, .null, .null, .null, .int 0, .int 0, .int 0, .int 0, .int 0, .int 0])), (q1, .inr (8, [.ref q5, .ref q6, .int 0])), (q5, .inl (c 0, 500, .inl (fun _ => 0))), (q6, .inl (c 0, 500, .inl (fun _ => 0))), (q7, .inr (10, [.ref q11, .ref q12, .ref q13, .ref q14, .int 0, .int 100, .int 150])), (q11, .inl (c 0, 2400, .inl (fun _ => 0))), (q12, .inl (c 0, 1500, .inl (fun _ => 0))), (q13, .inl (c 0, 1500, .inl (fun _ => 0))), (q14, .inl (c 0, 1500, .inl (fun _ => 0))), (q15, .inl (c 4, 11, .inr (.inr (.inr (.inr (fun _ => none)))))), (q16, .inr (5, [.ref q20, .int 0, .int 0, .int 0, .ref q21, .int 0, .int 0, .int 0, .int 0])), (q20, .inl (c 0, 320, .inl (fun _ => 0))), (q21, .inl (c 0, 300, .inl (fun _ => 0)))] H := hP
  have hD : va_D A [(h0, .inr (11, [.ref q1, .ref q7, .ref q15, .null, .null, .null, .null, .null, .null, .null, .int 0, .int 0, .int 0, .int 0, .int 0, .int 0])), (q1, .inr (8, [.ref q5, .ref q6, .int 0])), (q5, .inl (c 0, 500, .inl (fun _ => 0))), (q6, .inl (c 0, 500, .inl (fun _ => 0))), (q7, .inr (10, [.ref q11, .ref q12, .ref q13, .ref q14, .int 0, .int 100, .int 150])), (q11, .inl (c 0, 2400, .inl (fun _ => 0))), (q12, .inl (c 0, 1500, .inl (fun _ => 0))), (q13, .inl (c 0, 1500, .inl (fun _ => 0))), (q14, .inl (c 0, 1500, .inl (fun _ => 0))), (q15, .inl (c 4, 11, .inr (.inr (.inr (.inr (fun _ => none)))))), (q16, .inr (5, [.ref q20, .int 0, .int 0, .int 0, .ref q21, .int 0, .int 0, .int 0, .int 0])), (q20, .inl (c 0, 320, .inl (fun _ => 0))), (q21, .inl (c 0, 300, .inl (fun _ => 0)))] := hD
  refine va_putF (D := D) (ci := 11) (v := .ref q16) (ty := (.object "PoolCoast$Reader")) (C := RX11) (T := TX11) (N := 16) hx hb hts inW_11 tyX11 tyX11_ok nmX11 hown hK hP hD hS 0 rfl rfl 3 (by decide) (hts _ wd_272) (fun _ h9 => h9) rfl hin rfl (by decide +kernel) rfl rfl (Nat.le_of_ble_eq_true rfl) dX11_init_43 (fun H locs hP hD hS => ?_)
  have hP : va_P D vwCl [(h0, .inr (11, [.ref q1, .ref q7, .ref q15, .ref q16, .null, .null, .null, .null, .null, .null, .int 0, .int 0, .int 0, .int 0, .int 0, .int 0])), (q1, .inr (8, [.ref q5, .ref q6, .int 0])), (q5, .inl (c 0, 500, .inl (fun _ => 0))), (q6, .inl (c 0, 500, .inl (fun _ => 0))), (q7, .inr (10, [.ref q11, .ref q12, .ref q13, .ref q14, .int 0, .int 100, .int 150])), (q11, .inl (c 0, 2400, .inl (fun _ => 0))), (q12, .inl (c 0, 1500, .inl (fun _ => 0))), (q13, .inl (c 0, 1500, .inl (fun _ => 0))), (q14, .inl (c 0, 1500, .inl (fun _ => 0))), (q15, .inl (c 4, 11, .inr (.inr (.inr (.inr (fun _ => none)))))), (q16, .inr (5, [.ref q20, .int 0, .int 0, .int 0, .ref q21, .int 0, .int 0, .int 0, .int 0])), (q20, .inl (c 0, 320, .inl (fun _ => 0))), (q21, .inl (c 0, 300, .inl (fun _ => 0)))] H := hP
  have hD : va_D A [(h0, .inr (11, [.ref q1, .ref q7, .ref q15, .ref q16, .null, .null, .null, .null, .null, .null, .int 0, .int 0, .int 0, .int 0, .int 0, .int 0])), (q1, .inr (8, [.ref q5, .ref q6, .int 0])), (q5, .inl (c 0, 500, .inl (fun _ => 0))), (q6, .inl (c 0, 500, .inl (fun _ => 0))), (q7, .inr (10, [.ref q11, .ref q12, .ref q13, .ref q14, .int 0, .int 100, .int 150])), (q11, .inl (c 0, 2400, .inl (fun _ => 0))), (q12, .inl (c 0, 1500, .inl (fun _ => 0))), (q13, .inl (c 0, 1500, .inl (fun _ => 0))), (q14, .inl (c 0, 1500, .inl (fun _ => 0))), (q15, .inl (c 4, 11, .inr (.inr (.inr (.inr (fun _ => none)))))), (q16, .inr (5, [.ref q20, .int 0, .int 0, .int 0, .ref q21, .int 0, .int 0, .int 0, .int 0])), (q20, .inl (c 0, 320, .inl (fun _ => 0))), (q21, .inl (c 0, 300, .inl (fun _ => 0)))] := hD
  refine lv_aload_n hx hb dX11_init_46 rfl (lv_at hl 0 rfl) ?_
  refine lv_bipush (v := 10) hx hb dX11_init_47 (by decide) ?_
  refine kz_newq (c := c) (C := RX6) (N' := 10) hx hb 5 rfl hown (hts _ wd_201) (hO _ (List.mem_of_getElem? (i := 1) rfl)) hK hP hD hS hA (by decide) (by decide) (Nat.le_of_ble_eq_true rfl) (Nat.le_of_ble_eq_true rfl) (Nat.le_of_ble_eq_true rfl) dX11_init_49 (fun q22 H hP hD hS => ?_)
  have hP : va_P D vwCl [(h0, .inr (11, [.ref q1, .ref q7, .ref q15, .ref q16, .null, .null, .null, .null, .null, .null, .int 0, .int 0, .int 0, .int 0, .int 0, .int 0])), (q1, .inr (8, [.ref q5, .ref q6, .int 0])), (q5, .inl (c 0, 500, .inl (fun _ => 0))), (q6, .inl (c 0, 500, .inl (fun _ => 0))), (q7, .inr (10, [.ref q11, .ref q12, .ref q13, .ref q14, .int 0, .int 100, .int 150])), (q11, .inl (c 0, 2400, .inl (fun _ => 0))), (q12, .inl (c 0, 1500, .inl (fun _ => 0))), (q13, .inl (c 0, 1500, .inl (fun _ => 0))), (q14, .inl (c 0, 1500, .inl (fun _ => 0))), (q15, .inl (c 4, 11, .inr (.inr (.inr (.inr (fun _ => none)))))), (q16, .inr (5, [.ref q20, .int 0, .int 0, .int 0, .ref q21, .int 0, .int 0, .int 0, .int 0])), (q20, .inl (c 0, 320, .inl (fun _ => 0))), (q21, .inl (c 0, 300, .inl (fun _ => 0))), (q22, .inl (c 5, 10, .inr (.inr (.inr (.inr (fun _ => none))))))] H := hP
  have hD : va_D A [(h0, .inr (11, [.ref q1, .ref q7, .ref q15, .ref q16, .null, .null, .null, .null, .null, .null, .int 0, .int 0, .int 0, .int 0, .int 0, .int 0])), (q1, .inr (8, [.ref q5, .ref q6, .int 0])), (q5, .inl (c 0, 500, .inl (fun _ => 0))), (q6, .inl (c 0, 500, .inl (fun _ => 0))), (q7, .inr (10, [.ref q11, .ref q12, .ref q13, .ref q14, .int 0, .int 100, .int 150])), (q11, .inl (c 0, 2400, .inl (fun _ => 0))), (q12, .inl (c 0, 1500, .inl (fun _ => 0))), (q13, .inl (c 0, 1500, .inl (fun _ => 0))), (q14, .inl (c 0, 1500, .inl (fun _ => 0))), (q15, .inl (c 4, 11, .inr (.inr (.inr (.inr (fun _ => none)))))), (q16, .inr (5, [.ref q20, .int 0, .int 0, .int 0, .ref q21, .int 0, .int 0, .int 0, .int 0])), (q20, .inl (c 0, 320, .inl (fun _ => 0))), (q21, .inl (c 0, 300, .inl (fun _ => 0))), (q22, .inl (c 5, 10, .inr (.inr (.inr (.inr (fun _ => none))))))] := hD
  refine W.widen (k := 13) (n := 8560) (Nat.le_of_ble_eq_true rfl) (Nat.le_of_ble_eq_true rfl) ?_
  refine va_putF (D := D) (ci := 11) (v := .ref q22) (ty := (.array (.object "PoolCoast$Ruling"))) (C := RX11) (T := TX11) (N := 16) hx hb hts inW_11 tyX11 tyX11_ok nmX11 hown hK hP hD hS 0 rfl rfl 4 (by decide) (hts _ wd_273) (fun _ h9 => h9) rfl hin rfl (by decide +kernel) rfl rfl (Nat.le_of_ble_eq_true rfl) dX11_init_52 (fun H locs hP hD hS => ?_)
  have hP : va_P D vwCl [(h0, .inr (11, [.ref q1, .ref q7, .ref q15, .ref q16, .ref q22, .null, .null, .null, .null, .null, .int 0, .int 0, .int 0, .int 0, .int 0, .int 0])), (q1, .inr (8, [.ref q5, .ref q6, .int 0])), (q5, .inl (c 0, 500, .inl (fun _ => 0))), (q6, .inl (c 0, 500, .inl (fun _ => 0))), (q7, .inr (10, [.ref q11, .ref q12, .ref q13, .ref q14, .int 0, .int 100, .int 150])), (q11, .inl (c 0, 2400, .inl (fun _ => 0))), (q12, .inl (c 0, 1500, .inl (fun _ => 0))), (q13, .inl (c 0, 1500, .inl (fun _ => 0))), (q14, .inl (c 0, 1500, .inl (fun _ => 0))), (q15, .inl (c 4, 11, .inr (.inr (.inr (.inr (fun _ => none)))))), (q16, .inr (5, [.ref q20, .int 0, .int 0, .int 0, .ref q21, .int 0, .int 0, .int 0, .int 0])), (q20, .inl (c 0, 320, .inl (fun _ => 0))), (q21, .inl (c 0, 300, .inl (fun _ => 0))), (q22, .inl (c 5, 10, .inr (.inr (.inr (.inr (fun _ => none))))))] H := hP
  have hD : va_D A [(h0, .inr (11, [.ref q1, .ref q7, .ref q15, .ref q16, .ref q22, .null, .null, .null, .null, .null, .int 0, .int 0, .int 0, .int 0, .int 0, .int 0])), (q1, .inr (8, [.ref q5, .ref q6, .int 0])), (q5, .inl (c 0, 500, .inl (fun _ => 0))), (q6, .inl (c 0, 500, .inl (fun _ => 0))), (q7, .inr (10, [.ref q11, .ref q12, .ref q13, .ref q14, .int 0, .int 100, .int 150])), (q11, .inl (c 0, 2400, .inl (fun _ => 0))), (q12, .inl (c 0, 1500, .inl (fun _ => 0))), (q13, .inl (c 0, 1500, .inl (fun _ => 0))), (q14, .inl (c 0, 1500, .inl (fun _ => 0))), (q15, .inl (c 4, 11, .inr (.inr (.inr (.inr (fun _ => none)))))), (q16, .inr (5, [.ref q20, .int 0, .int 0, .int 0, .ref q21, .int 0, .int 0, .int 0, .int 0])), (q20, .inl (c 0, 320, .inl (fun _ => 0))), (q21, .inl (c 0, 300, .inl (fun _ => 0))), (q22, .inl (c 5, 10, .inr (.inr (.inr (.inr (fun _ => none))))))] := hD
  refine lv_aload_n hx hb dX11_init_55 rfl (lv_at hl 0 rfl) ?_
  refine va_new (ci := 7) (fs := nwX7) (C := RX7) (T := TX7) (N := 5) hx hb hts inW_7 tyX7 tyX7_ok hown (hts _ wd_203) (hts _ wd_204) (hts _ wd_87) hK hP hD hS hA rfl nwX7_ok (Nat.le_of_ble_eq_true rfl) (Nat.le_of_ble_eq_true rfl) dX11_init_56 (fun q23 H hP hD hS => ?_)
  have hP : va_P D vwCl [(h0, .inr (11, [.ref q1, .ref q7, .ref q15, .ref q16, .ref q22, .null, .null, .null, .null, .null, .int 0, .int 0, .int 0, .int 0, .int 0, .int 0])), (q1, .inr (8, [.ref q5, .ref q6, .int 0])), (q5, .inl (c 0, 500, .inl (fun _ => 0))), (q6, .inl (c 0, 500, .inl (fun _ => 0))), (q7, .inr (10, [.ref q11, .ref q12, .ref q13, .ref q14, .int 0, .int 100, .int 150])), (q11, .inl (c 0, 2400, .inl (fun _ => 0))), (q12, .inl (c 0, 1500, .inl (fun _ => 0))), (q13, .inl (c 0, 1500, .inl (fun _ => 0))), (q14, .inl (c 0, 1500, .inl (fun _ => 0))), (q15, .inl (c 4, 11, .inr (.inr (.inr (.inr (fun _ => none)))))), (q16, .inr (5, [.ref q20, .int 0, .int 0, .int 0, .ref q21, .int 0, .int 0, .int 0, .int 0])), (q20, .inl (c 0, 320, .inl (fun _ => 0))), (q21, .inl (c 0, 300, .inl (fun _ => 0))), (q22, .inl (c 5, 10, .inr (.inr (.inr (.inr (fun _ => none)))))), (q23, .inr (7, nwX7))] H := hP
  have hD : va_D A [(h0, .inr (11, [.ref q1, .ref q7, .ref q15, .ref q16, .ref q22, .null, .null, .null, .null, .null, .int 0, .int 0, .int 0, .int 0, .int 0, .int 0])), (q1, .inr (8, [.ref q5, .ref q6, .int 0])), (q5, .inl (c 0, 500, .inl (fun _ => 0))), (q6, .inl (c 0, 500, .inl (fun _ => 0))), (q7, .inr (10, [.ref q11, .ref q12, .ref q13, .ref q14, .int 0, .int 100, .int 150])), (q11, .inl (c 0, 2400, .inl (fun _ => 0))), (q12, .inl (c 0, 1500, .inl (fun _ => 0))), (q13, .inl (c 0, 1500, .inl (fun _ => 0))), (q14, .inl (c 0, 1500, .inl (fun _ => 0))), (q15, .inl (c 4, 11, .inr (.inr (.inr (.inr (fun _ => none)))))), (q16, .inr (5, [.ref q20, .int 0, .int 0, .int 0, .ref q21, .int 0, .int 0, .int 0, .int 0])), (q20, .inl (c 0, 320, .inl (fun _ => 0))), (q21, .inl (c 0, 300, .inl (fun _ => 0))), (q22, .inl (c 5, 10, .inr (.inr (.inr (.inr (fun _ => none)))))), (q23, .inr (7, nwX7))] := hD
  refine W.widen (k := 14) (n := 8565) (Nat.le_of_ble_eq_true rfl) (Nat.le_of_ble_eq_true rfl) ?_
  refine lv_dup hx hb dX11_init_59 rfl ?_
  have hPc := hP.sub (ws' := [(q23, .inr (7, nwX7))]) [14] rfl
  have hDc := hD.sub (ws' := [(q23, .inr (7, nwX7))]) [14] (by decide) rfl
  refine cl_v (wr := [(h0, .inr (11, [.ref q1, .ref q7, .ref q15, .ref q16, .ref q22, .null, .null, .null, .null, .null, .int 0, .int 0, .int 0, .int 0, .int 0, .int 0])), (q1, .inr (8, [.ref q5, .ref q6, .int 0])), (q5, .inl (c 0, 500, .inl (fun _ => 0))), (q6, .inl (c 0, 500, .inl (fun _ => 0))), (q7, .inr (10, [.ref q11, .ref q12, .ref q13, .ref q14, .int 0, .int 100, .int 150])), (q11, .inl (c 0, 2400, .inl (fun _ => 0))), (q12, .inl (c 0, 1500, .inl (fun _ => 0))), (q13, .inl (c 0, 1500, .inl (fun _ => 0))), (q14, .inl (c 0, 1500, .inl (fun _ => 0))), (q15, .inl (c 4, 11, .inr (.inr (.inr (.inr (fun _ => none)))))), (q16, .inr (5, [.ref q20, .int 0, .int 0, .int 0, .ref q21, .int 0, .int 0, .int 0, .int 0])), (q20, .inl (c 0, 320, .inl (fun _ => 0))), (q21, .inl (c 0, 300, .inl (fun _ => 0))), (q22, .inl (c 5, 10, .inr (.inr (.inr (.inr (fun _ => none))))))]) (va_runIN (As := []) (rest := [.ref q23, .ref h0]) ⟨hx, hb, hml, hown, hts⟩ (c_X7_init l D c H.size q23) (kw_IN 0 hts (hN (RX11, 44, yX7_init) (List.mem_of_getElem? (i := 3) rfl)) wd_206 wd_87 wd_207 rfl rfl rfl (by decide +kernel) ⟨Nat.le_of_ble_eq_true rfl, Nat.le_of_ble_eq_true rfl⟩) (pre_S hPc hK hDc hN hO) rfl rfl hl.1 rfl (lv_room (Nat.le_of_ble_eq_true rfl)) dX11_init_60 ⟨Nat.le_of_ble_eq_true rfl, Nat.le_of_ble_eq_true rfl⟩) hP hD hS hA [14] [0, 1, 2, 3, 4, 5, 6, 7, 8, 9, 10, 11, 12, 13] rfl rfl (by decide) (by decide) (fun u25 H locs h26 hP hD hS => ?_)
  refine W.widen (k := 18) (n := 10565) (Nat.le_of_ble_eq_true rfl) (Nat.le_of_ble_eq_true rfl) ?_
  obtain ⟨q27, q28, q29, q30⟩ := u25
  have hP : va_P D vwCl [(h0, .inr (11, [.ref q1, .ref q7, .ref q15, .ref q16, .ref q22, .null, .null, .null, .null, .null, .int 0, .int 0, .int 0, .int 0, .int 0, .int 0])), (q1, .inr (8, [.ref q5, .ref q6, .int 0])), (q5, .inl (c 0, 500, .inl (fun _ => 0))), (q6, .inl (c 0, 500, .inl (fun _ => 0))), (q7, .inr (10, [.ref q11, .ref q12, .ref q13, .ref q14, .int 0, .int 100, .int 150])), (q11, .inl (c 0, 2400, .inl (fun _ => 0))), (q12, .inl (c 0, 1500, .inl (fun _ => 0))), (q13, .inl (c 0, 1500, .inl (fun _ => 0))), (q14, .inl (c 0, 1500, .inl (fun _ => 0))), (q15, .inl (c 4, 11, .inr (.inr (.inr (.inr (fun _ => none)))))), (q16, .inr (5, [.ref q20, .int 0, .int 0, .int 0, .ref q21, .int 0, .int 0, .int 0, .int 0])), (q20, .inl (c 0, 320, .inl (fun _ => 0))), (q21, .inl (c 0, 300, .inl (fun _ => 0))), (q22, .inl (c 5, 10, .inr (.inr (.inr (.inr (fun _ => none)))))), (q23, .inr (7, [.ref q27, .ref q28, .ref q29, .ref q30, .int 0])), (q27, .inl (c 0, 500, .inl (fun _ => 0))), (q28, .inl (c 0, 500, .inl (fun _ => 0))), (q29, .inl (c 0, 500, .inl (fun _ => 0))), (q30, .inl (c 0, 500, .inl (fun _ => 0)))] H := hP
  have hD : va_D A [(h0, .inr (11, [.ref q1, .ref q7, .ref q15, .ref q16, .ref q22, .null, .null, .null, .null, .null, .int 0, .int 0, .int 0, .int 0, .int 0, .int 0])), (q1, .inr (8, [.ref q5, .ref q6, .int 0])), (q5, .inl (c 0, 500, .inl (fun _ => 0))), (q6, .inl (c 0, 500, .inl (fun _ => 0))), (q7, .inr (10, [.ref q11, .ref q12, .ref q13, .ref q14, .int 0, .int 100, .int 150])), (q11, .inl (c 0, 2400, .inl (fun _ => 0))), (q12, .inl (c 0, 1500, .inl (fun _ => 0))), (q13, .inl (c 0, 1500, .inl (fun _ => 0))), (q14, .inl (c 0, 1500, .inl (fun _ => 0))), (q15, .inl (c 4, 11, .inr (.inr (.inr (.inr (fun _ => none)))))), (q16, .inr (5, [.ref q20, .int 0, .int 0, .int 0, .ref q21, .int 0, .int 0, .int 0, .int 0])), (q20, .inl (c 0, 320, .inl (fun _ => 0))), (q21, .inl (c 0, 300, .inl (fun _ => 0))), (q22, .inl (c 5, 10, .inr (.inr (.inr (.inr (fun _ => none)))))), (q23, .inr (7, [.ref q27, .ref q28, .ref q29, .ref q30, .int 0])), (q27, .inl (c 0, 500, .inl (fun _ => 0))), (q28, .inl (c 0, 500, .inl (fun _ => 0))), (q29, .inl (c 0, 500, .inl (fun _ => 0))), (q30, .inl (c 0, 500, .inl (fun _ => 0)))] := hD
  refine va_putF (D := D) (ci := 11) (v := .ref q23) (ty := (.object "PoolCoast$Samples")) (C := RX11) (T := TX11) (N := 16) hx hb hts inW_11 tyX11 tyX11_ok nmX11 hown hK hP hD hS 0 rfl rfl 5 (by decide) (hts _ wd_274) (fun _ h9 => h9) rfl hin rfl (by decide +kernel) rfl rfl (Nat.le_of_ble_eq_true rfl) dX11_init_63 (fun H locs hP hD hS => ?_)
  have hP : va_P D vwCl [(h0, .inr (11, [.ref q1, .ref q7, .ref q15, .ref q16, .ref q22, .ref q23, .null, .null, .null, .null, .int 0, .int 0, .int 0, .int 0, .int 0, .int 0])), (q1, .inr (8, [.ref q5, .ref q6, .int 0])), (q5, .inl (c 0, 500, .inl (fun _ => 0))), (q6, .inl (c 0, 500, .inl (fun _ => 0))), (q7, .inr (10, [.ref q11, .ref q12, .ref q13, .ref q14, .int 0, .int 100, .int 150])), (q11, .inl (c 0, 2400, .inl (fun _ => 0))), (q12, .inl (c 0, 1500, .inl (fun _ => 0))), (q13, .inl (c 0, 1500, .inl (fun _ => 0))), (q14, .inl (c 0, 1500, .inl (fun _ => 0))), (q15, .inl (c 4, 11, .inr (.inr (.inr (.inr (fun _ => none)))))), (q16, .inr (5, [.ref q20, .int 0, .int 0, .int 0, .ref q21, .int 0, .int 0, .int 0, .int 0])), (q20, .inl (c 0, 320, .inl (fun _ => 0))), (q21, .inl (c 0, 300, .inl (fun _ => 0))), (q22, .inl (c 5, 10, .inr (.inr (.inr (.inr (fun _ => none)))))), (q23, .inr (7, [.ref q27, .ref q28, .ref q29, .ref q30, .int 0])), (q27, .inl (c 0, 500, .inl (fun _ => 0))), (q28, .inl (c 0, 500, .inl (fun _ => 0))), (q29, .inl (c 0, 500, .inl (fun _ => 0))), (q30, .inl (c 0, 500, .inl (fun _ => 0)))] H := hP
  have hD : va_D A [(h0, .inr (11, [.ref q1, .ref q7, .ref q15, .ref q16, .ref q22, .ref q23, .null, .null, .null, .null, .int 0, .int 0, .int 0, .int 0, .int 0, .int 0])), (q1, .inr (8, [.ref q5, .ref q6, .int 0])), (q5, .inl (c 0, 500, .inl (fun _ => 0))), (q6, .inl (c 0, 500, .inl (fun _ => 0))), (q7, .inr (10, [.ref q11, .ref q12, .ref q13, .ref q14, .int 0, .int 100, .int 150])), (q11, .inl (c 0, 2400, .inl (fun _ => 0))), (q12, .inl (c 0, 1500, .inl (fun _ => 0))), (q13, .inl (c 0, 1500, .inl (fun _ => 0))), (q14, .inl (c 0, 1500, .inl (fun _ => 0))), (q15, .inl (c 4, 11, .inr (.inr (.inr (.inr (fun _ => none)))))), (q16, .inr (5, [.ref q20, .int 0, .int 0, .int 0, .ref q21, .int 0, .int 0, .int 0, .int 0])), (q20, .inl (c 0, 320, .inl (fun _ => 0))), (q21, .inl (c 0, 300, .inl (fun _ => 0))), (q22, .inl (c 5, 10, .inr (.inr (.inr (.inr (fun _ => none)))))), (q23, .inr (7, [.ref q27, .ref q28, .ref q29, .ref q30, .int 0])), (q27, .inl (c 0, 500, .inl (fun _ => 0))), (q28, .inl (c 0, 500, .inl (fun _ => 0))), (q29, .inl (c 0, 500, .inl (fun _ => 0))), (q30, .inl (c 0, 500, .inl (fun _ => 0)))] := hD
  refine lv_aload_n hx hb dX11_init_66 rfl (lv_at hl 0 rfl) ?_
  refine lv_bipush (v := 10) hx hb dX11_init_67 (by decide) ?_
  refine kz_newq (c := c) (C := RX2) (N' := 10) hx hb 6 rfl hown (hts _ wd_226) (hO _ (List.mem_of_getElem? (i := 2) rfl)) hK hP hD hS hA (by decide) (by decide) (Nat.le_of_ble_eq_true rfl) (Nat.le_of_ble_eq_true rfl) (Nat.le_of_ble_eq_true rfl) dX11_init_69 (fun q31 H hP hD hS => ?_)
  have hP : va_P D vwCl [(h0, .inr (11, [.ref q1, .ref q7, .ref q15, .ref q16, .ref q22, .ref q23, .null, .null, .null, .null, .int 0, .int 0, .int 0, .int 0, .int 0, .int 0])), (q1, .inr (8, [.ref q5, .ref q6, .int 0])), (q5, .inl (c 0, 500, .inl (fun _ => 0))), (q6, .inl (c 0, 500, .inl (fun _ => 0))), (q7, .inr (10, [.ref q11, .ref q12, .ref q13, .ref q14, .int 0, .int 100, .int 150])), (q11, .inl (c 0, 2400, .inl (fun _ => 0))), (q12, .inl (c 0, 1500, .inl (fun _ => 0))), (q13, .inl (c 0, 1500, .inl (fun _ => 0))), (q14, .inl (c 0, 1500, .inl (fun _ => 0))), (q15, .inl (c 4, 11, .inr (.inr (.inr (.inr (fun _ => none)))))), (q16, .inr (5, [.ref q20, .int 0, .int 0, .int 0, .ref q21, .int 0, .int 0, .int 0, .int 0])), (q20, .inl (c 0, 320, .inl (fun _ => 0))), (q21, .inl (c 0, 300, .inl (fun _ => 0))), (q22, .inl (c 5, 10, .inr (.inr (.inr (.inr (fun _ => none)))))), (q23, .inr (7, [.ref q27, .ref q28, .ref q29, .ref q30, .int 0])), (q27, .inl (c 0, 500, .inl (fun _ => 0))), (q28, .inl (c 0, 500, .inl (fun _ => 0))), (q29, .inl (c 0, 500, .inl (fun _ => 0))), (q30, .inl (c 0, 500, .inl (fun _ => 0))), (q31, .inl (c 6, 10, .inr (.inr (.inr (.inr (fun _ => none))))))] H := hP
  have hD : va_D A [(h0, .inr (11, [.ref q1, .ref q7, .ref q15, .ref q16, .ref q22, .ref q23, .null, .null, .null, .null, .int 0, .int 0, .int 0, .int 0, .int 0, .int 0])), (q1, .inr (8, [.ref q5, .ref q6, .int 0])), (q5, .inl (c 0, 500, .inl (fun _ => 0))), (q6, .inl (c 0, 500, .inl (fun _ => 0))), (q7, .inr (10, [.ref q11, .ref q12, .ref q13, .ref q14, .int 0, .int 100, .int 150])), (q11, .inl (c 0, 2400, .inl (fun _ => 0))), (q12, .inl (c 0, 1500, .inl (fun _ => 0))), (q13, .inl (c 0, 1500, .inl (fun _ => 0))), (q14, .inl (c 0, 1500, .inl (fun _ => 0))), (q15, .inl (c 4, 11, .inr (.inr (.inr (.inr (fun _ => none)))))), (q16, .inr (5, [.ref q20, .int 0, .int 0, .int 0, .ref q21, .int 0, .int 0, .int 0, .int 0])), (q20, .inl (c 0, 320, .inl (fun _ => 0))), (q21, .inl (c 0, 300, .inl (fun _ => 0))), (q22, .inl (c 5, 10, .inr (.inr (.inr (.inr (fun _ => none)))))), (q23, .inr (7, [.ref q27, .ref q28, .ref q29, .ref q30, .int 0])), (q27, .inl (c 0, 500, .inl (fun _ => 0))), (q28, .inl (c 0, 500, .inl (fun _ => 0))), (q29, .inl (c 0, 500, .inl (fun _ => 0))), (q30, .inl (c 0, 500, .inl (fun _ => 0))), (q31, .inl (c 6, 10, .inr (.inr (.inr (.inr (fun _ => none))))))] := hD
  refine W.widen (k := 19) (n := 10575) (Nat.le_of_ble_eq_true rfl) (Nat.le_of_ble_eq_true rfl) ?_
  refine va_putF (D := D) (ci := 11) (v := .ref q31) (ty := (.array (.object "PoolCoast$Lease"))) (C := RX11) (T := TX11) (N := 16) hx hb hts inW_11 tyX11 tyX11_ok nmX11 hown hK hP hD hS 0 rfl rfl 6 (by decide) (hts _ wd_275) (fun _ h9 => h9) rfl hin rfl (by decide +kernel) rfl rfl (Nat.le_of_ble_eq_true rfl) dX11_init_72 (fun H locs hP hD hS => ?_)
  have hP : va_P D vwCl [(h0, .inr (11, [.ref q1, .ref q7, .ref q15, .ref q16, .ref q22, .ref q23, .ref q31, .null, .null, .null, .int 0, .int 0, .int 0, .int 0, .int 0, .int 0])), (q1, .inr (8, [.ref q5, .ref q6, .int 0])), (q5, .inl (c 0, 500, .inl (fun _ => 0))), (q6, .inl (c 0, 500, .inl (fun _ => 0))), (q7, .inr (10, [.ref q11, .ref q12, .ref q13, .ref q14, .int 0, .int 100, .int 150])), (q11, .inl (c 0, 2400, .inl (fun _ => 0))), (q12, .inl (c 0, 1500, .inl (fun _ => 0))), (q13, .inl (c 0, 1500, .inl (fun _ => 0))), (q14, .inl (c 0, 1500, .inl (fun _ => 0))), (q15, .inl (c 4, 11, .inr (.inr (.inr (.inr (fun _ => none)))))), (q16, .inr (5, [.ref q20, .int 0, .int 0, .int 0, .ref q21, .int 0, .int 0, .int 0, .int 0])), (q20, .inl (c 0, 320, .inl (fun _ => 0))), (q21, .inl (c 0, 300, .inl (fun _ => 0))), (q22, .inl (c 5, 10, .inr (.inr (.inr (.inr (fun _ => none)))))), (q23, .inr (7, [.ref q27, .ref q28, .ref q29, .ref q30, .int 0])), (q27, .inl (c 0, 500, .inl (fun _ => 0))), (q28, .inl (c 0, 500, .inl (fun _ => 0))), (q29, .inl (c 0, 500, .inl (fun _ => 0))), (q30, .inl (c 0, 500, .inl (fun _ => 0))), (q31, .inl (c 6, 10, .inr (.inr (.inr (.inr (fun _ => none))))))] H := hP
  have hD : va_D A [(h0, .inr (11, [.ref q1, .ref q7, .ref q15, .ref q16, .ref q22, .ref q23, .ref q31, .null, .null, .null, .int 0, .int 0, .int 0, .int 0, .int 0, .int 0])), (q1, .inr (8, [.ref q5, .ref q6, .int 0])), (q5, .inl (c 0, 500, .inl (fun _ => 0))), (q6, .inl (c 0, 500, .inl (fun _ => 0))), (q7, .inr (10, [.ref q11, .ref q12, .ref q13, .ref q14, .int 0, .int 100, .int 150])), (q11, .inl (c 0, 2400, .inl (fun _ => 0))), (q12, .inl (c 0, 1500, .inl (fun _ => 0))), (q13, .inl (c 0, 1500, .inl (fun _ => 0))), (q14, .inl (c 0, 1500, .inl (fun _ => 0))), (q15, .inl (c 4, 11, .inr (.inr (.inr (.inr (fun _ => none)))))), (q16, .inr (5, [.ref q20, .int 0, .int 0, .int 0, .ref q21, .int 0, .int 0, .int 0, .int 0])), (q20, .inl (c 0, 320, .inl (fun _ => 0))), (q21, .inl (c 0, 300, .inl (fun _ => 0))), (q22, .inl (c 5, 10, .inr (.inr (.inr (.inr (fun _ => none)))))), (q23, .inr (7, [.ref q27, .ref q28, .ref q29, .ref q30, .int 0])), (q27, .inl (c 0, 500, .inl (fun _ => 0))), (q28, .inl (c 0, 500, .inl (fun _ => 0))), (q29, .inl (c 0, 500, .inl (fun _ => 0))), (q30, .inl (c 0, 500, .inl (fun _ => 0))), (q31, .inl (c 6, 10, .inr (.inr (.inr (.inr (fun _ => none))))))] := hD
  refine lv_aload_n hx hb dX11_init_75 rfl (lv_at hl 0 rfl) ?_
  refine va_new (ci := 3) (fs := nwX3) (C := RX3) (T := TX3) (N := 10) hx hb hts inW_3 tyX3 tyX3_ok hown (hts _ wd_228) (hts _ wd_229) (hts _ wd_88) hK hP hD hS hA rfl nwX3_ok (Nat.le_of_ble_eq_true rfl) (Nat.le_of_ble_eq_true rfl) dX11_init_76 (fun q32 H hP hD hS => ?_)
  have hP : va_P D vwCl [(h0, .inr (11, [.ref q1, .ref q7, .ref q15, .ref q16, .ref q22, .ref q23, .ref q31, .null, .null, .null, .int 0, .int 0, .int 0, .int 0, .int 0, .int 0])), (q1, .inr (8, [.ref q5, .ref q6, .int 0])), (q5, .inl (c 0, 500, .inl (fun _ => 0))), (q6, .inl (c 0, 500, .inl (fun _ => 0))), (q7, .inr (10, [.ref q11, .ref q12, .ref q13, .ref q14, .int 0, .int 100, .int 150])), (q11, .inl (c 0, 2400, .inl (fun _ => 0))), (q12, .inl (c 0, 1500, .inl (fun _ => 0))), (q13, .inl (c 0, 1500, .inl (fun _ => 0))), (q14, .inl (c 0, 1500, .inl (fun _ => 0))), (q15, .inl (c 4, 11, .inr (.inr (.inr (.inr (fun _ => none)))))), (q16, .inr (5, [.ref q20, .int 0, .int 0, .int 0, .ref q21, .int 0, .int 0, .int 0, .int 0])), (q20, .inl (c 0, 320, .inl (fun _ => 0))), (q21, .inl (c 0, 300, .inl (fun _ => 0))), (q22, .inl (c 5, 10, .inr (.inr (.inr (.inr (fun _ => none)))))), (q23, .inr (7, [.ref q27, .ref q28, .ref q29, .ref q30, .int 0])), (q27, .inl (c 0, 500, .inl (fun _ => 0))), (q28, .inl (c 0, 500, .inl (fun _ => 0))), (q29, .inl (c 0, 500, .inl (fun _ => 0))), (q30, .inl (c 0, 500, .inl (fun _ => 0))), (q31, .inl (c 6, 10, .inr (.inr (.inr (.inr (fun _ => none)))))), (q32, .inr (3, nwX3))] H := hP
  have hD : va_D A [(h0, .inr (11, [.ref q1, .ref q7, .ref q15, .ref q16, .ref q22, .ref q23, .ref q31, .null, .null, .null, .int 0, .int 0, .int 0, .int 0, .int 0, .int 0])), (q1, .inr (8, [.ref q5, .ref q6, .int 0])), (q5, .inl (c 0, 500, .inl (fun _ => 0))), (q6, .inl (c 0, 500, .inl (fun _ => 0))), (q7, .inr (10, [.ref q11, .ref q12, .ref q13, .ref q14, .int 0, .int 100, .int 150])), (q11, .inl (c 0, 2400, .inl (fun _ => 0))), (q12, .inl (c 0, 1500, .inl (fun _ => 0))), (q13, .inl (c 0, 1500, .inl (fun _ => 0))), (q14, .inl (c 0, 1500, .inl (fun _ => 0))), (q15, .inl (c 4, 11, .inr (.inr (.inr (.inr (fun _ => none)))))), (q16, .inr (5, [.ref q20, .int 0, .int 0, .int 0, .ref q21, .int 0, .int 0, .int 0, .int 0])), (q20, .inl (c 0, 320, .inl (fun _ => 0))), (q21, .inl (c 0, 300, .inl (fun _ => 0))), (q22, .inl (c 5, 10, .inr (.inr (.inr (.inr (fun _ => none)))))), (q23, .inr (7, [.ref q27, .ref q28, .ref q29, .ref q30, .int 0])), (q27, .inl (c 0, 500, .inl (fun _ => 0))), (q28, .inl (c 0, 500, .inl (fun _ => 0))), (q29, .inl (c 0, 500, .inl (fun _ => 0))), (q30, .inl (c 0, 500, .inl (fun _ => 0))), (q31, .inl (c 6, 10, .inr (.inr (.inr (.inr (fun _ => none)))))), (q32, .inr (3, nwX3))] := hD
  refine W.widen (k := 20) (n := 10585) (Nat.le_of_ble_eq_true rfl) (Nat.le_of_ble_eq_true rfl) ?_
  refine lv_dup hx hb dX11_init_79 rfl ?_
  have hPc := hP.sub (ws' := [(q32, .inr (3, nwX3))]) [20] rfl
  have hDc := hD.sub (ws' := [(q32, .inr (3, nwX3))]) [20] (by decide) rfl
  refine cl_v (wr := [(h0, .inr (11, [.ref q1, .ref q7, .ref q15, .ref q16, .ref q22, .ref q23, .ref q31, .null, .null, .null, .int 0, .int 0, .int 0, .int 0, .int 0, .int 0])), (q1, .inr (8, [.ref q5, .ref q6, .int 0])), (q5, .inl (c 0, 500, .inl (fun _ => 0))), (q6, .inl (c 0, 500, .inl (fun _ => 0))), (q7, .inr (10, [.ref q11, .ref q12, .ref q13, .ref q14, .int 0, .int 100, .int 150])), (q11, .inl (c 0, 2400, .inl (fun _ => 0))), (q12, .inl (c 0, 1500, .inl (fun _ => 0))), (q13, .inl (c 0, 1500, .inl (fun _ => 0))), (q14, .inl (c 0, 1500, .inl (fun _ => 0))), (q15, .inl (c 4, 11, .inr (.inr (.inr (.inr (fun _ => none)))))), (q16, .inr (5, [.ref q20, .int 0, .int 0, .int 0, .ref q21, .int 0, .int 0, .int 0, .int 0])), (q20, .inl (c 0, 320, .inl (fun _ => 0))), (q21, .inl (c 0, 300, .inl (fun _ => 0))), (q22, .inl (c 5, 10, .inr (.inr (.inr (.inr (fun _ => none)))))), (q23, .inr (7, [.ref q27, .ref q28, .ref q29, .ref q30, .int 0])), (q27, .inl (c 0, 500, .inl (fun _ => 0))), (q28, .inl (c 0, 500, .inl (fun _ => 0))), (q29, .inl (c 0, 500, .inl (fun _ => 0))), (q30, .inl (c 0, 500, .inl (fun _ => 0))), (q31, .inl (c 6, 10, .inr (.inr (.inr (.inr (fun _ => none))))))]) (va_runI (As := []) (rest := [.ref q32, .ref h0]) ⟨hx, hb, hml, hown, hts⟩ (c_X3_init l D c H.size q32) (kw_I 0 hts wd_230 wd_231 wd_88 wd_232 rfl rfl rfl (by decide +kernel) ⟨Nat.le_of_ble_eq_true rfl, Nat.le_of_ble_eq_true rfl⟩) (pre_S hPc hK hDc hN hO) rfl rfl hl.1 rfl (lv_room (Nat.le_of_ble_eq_true rfl)) dX11_init_80 ⟨Nat.le_of_ble_eq_true rfl, Nat.le_of_ble_eq_true rfl⟩) hP hD hS hA [20] [0, 1, 2, 3, 4, 5, 6, 7, 8, 9, 10, 11, 12, 13, 14, 15, 16, 17, 18, 19] rfl rfl (by decide) (by decide) (fun u34 H locs h35 hP hD hS => ?_)
  refine W.widen (k := 26) (n := 10643) (Nat.le_of_ble_eq_true rfl) (Nat.le_of_ble_eq_true rfl) ?_
  have hP : va_P D vwCl [(h0, .inr (11, [.ref q1, .ref q7, .ref q15, .ref q16, .ref q22, .ref q23, .ref q31, .null, .null, .null, .int 0, .int 0, .int 0, .int 0, .int 0, .int 0])), (q1, .inr (8, [.ref q5, .ref q6, .int 0])), (q5, .inl (c 0, 500, .inl (fun _ => 0))), (q6, .inl (c 0, 500, .inl (fun _ => 0))), (q7, .inr (10, [.ref q11, .ref q12, .ref q13, .ref q14, .int 0, .int 100, .int 150])), (q11, .inl (c 0, 2400, .inl (fun _ => 0))), (q12, .inl (c 0, 1500, .inl (fun _ => 0))), (q13, .inl (c 0, 1500, .inl (fun _ => 0))), (q14, .inl (c 0, 1500, .inl (fun _ => 0))), (q15, .inl (c 4, 11, .inr (.inr (.inr (.inr (fun _ => none)))))), (q16, .inr (5, [.ref q20, .int 0, .int 0, .int 0, .ref q21, .int 0, .int 0, .int 0, .int 0])), (q20, .inl (c 0, 320, .inl (fun _ => 0))), (q21, .inl (c 0, 300, .inl (fun _ => 0))), (q22, .inl (c 5, 10, .inr (.inr (.inr (.inr (fun _ => none)))))), (q23, .inr (7, [.ref q27, .ref q28, .ref q29, .ref q30, .int 0])), (q27, .inl (c 0, 500, .inl (fun _ => 0))), (q28, .inl (c 0, 500, .inl (fun _ => 0))), (q29, .inl (c 0, 500, .inl (fun _ => 0))), (q30, .inl (c 0, 500, .inl (fun _ => 0))), (q31, .inl (c 6, 10, .inr (.inr (.inr (.inr (fun _ => none))))))] H := hP
  have hD : va_D A [(h0, .inr (11, [.ref q1, .ref q7, .ref q15, .ref q16, .ref q22, .ref q23, .ref q31, .null, .null, .null, .int 0, .int 0, .int 0, .int 0, .int 0, .int 0])), (q1, .inr (8, [.ref q5, .ref q6, .int 0])), (q5, .inl (c 0, 500, .inl (fun _ => 0))), (q6, .inl (c 0, 500, .inl (fun _ => 0))), (q7, .inr (10, [.ref q11, .ref q12, .ref q13, .ref q14, .int 0, .int 100, .int 150])), (q11, .inl (c 0, 2400, .inl (fun _ => 0))), (q12, .inl (c 0, 1500, .inl (fun _ => 0))), (q13, .inl (c 0, 1500, .inl (fun _ => 0))), (q14, .inl (c 0, 1500, .inl (fun _ => 0))), (q15, .inl (c 4, 11, .inr (.inr (.inr (.inr (fun _ => none)))))), (q16, .inr (5, [.ref q20, .int 0, .int 0, .int 0, .ref q21, .int 0, .int 0, .int 0, .int 0])), (q20, .inl (c 0, 320, .inl (fun _ => 0))), (q21, .inl (c 0, 300, .inl (fun _ => 0))), (q22, .inl (c 5, 10, .inr (.inr (.inr (.inr (fun _ => none)))))), (q23, .inr (7, [.ref q27, .ref q28, .ref q29, .ref q30, .int 0])), (q27, .inl (c 0, 500, .inl (fun _ => 0))), (q28, .inl (c 0, 500, .inl (fun _ => 0))), (q29, .inl (c 0, 500, .inl (fun _ => 0))), (q30, .inl (c 0, 500, .inl (fun _ => 0))), (q31, .inl (c 6, 10, .inr (.inr (.inr (.inr (fun _ => none))))))] := hD
  refine va_putF (D := D) (ci := 11) (v := .ref q32) (ty := (.object "PoolCoast$Planner")) (C := RX11) (T := TX11) (N := 16) hx hb hts inW_11 tyX11 tyX11_ok nmX11 hown hK hP hD hS 0 rfl rfl 7 (by decide) (hts _ wd_276) (fun _ h9 => h9) rfl hin rfl (by decide +kernel) rfl rfl (Nat.le_of_ble_eq_true rfl) dX11_init_83 (fun H locs hP hD hS => ?_)
  have hP : va_P D vwCl [(h0, .inr (11, [.ref q1, .ref q7, .ref q15, .ref q16, .ref q22, .ref q23, .ref q31, .ref q32, .null, .null, .int 0, .int 0, .int 0, .int 0, .int 0, .int 0])), (q1, .inr (8, [.ref q5, .ref q6, .int 0])), (q5, .inl (c 0, 500, .inl (fun _ => 0))), (q6, .inl (c 0, 500, .inl (fun _ => 0))), (q7, .inr (10, [.ref q11, .ref q12, .ref q13, .ref q14, .int 0, .int 100, .int 150])), (q11, .inl (c 0, 2400, .inl (fun _ => 0))), (q12, .inl (c 0, 1500, .inl (fun _ => 0))), (q13, .inl (c 0, 1500, .inl (fun _ => 0))), (q14, .inl (c 0, 1500, .inl (fun _ => 0))), (q15, .inl (c 4, 11, .inr (.inr (.inr (.inr (fun _ => none)))))), (q16, .inr (5, [.ref q20, .int 0, .int 0, .int 0, .ref q21, .int 0, .int 0, .int 0, .int 0])), (q20, .inl (c 0, 320, .inl (fun _ => 0))), (q21, .inl (c 0, 300, .inl (fun _ => 0))), (q22, .inl (c 5, 10, .inr (.inr (.inr (.inr (fun _ => none)))))), (q23, .inr (7, [.ref q27, .ref q28, .ref q29, .ref q30, .int 0])), (q27, .inl (c 0, 500, .inl (fun _ => 0))), (q28, .inl (c 0, 500, .inl (fun _ => 0))), (q29, .inl (c 0, 500, .inl (fun _ => 0))), (q30, .inl (c 0, 500, .inl (fun _ => 0))), (q31, .inl (c 6, 10, .inr (.inr (.inr (.inr (fun _ => none))))))] H := hP
  have hD : va_D A [(h0, .inr (11, [.ref q1, .ref q7, .ref q15, .ref q16, .ref q22, .ref q23, .ref q31, .ref q32, .null, .null, .int 0, .int 0, .int 0, .int 0, .int 0, .int 0])), (q1, .inr (8, [.ref q5, .ref q6, .int 0])), (q5, .inl (c 0, 500, .inl (fun _ => 0))), (q6, .inl (c 0, 500, .inl (fun _ => 0))), (q7, .inr (10, [.ref q11, .ref q12, .ref q13, .ref q14, .int 0, .int 100, .int 150])), (q11, .inl (c 0, 2400, .inl (fun _ => 0))), (q12, .inl (c 0, 1500, .inl (fun _ => 0))), (q13, .inl (c 0, 1500, .inl (fun _ => 0))), (q14, .inl (c 0, 1500, .inl (fun _ => 0))), (q15, .inl (c 4, 11, .inr (.inr (.inr (.inr (fun _ => none)))))), (q16, .inr (5, [.ref q20, .int 0, .int 0, .int 0, .ref q21, .int 0, .int 0, .int 0, .int 0])), (q20, .inl (c 0, 320, .inl (fun _ => 0))), (q21, .inl (c 0, 300, .inl (fun _ => 0))), (q22, .inl (c 5, 10, .inr (.inr (.inr (.inr (fun _ => none)))))), (q23, .inr (7, [.ref q27, .ref q28, .ref q29, .ref q30, .int 0])), (q27, .inl (c 0, 500, .inl (fun _ => 0))), (q28, .inl (c 0, 500, .inl (fun _ => 0))), (q29, .inl (c 0, 500, .inl (fun _ => 0))), (q30, .inl (c 0, 500, .inl (fun _ => 0))), (q31, .inl (c 6, 10, .inr (.inr (.inr (.inr (fun _ => none))))))] := hD
  refine lv_aload_n hx hb dX11_init_86 rfl (lv_at hl 0 rfl) ?_
  refine lv_bipush (v := 8) hx hb dX11_init_87 (by decide) ?_
  refine kz_newa (c := c) (atype := .int) (a0 := (8, .inl (fun _ => 0))) hx hb 0 rfl (hts _ wd_129) rfl hK hP hD hS hA (fun _ => rfl) (by decide) (by decide) (Nat.le_of_ble_eq_true rfl) (Nat.le_of_ble_eq_true rfl) (Nat.le_of_ble_eq_true rfl) dX11_init_89 (fun q36 H hP hD hS => ?_)
  have hP : va_P D vwCl [(h0, .inr (11, [.ref q1, .ref q7, .ref q15, .ref q16, .ref q22, .ref q23, .ref q31, .ref q32, .null, .null, .int 0, .int 0, .int 0, .int 0, .int 0, .int 0])), (q1, .inr (8, [.ref q5, .ref q6, .int 0])), (q5, .inl (c 0, 500, .inl (fun _ => 0))), (q6, .inl (c 0, 500, .inl (fun _ => 0))), (q7, .inr (10, [.ref q11, .ref q12, .ref q13, .ref q14, .int 0, .int 100, .int 150])), (q11, .inl (c 0, 2400, .inl (fun _ => 0))), (q12, .inl (c 0, 1500, .inl (fun _ => 0))), (q13, .inl (c 0, 1500, .inl (fun _ => 0))), (q14, .inl (c 0, 1500, .inl (fun _ => 0))), (q15, .inl (c 4, 11, .inr (.inr (.inr (.inr (fun _ => none)))))), (q16, .inr (5, [.ref q20, .int 0, .int 0, .int 0, .ref q21, .int 0, .int 0, .int 0, .int 0])), (q20, .inl (c 0, 320, .inl (fun _ => 0))), (q21, .inl (c 0, 300, .inl (fun _ => 0))), (q22, .inl (c 5, 10, .inr (.inr (.inr (.inr (fun _ => none)))))), (q23, .inr (7, [.ref q27, .ref q28, .ref q29, .ref q30, .int 0])), (q27, .inl (c 0, 500, .inl (fun _ => 0))), (q28, .inl (c 0, 500, .inl (fun _ => 0))), (q29, .inl (c 0, 500, .inl (fun _ => 0))), (q30, .inl (c 0, 500, .inl (fun _ => 0))), (q31, .inl (c 6, 10, .inr (.inr (.inr (.inr (fun _ => none)))))), (q36, .inl (c 0, 8, .inl (fun _ => 0)))] H := hP
  have hD : va_D A [(h0, .inr (11, [.ref q1, .ref q7, .ref q15, .ref q16, .ref q22, .ref q23, .ref q31, .ref q32, .null, .null, .int 0, .int 0, .int 0, .int 0, .int 0, .int 0])), (q1, .inr (8, [.ref q5, .ref q6, .int 0])), (q5, .inl (c 0, 500, .inl (fun _ => 0))), (q6, .inl (c 0, 500, .inl (fun _ => 0))), (q7, .inr (10, [.ref q11, .ref q12, .ref q13, .ref q14, .int 0, .int 100, .int 150])), (q11, .inl (c 0, 2400, .inl (fun _ => 0))), (q12, .inl (c 0, 1500, .inl (fun _ => 0))), (q13, .inl (c 0, 1500, .inl (fun _ => 0))), (q14, .inl (c 0, 1500, .inl (fun _ => 0))), (q15, .inl (c 4, 11, .inr (.inr (.inr (.inr (fun _ => none)))))), (q16, .inr (5, [.ref q20, .int 0, .int 0, .int 0, .ref q21, .int 0, .int 0, .int 0, .int 0])), (q20, .inl (c 0, 320, .inl (fun _ => 0))), (q21, .inl (c 0, 300, .inl (fun _ => 0))), (q22, .inl (c 5, 10, .inr (.inr (.inr (.inr (fun _ => none)))))), (q23, .inr (7, [.ref q27, .ref q28, .ref q29, .ref q30, .int 0])), (q27, .inl (c 0, 500, .inl (fun _ => 0))), (q28, .inl (c 0, 500, .inl (fun _ => 0))), (q29, .inl (c 0, 500, .inl (fun _ => 0))), (q30, .inl (c 0, 500, .inl (fun _ => 0))), (q31, .inl (c 6, 10, .inr (.inr (.inr (.inr (fun _ => none)))))), (q36, .inl (c 0, 8, .inl (fun _ => 0)))] := hD
  refine W.widen (k := 27) (n := 10651) (Nat.le_of_ble_eq_true rfl) (Nat.le_of_ble_eq_true rfl) ?_
  refine va_putF (D := D) (ci := 11) (v := .ref q36) (ty := (.array .int)) (C := RX11) (T := TX11) (N := 16) hx hb hts inW_11 tyX11 tyX11_ok nmX11 hown hK hP hD hS 0 rfl rfl 8 (by decide) (hts _ wd_277) (fun _ h9 => h9) rfl hin rfl (by decide +kernel) rfl rfl (Nat.le_of_ble_eq_true rfl) dX11_init_91 (fun H locs hP hD hS => ?_)
  have hP : va_P D vwCl [(h0, .inr (11, [.ref q1, .ref q7, .ref q15, .ref q16, .ref q22, .ref q23, .ref q31, .ref q32, .ref q36, .null, .int 0, .int 0, .int 0, .int 0, .int 0, .int 0])), (q1, .inr (8, [.ref q5, .ref q6, .int 0])), (q5, .inl (c 0, 500, .inl (fun _ => 0))), (q6, .inl (c 0, 500, .inl (fun _ => 0))), (q7, .inr (10, [.ref q11, .ref q12, .ref q13, .ref q14, .int 0, .int 100, .int 150])), (q11, .inl (c 0, 2400, .inl (fun _ => 0))), (q12, .inl (c 0, 1500, .inl (fun _ => 0))), (q13, .inl (c 0, 1500, .inl (fun _ => 0))), (q14, .inl (c 0, 1500, .inl (fun _ => 0))), (q15, .inl (c 4, 11, .inr (.inr (.inr (.inr (fun _ => none)))))), (q16, .inr (5, [.ref q20, .int 0, .int 0, .int 0, .ref q21, .int 0, .int 0, .int 0, .int 0])), (q20, .inl (c 0, 320, .inl (fun _ => 0))), (q21, .inl (c 0, 300, .inl (fun _ => 0))), (q22, .inl (c 5, 10, .inr (.inr (.inr (.inr (fun _ => none)))))), (q23, .inr (7, [.ref q27, .ref q28, .ref q29, .ref q30, .int 0])), (q27, .inl (c 0, 500, .inl (fun _ => 0))), (q28, .inl (c 0, 500, .inl (fun _ => 0))), (q29, .inl (c 0, 500, .inl (fun _ => 0))), (q30, .inl (c 0, 500, .inl (fun _ => 0))), (q31, .inl (c 6, 10, .inr (.inr (.inr (.inr (fun _ => none)))))), (q36, .inl (c 0, 8, .inl (fun _ => 0)))] H := hP
  have hD : va_D A [(h0, .inr (11, [.ref q1, .ref q7, .ref q15, .ref q16, .ref q22, .ref q23, .ref q31, .ref q32, .ref q36, .null, .int 0, .int 0, .int 0, .int 0, .int 0, .int 0])), (q1, .inr (8, [.ref q5, .ref q6, .int 0])), (q5, .inl (c 0, 500, .inl (fun _ => 0))), (q6, .inl (c 0, 500, .inl (fun _ => 0))), (q7, .inr (10, [.ref q11, .ref q12, .ref q13, .ref q14, .int 0, .int 100, .int 150])), (q11, .inl (c 0, 2400, .inl (fun _ => 0))), (q12, .inl (c 0, 1500, .inl (fun _ => 0))), (q13, .inl (c 0, 1500, .inl (fun _ => 0))), (q14, .inl (c 0, 1500, .inl (fun _ => 0))), (q15, .inl (c 4, 11, .inr (.inr (.inr (.inr (fun _ => none)))))), (q16, .inr (5, [.ref q20, .int 0, .int 0, .int 0, .ref q21, .int 0, .int 0, .int 0, .int 0])), (q20, .inl (c 0, 320, .inl (fun _ => 0))), (q21, .inl (c 0, 300, .inl (fun _ => 0))), (q22, .inl (c 5, 10, .inr (.inr (.inr (.inr (fun _ => none)))))), (q23, .inr (7, [.ref q27, .ref q28, .ref q29, .ref q30, .int 0])), (q27, .inl (c 0, 500, .inl (fun _ => 0))), (q28, .inl (c 0, 500, .inl (fun _ => 0))), (q29, .inl (c 0, 500, .inl (fun _ => 0))), (q30, .inl (c 0, 500, .inl (fun _ => 0))), (q31, .inl (c 6, 10, .inr (.inr (.inr (.inr (fun _ => none)))))), (q36, .inl (c 0, 8, .inl (fun _ => 0)))] := hD
  refine lv_aload_n hx hb dX11_init_94 rfl (lv_at hl 0 rfl) ?_
  refine lv_bipush (v := 8) hx hb dX11_init_95 (by decide) ?_
  refine va_put (D := D) (ci := 11) (v := .int 8) (ty := .int) (C := RX11) (T := TX11) (N := 16) hx hb hts inW_11 tyX11 tyX11_ok nmX11 hown hK hP hD hS 0 rfl rfl 14 (by decide) (hts _ wd_283) (fun _ h9 => h9) rfl (by decide +kernel) rfl rfl (Nat.le_of_ble_eq_true rfl) dX11_init_97 (fun H locs hP hD hS => ?_)
  have hP : va_P D vwCl [(h0, .inr (11, [.ref q1, .ref q7, .ref q15, .ref q16, .ref q22, .ref q23, .ref q31, .ref q32, .ref q36, .null, .int 0, .int 0, .int 0, .int 0, .int 8, .int 0])), (q1, .inr (8, [.ref q5, .ref q6, .int 0])), (q5, .inl (c 0, 500, .inl (fun _ => 0))), (q6, .inl (c 0, 500, .inl (fun _ => 0))), (q7, .inr (10, [.ref q11, .ref q12, .ref q13, .ref q14, .int 0, .int 100, .int 150])), (q11, .inl (c 0, 2400, .inl (fun _ => 0))), (q12, .inl (c 0, 1500, .inl (fun _ => 0))), (q13, .inl (c 0, 1500, .inl (fun _ => 0))), (q14, .inl (c 0, 1500, .inl (fun _ => 0))), (q15, .inl (c 4, 11, .inr (.inr (.inr (.inr (fun _ => none)))))), (q16, .inr (5, [.ref q20, .int 0, .int 0, .int 0, .ref q21, .int 0, .int 0, .int 0, .int 0])), (q20, .inl (c 0, 320, .inl (fun _ => 0))), (q21, .inl (c 0, 300, .inl (fun _ => 0))), (q22, .inl (c 5, 10, .inr (.inr (.inr (.inr (fun _ => none)))))), (q23, .inr (7, [.ref q27, .ref q28, .ref q29, .ref q30, .int 0])), (q27, .inl (c 0, 500, .inl (fun _ => 0))), (q28, .inl (c 0, 500, .inl (fun _ => 0))), (q29, .inl (c 0, 500, .inl (fun _ => 0))), (q30, .inl (c 0, 500, .inl (fun _ => 0))), (q31, .inl (c 6, 10, .inr (.inr (.inr (.inr (fun _ => none)))))), (q36, .inl (c 0, 8, .inl (fun _ => 0)))] H := hP
  have hD : va_D A [(h0, .inr (11, [.ref q1, .ref q7, .ref q15, .ref q16, .ref q22, .ref q23, .ref q31, .ref q32, .ref q36, .null, .int 0, .int 0, .int 0, .int 0, .int 8, .int 0])), (q1, .inr (8, [.ref q5, .ref q6, .int 0])), (q5, .inl (c 0, 500, .inl (fun _ => 0))), (q6, .inl (c 0, 500, .inl (fun _ => 0))), (q7, .inr (10, [.ref q11, .ref q12, .ref q13, .ref q14, .int 0, .int 100, .int 150])), (q11, .inl (c 0, 2400, .inl (fun _ => 0))), (q12, .inl (c 0, 1500, .inl (fun _ => 0))), (q13, .inl (c 0, 1500, .inl (fun _ => 0))), (q14, .inl (c 0, 1500, .inl (fun _ => 0))), (q15, .inl (c 4, 11, .inr (.inr (.inr (.inr (fun _ => none)))))), (q16, .inr (5, [.ref q20, .int 0, .int 0, .int 0, .ref q21, .int 0, .int 0, .int 0, .int 0])), (q20, .inl (c 0, 320, .inl (fun _ => 0))), (q21, .inl (c 0, 300, .inl (fun _ => 0))), (q22, .inl (c 5, 10, .inr (.inr (.inr (.inr (fun _ => none)))))), (q23, .inr (7, [.ref q27, .ref q28, .ref q29, .ref q30, .int 0])), (q27, .inl (c 0, 500, .inl (fun _ => 0))), (q28, .inl (c 0, 500, .inl (fun _ => 0))), (q29, .inl (c 0, 500, .inl (fun _ => 0))), (q30, .inl (c 0, 500, .inl (fun _ => 0))), (q31, .inl (c 6, 10, .inr (.inr (.inr (.inr (fun _ => none)))))), (q36, .inl (c 0, 8, .inl (fun _ => 0)))] := hD
  exact rt_v hx hb hr hlocks hK hP hD hS dX11_init_100 (mk [h0, q1, q7, q15, q16, q22, q23, q31, q32, q36, 0, 0, 0, 0, 0, 0, 0, 0, 0, 0, q5, q6, q11, q12, q13, q14, q20, q21, q27, q28, q29, q30]) [0, 1, 2, 3, 4, 5, 6, 7, 8, 9, 10, 11, 12, 13, 14, 19] rfl rfl rfl
end
