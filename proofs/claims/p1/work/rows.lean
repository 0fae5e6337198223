section
/-- a private method of a class that the tables say can be made, by its rows of tables_1 -/
def lw_okq (q : MethodName × Nat) : Prop := (q.1.cls ≠ "java/lang/invoke/MethodHandle" ∧ q.1.cls ≠ "java/lang/invoke/VarHandle") ∧ Cond.instantiable q.1.cls q.2 ∈ tables_1 ∧ Cond.privateMethod q.1 ∈ tables_1 ∧ Cond.instanceMethod q.1 ∈ tables_1
theorem lw_p0 : lw_okq (⟨"PoolCoast", "atEnd", "()Z"⟩, 16) := ⟨⟨by decide +kernel, by decide +kernel⟩, List.mem_of_getElem? (i := 23) (by decide +kernel), List.mem_of_getElem? (i := 241) (by decide +kernel), List.mem_of_getElem? (i := 242) (by decide +kernel)⟩
theorem lw_p1 : lw_okq (⟨"PoolCoast$Tides", "turnsUpTo", "(I)I"⟩, 3) := ⟨⟨by decide +kernel, by decide +kernel⟩, List.mem_of_getElem? (i := 31) (by decide +kernel), List.mem_of_getElem? (i := 271) (by decide +kernel), List.mem_of_getElem? (i := 272) (by decide +kernel)⟩
theorem lw_p2 : lw_okq (⟨"PoolCoast", "hourNow", "()I"⟩, 16) := ⟨⟨by decide +kernel, by decide +kernel⟩, List.mem_of_getElem? (i := 23) (by decide +kernel), List.mem_of_getElem? (i := 287) (by decide +kernel), List.mem_of_getElem? (i := 288) (by decide +kernel)⟩
theorem lw_p3 : lw_okq (⟨"PoolCoast", "settingOf", "(I)I"⟩, 16) := ⟨⟨by decide +kernel, by decide +kernel⟩, List.mem_of_getElem? (i := 23) (by decide +kernel), List.mem_of_getElem? (i := 309) (by decide +kernel), List.mem_of_getElem? (i := 310) (by decide +kernel)⟩
theorem lw_p4 : lw_okq (⟨"PoolCoast", "poolAt", "(I)LPoolCoast$Pool;"⟩, 16) := ⟨⟨by decide +kernel, by decide +kernel⟩, List.mem_of_getElem? (i := 23) (by decide +kernel), List.mem_of_getElem? (i := 500) (by decide +kernel), List.mem_of_getElem? (i := 501) (by decide +kernel)⟩
theorem lw_p5 : lw_okq (⟨"PoolCoast$Water", "flowBySluice", "(LPoolCoast$Basin;I)V"⟩, 4) := ⟨⟨by decide +kernel, by decide +kernel⟩, List.mem_of_getElem? (i := 386) (by decide +kernel), List.mem_of_getElem? (i := 552) (by decide +kernel), List.mem_of_getElem? (i := 553) (by decide +kernel)⟩
theorem lw_p6 : lw_okq (⟨"PoolCoast$Water", "comeIn", "(I)V"⟩, 4) := ⟨⟨by decide +kernel, by decide +kernel⟩, List.mem_of_getElem? (i := 386) (by decide +kernel), List.mem_of_getElem? (i := 560) (by decide +kernel), List.mem_of_getElem? (i := 561) (by decide +kernel)⟩
theorem lw_p7 : lw_okq (⟨"PoolCoast$Water", "goOut", "(I)V"⟩, 4) := ⟨⟨by decide +kernel, by decide +kernel⟩, List.mem_of_getElem? (i := 386) (by decide +kernel), List.mem_of_getElem? (i := 567) (by decide +kernel), List.mem_of_getElem? (i := 568) (by decide +kernel)⟩
theorem lw_p8 : lw_okq (⟨"PoolCoast$Water", "flowByCrack", "(LPoolCoast$Basin;III)V"⟩, 4) := ⟨⟨by decide +kernel, by decide +kernel⟩, List.mem_of_getElem? (i := 386) (by decide +kernel), List.mem_of_getElem? (i := 572) (by decide +kernel), List.mem_of_getElem? (i := 573) (by decide +kernel)⟩
theorem lw_p9 : lw_okq (⟨"PoolCoast$Water", "flowByPump", "(I)V"⟩, 4) := ⟨⟨by decide +kernel, by decide +kernel⟩, List.mem_of_getElem? (i := 386) (by decide +kernel), List.mem_of_getElem? (i := 576) (by decide +kernel), List.mem_of_getElem? (i := 577) (by decide +kernel)⟩
theorem lw_p10 : lw_okq (⟨"PoolCoast$Water", "flowAtWall", "(LPoolCoast$Basin;I)V"⟩, 4) := ⟨⟨by decide +kernel, by decide +kernel⟩, List.mem_of_getElem? (i := 386) (by decide +kernel), List.mem_of_getElem? (i := 580) (by decide +kernel), List.mem_of_getElem? (i := 581) (by decide +kernel)⟩
theorem lw_p11 : lw_okq (⟨"PoolCoast", "tells", "(LPoolCoast$Pool;I)Z"⟩, 16) := ⟨⟨by decide +kernel, by decide +kernel⟩, List.mem_of_getElem? (i := 23) (by decide +kernel), List.mem_of_getElem? (i := 605) (by decide +kernel), List.mem_of_getElem? (i := 606) (by decide +kernel)⟩
theorem lw_p12 : lw_okq (⟨"PoolCoast$Reader", "skipBlanks", "()V"⟩, 9) := ⟨⟨by decide +kernel, by decide +kernel⟩, List.mem_of_getElem? (i := 82) (by decide +kernel), List.mem_of_getElem? (i := 641) (by decide +kernel), List.mem_of_getElem? (i := 642) (by decide +kernel)⟩
theorem lw_p13 : lw_okq (⟨"PoolCoast$Reader", "byteHere", "()I"⟩, 9) := ⟨⟨by decide +kernel, by decide +kernel⟩, List.mem_of_getElem? (i := 82) (by decide +kernel), List.mem_of_getElem? (i := 645) (by decide +kernel), List.mem_of_getElem? (i := 646) (by decide +kernel)⟩
theorem lw_p14 : lw_okq (⟨"PoolCoast$Reader", "canBegin", "()Z"⟩, 9) := ⟨⟨by decide +kernel, by decide +kernel⟩, List.mem_of_getElem? (i := 82) (by decide +kernel), List.mem_of_getElem? (i := 649) (by decide +kernel), List.mem_of_getElem? (i := 650) (by decide +kernel)⟩
theorem lw_p15 : lw_okq (⟨"PoolCoast$Reader", "wordHere", "()I"⟩, 9) := ⟨⟨by decide +kernel, by decide +kernel⟩, List.mem_of_getElem? (i := 82) (by decide +kernel), List.mem_of_getElem? (i := 653) (by decide +kernel), List.mem_of_getElem? (i := 654) (by decide +kernel)⟩
def lw_privs_1 : List (MethodName × Nat) := [(⟨"PoolCoast", "atEnd", "()Z"⟩, 16), (⟨"PoolCoast$Tides", "turnsUpTo", "(I)I"⟩, 3), (⟨"PoolCoast", "hourNow", "()I"⟩, 16), (⟨"PoolCoast", "settingOf", "(I)I"⟩, 16), (⟨"PoolCoast", "poolAt", "(I)LPoolCoast$Pool;"⟩, 16), (⟨"PoolCoast$Water", "flowBySluice", "(LPoolCoast$Basin;I)V"⟩, 4), (⟨"PoolCoast$Water", "comeIn", "(I)V"⟩, 4), (⟨"PoolCoast$Water", "goOut", "(I)V"⟩, 4), (⟨"PoolCoast$Water", "flowByCrack", "(LPoolCoast$Basin;III)V"⟩, 4), (⟨"PoolCoast$Water", "flowByPump", "(I)V"⟩, 4), (⟨"PoolCoast$Water", "flowAtWall", "(LPoolCoast$Basin;I)V"⟩, 4), (⟨"PoolCoast", "tells", "(LPoolCoast$Pool;I)Z"⟩, 16), (⟨"PoolCoast$Reader", "skipBlanks", "()V"⟩, 9), (⟨"PoolCoast$Reader", "byteHere", "()I"⟩, 9), (⟨"PoolCoast$Reader", "canBegin", "()Z"⟩, 9), (⟨"PoolCoast$Reader", "wordHere", "()I"⟩, 9)]
theorem lw_r1 : ∀ q ∈ lw_privs_1, lw_okq q := List.forall_mem_cons.mpr ⟨lw_p0, List.forall_mem_cons.mpr ⟨lw_p1, List.forall_mem_cons.mpr ⟨lw_p2, List.forall_mem_cons.mpr ⟨lw_p3, List.forall_mem_cons.mpr ⟨lw_p4, List.forall_mem_cons.mpr ⟨lw_p5, List.forall_mem_cons.mpr ⟨lw_p6, List.forall_mem_cons.mpr ⟨lw_p7, List.forall_mem_cons.mpr ⟨lw_p8, List.forall_mem_cons.mpr ⟨lw_p9, List.forall_mem_cons.mpr ⟨lw_p10, List.forall_mem_cons.mpr ⟨lw_p11, List.forall_mem_cons.mpr ⟨lw_p12, List.forall_mem_cons.mpr ⟨lw_p13, List.forall_mem_cons.mpr ⟨lw_p14, List.forall_mem_cons.mpr ⟨lw_p15, fun _ h => absurd h List.not_mem_nil⟩⟩⟩⟩⟩⟩⟩⟩⟩⟩⟩⟩⟩⟩⟩⟩
theorem lw_p16 : lw_okq (⟨"PoolCoast$Reader", "isNamed", "(Ljava/lang/String;)Z"⟩, 9) := ⟨⟨by decide +kernel, by decide +kernel⟩, List.mem_of_getElem? (i := 82) (by decide +kernel), List.mem_of_getElem? (i := 673) (by decide +kernel), List.mem_of_getElem? (i := 674) (by decide +kernel)⟩
theorem lw_p17 : lw_okq (⟨"PoolCoast$Reader", "refuse", "(I)V"⟩, 9) := ⟨⟨by decide +kernel, by decide +kernel⟩, List.mem_of_getElem? (i := 82) (by decide +kernel), List.mem_of_getElem? (i := 725) (by decide +kernel), List.mem_of_getElem? (i := 726) (by decide +kernel)⟩
theorem lw_p18 : lw_okq (⟨"PoolCoast$Reader", "readEither", "(I)V"⟩, 9) := ⟨⟨by decide +kernel, by decide +kernel⟩, List.mem_of_getElem? (i := 82) (by decide +kernel), List.mem_of_getElem? (i := 729) (by decide +kernel), List.mem_of_getElem? (i := 730) (by decide +kernel)⟩
theorem lw_p19 : lw_okq (⟨"PoolCoast$Reader", "readBoth", "(I)V"⟩, 9) := ⟨⟨by decide +kernel, by decide +kernel⟩, List.mem_of_getElem? (i := 82) (by decide +kernel), List.mem_of_getElem? (i := 733) (by decide +kernel), List.mem_of_getElem? (i := 734) (by decide +kernel)⟩
theorem lw_p20 : lw_okq (⟨"PoolCoast$Reader", "readOne", "(I)V"⟩, 9) := ⟨⟨by decide +kernel, by decide +kernel⟩, List.mem_of_getElem? (i := 82) (by decide +kernel), List.mem_of_getElem? (i := 737) (by decide +kernel), List.mem_of_getElem? (i := 738) (by decide +kernel)⟩
theorem lw_p21 : lw_okq (⟨"PoolCoast$Reader", "readCompare", "(I)V"⟩, 9) := ⟨⟨by decide +kernel, by decide +kernel⟩, List.mem_of_getElem? (i := 82) (by decide +kernel), List.mem_of_getElem? (i := 741) (by decide +kernel), List.mem_of_getElem? (i := 742) (by decide +kernel)⟩
theorem lw_p22 : lw_okq (⟨"PoolCoast$Reader", "takeWord", "(I)Z"⟩, 9) := ⟨⟨by decide +kernel, by decide +kernel⟩, List.mem_of_getElem? (i := 82) (by decide +kernel), List.mem_of_getElem? (i := 745) (by decide +kernel), List.mem_of_getElem? (i := 746) (by decide +kernel)⟩
theorem lw_p23 : lw_okq (⟨"PoolCoast$Reader", "takeSign", "()I"⟩, 9) := ⟨⟨by decide +kernel, by decide +kernel⟩, List.mem_of_getElem? (i := 82) (by decide +kernel), List.mem_of_getElem? (i := 749) (by decide +kernel), List.mem_of_getElem? (i := 750) (by decide +kernel)⟩
theorem lw_p24 : lw_okq (⟨"PoolCoast$Reader", "takeNumber", "()I"⟩, 9) := ⟨⟨by decide +kernel, by decide +kernel⟩, List.mem_of_getElem? (i := 82) (by decide +kernel), List.mem_of_getElem? (i := 753) (by decide +kernel), List.mem_of_getElem? (i := 754) (by decide +kernel)⟩
theorem lw_p25 : lw_okq (⟨"PoolCoast$Reader", "emit", "(I)V"⟩, 9) := ⟨⟨by decide +kernel, by decide +kernel⟩, List.mem_of_getElem? (i := 82) (by decide +kernel), List.mem_of_getElem? (i := 758) (by decide +kernel), List.mem_of_getElem? (i := 759) (by decide +kernel)⟩
theorem lw_p26 : lw_okq (⟨"PoolCoast$Reader", "readNested", "(I)V"⟩, 9) := ⟨⟨by decide +kernel, by decide +kernel⟩, List.mem_of_getElem? (i := 82) (by decide +kernel), List.mem_of_getElem? (i := 762) (by decide +kernel), List.mem_of_getElem? (i := 763) (by decide +kernel)⟩
theorem lw_p27 : lw_okq (⟨"PoolCoast$Reader", "takeByte", "(I)V"⟩, 9) := ⟨⟨by decide +kernel, by decide +kernel⟩, List.mem_of_getElem? (i := 82) (by decide +kernel), List.mem_of_getElem? (i := 766) (by decide +kernel), List.mem_of_getElem? (i := 767) (by decide +kernel)⟩
theorem lw_p28 : lw_okq (⟨"PoolCoast", "closingClause", "(LPoolCoast$Pool;II)I"⟩, 16) := ⟨⟨by decide +kernel, by decide +kernel⟩, List.mem_of_getElem? (i := 23) (by decide +kernel), List.mem_of_getElem? (i := 805) (by decide +kernel), List.mem_of_getElem? (i := 806) (by decide +kernel)⟩
theorem lw_p29 : lw_okq (⟨"PoolCoast", "inForce", "(I)LPoolCoast$Ruling;"⟩, 16) := ⟨⟨by decide +kernel, by decide +kernel⟩, List.mem_of_getElem? (i := 23) (by decide +kernel), List.mem_of_getElem? (i := 809) (by decide +kernel), List.mem_of_getElem? (i := 810) (by decide +kernel)⟩
theorem lw_p30 : lw_okq (⟨"PoolCoast", "openHours", "(LPoolCoast$Pool;II)I"⟩, 16) := ⟨⟨by decide +kernel, by decide +kernel⟩, List.mem_of_getElem? (i := 23) (by decide +kernel), List.mem_of_getElem? (i := 834) (by decide +kernel), List.mem_of_getElem? (i := 835) (by decide +kernel)⟩
theorem lw_p31 : lw_okq (⟨"PoolCoast", "dayNow", "()I"⟩, 16) := ⟨⟨by decide +kernel, by decide +kernel⟩, List.mem_of_getElem? (i := 23) (by decide +kernel), List.mem_of_getElem? (i := 860) (by decide +kernel), List.mem_of_getElem? (i := 861) (by decide +kernel)⟩
def lw_privs_2 : List (MethodName × Nat) := [(⟨"PoolCoast$Reader", "isNamed", "(Ljava/lang/String;)Z"⟩, 9), (⟨"PoolCoast$Reader", "refuse", "(I)V"⟩, 9), (⟨"PoolCoast$Reader", "readEither", "(I)V"⟩, 9), (⟨"PoolCoast$Reader", "readBoth", "(I)V"⟩, 9), (⟨"PoolCoast$Reader", "readOne", "(I)V"⟩, 9), (⟨"PoolCoast$Reader", "readCompare", "(I)V"⟩, 9), (⟨"PoolCoast$Reader", "takeWord", "(I)Z"⟩, 9), (⟨"PoolCoast$Reader", "takeSign", "()I"⟩, 9), (⟨"PoolCoast$Reader", "takeNumber", "()I"⟩, 9), (⟨"PoolCoast$Reader", "emit", "(I)V"⟩, 9), (⟨"PoolCoast$Reader", "readNested", "(I)V"⟩, 9), (⟨"PoolCoast$Reader", "takeByte", "(I)V"⟩, 9), (⟨"PoolCoast", "closingClause", "(LPoolCoast$Pool;II)I"⟩, 16), (⟨"PoolCoast", "inForce", "(I)LPoolCoast$Ruling;"⟩, 16), (⟨"PoolCoast", "openHours", "(LPoolCoast$Pool;II)I"⟩, 16), (⟨"PoolCoast", "dayNow", "()I"⟩, 16)]
theorem lw_r2 : ∀ q ∈ lw_privs_2, lw_okq q := List.forall_mem_cons.mpr ⟨lw_p16, List.forall_mem_cons.mpr ⟨lw_p17, List.forall_mem_cons.mpr ⟨lw_p18, List.forall_mem_cons.mpr ⟨lw_p19, List.forall_mem_cons.mpr ⟨lw_p20, List.forall_mem_cons.mpr ⟨lw_p21, List.forall_mem_cons.mpr ⟨lw_p22, List.forall_mem_cons.mpr ⟨lw_p23, List.forall_mem_cons.mpr ⟨lw_p24, List.forall_mem_cons.mpr ⟨lw_p25, List.forall_mem_cons.mpr ⟨lw_p26, List.forall_mem_cons.mpr ⟨lw_p27, List.forall_mem_cons.mpr ⟨lw_p28, List.forall_mem_cons.mpr ⟨lw_p29, List.forall_mem_cons.mpr ⟨lw_p30, List.forall_mem_cons.mpr ⟨lw_p31, fun _ h => absurd h List.not_mem_nil⟩⟩⟩⟩⟩⟩⟩⟩⟩⟩⟩⟩⟩⟩⟩⟩
theorem lw_p32 : lw_okq (⟨"PoolCoast", "takeIntoPlan", "(LPoolCoast$Pool;III)V"⟩, 16) := ⟨⟨by decide +kernel, by decide +kernel⟩, List.mem_of_getElem? (i := 23) (by decide +kernel), List.mem_of_getElem? (i := 869) (by decide +kernel), List.mem_of_getElem? (i := 870) (by decide +kernel)⟩
theorem lw_p33 : lw_okq (⟨"PoolCoast$Planner", "choose", "(II)V"⟩, 10) := ⟨⟨by decide +kernel, by decide +kernel⟩, List.mem_of_getElem? (i := 147) (by decide +kernel), List.mem_of_getElem? (i := 889) (by decide +kernel), List.mem_of_getElem? (i := 890) (by decide +kernel)⟩
theorem lw_p34 : lw_okq (⟨"PoolCoast$Planner", "tryChoice", "(III)V"⟩, 10) := ⟨⟨by decide +kernel, by decide +kernel⟩, List.mem_of_getElem? (i := 147) (by decide +kernel), List.mem_of_getElem? (i := 896) (by decide +kernel), List.mem_of_getElem? (i := 897) (by decide +kernel)⟩
theorem lw_p35 : lw_okq (⟨"PoolCoast$Evidence", "addIfExplaining", "(II)V"⟩, 11) := ⟨⟨by decide +kernel, by decide +kernel⟩, List.mem_of_getElem? (i := 410) (by decide +kernel), List.mem_of_getElem? (i := 944) (by decide +kernel), List.mem_of_getElem? (i := 945) (by decide +kernel)⟩
theorem lw_p36 : lw_okq (⟨"PoolCoast$Evidence", "depthAfter", "(IIII)I"⟩, 11) := ⟨⟨by decide +kernel, by decide +kernel⟩, List.mem_of_getElem? (i := 410) (by decide +kernel), List.mem_of_getElem? (i := 949) (by decide +kernel), List.mem_of_getElem? (i := 950) (by decide +kernel)⟩
theorem lw_p37 : lw_okq (⟨"PoolCoast$Evidence", "taken", "(II)I"⟩, 11) := ⟨⟨by decide +kernel, by decide +kernel⟩, List.mem_of_getElem? (i := 410) (by decide +kernel), List.mem_of_getElem? (i := 953) (by decide +kernel), List.mem_of_getElem? (i := 954) (by decide +kernel)⟩
theorem lw_p38 : lw_okq (⟨"PoolCoast$Evidence", "spreadFrom", "(I)I"⟩, 11) := ⟨⟨by decide +kernel, by decide +kernel⟩, List.mem_of_getElem? (i := 410) (by decide +kernel), List.mem_of_getElem? (i := 974) (by decide +kernel), List.mem_of_getElem? (i := 975) (by decide +kernel)⟩
theorem lw_p39 : lw_okq (⟨"PoolCoast", "leaseAt", "(I)LPoolCoast$Lease;"⟩, 16) := ⟨⟨by decide +kernel, by decide +kernel⟩, List.mem_of_getElem? (i := 23) (by decide +kernel), List.mem_of_getElem? (i := 1012) (by decide +kernel), List.mem_of_getElem? (i := 1013) (by decide +kernel)⟩
theorem lw_p40 : lw_okq (⟨"PoolCoast", "dueOf", "(LPoolCoast$Lease;I)I"⟩, 16) := ⟨⟨by decide +kernel, by decide +kernel⟩, List.mem_of_getElem? (i := 23) (by decide +kernel), List.mem_of_getElem? (i := 1016) (by decide +kernel), List.mem_of_getElem? (i := 1017) (by decide +kernel)⟩
theorem lw_p41 : lw_okq (⟨"PoolCoast", "paidOf", "(I)I"⟩, 16) := ⟨⟨by decide +kernel, by decide +kernel⟩, List.mem_of_getElem? (i := 23) (by decide +kernel), List.mem_of_getElem? (i := 1029) (by decide +kernel), List.mem_of_getElem? (i := 1030) (by decide +kernel)⟩
theorem lw_p42 : lw_okq (⟨"PoolCoastModel", "isOver", "()Z"⟩, 92) := ⟨⟨by decide +kernel, by decide +kernel⟩, List.mem_of_getElem? (i := 1033) (by decide +kernel), List.mem_of_getElem? (i := 1322) (by decide +kernel), List.mem_of_getElem? (i := 1323) (by decide +kernel)⟩
theorem lw_p43 : lw_okq (⟨"PoolCoastModel", "seaAt", "(I)I"⟩, 92) := ⟨⟨by decide +kernel, by decide +kernel⟩, List.mem_of_getElem? (i := 1033) (by decide +kernel), List.mem_of_getElem? (i := 1333) (by decide +kernel), List.mem_of_getElem? (i := 1334) (by decide +kernel)⟩
theorem lw_p44 : lw_okq (⟨"PoolCoastModel", "waveAt", "(II)I"⟩, 92) := ⟨⟨by decide +kernel, by decide +kernel⟩, List.mem_of_getElem? (i := 1033) (by decide +kernel), List.mem_of_getElem? (i := 1348) (by decide +kernel), List.mem_of_getElem? (i := 1349) (by decide +kernel)⟩
theorem lw_p45 : lw_okq (⟨"PoolCoastModel", "isPool", "(I)Z"⟩, 92) := ⟨⟨by decide +kernel, by decide +kernel⟩, List.mem_of_getElem? (i := 1033) (by decide +kernel), List.mem_of_getElem? (i := 1364) (by decide +kernel), List.mem_of_getElem? (i := 1365) (by decide +kernel)⟩
theorem lw_p46 : lw_okq (⟨"PoolCoastModel", "isStorm", "(II)Z"⟩, 92) := ⟨⟨by decide +kernel, by decide +kernel⟩, List.mem_of_getElem? (i := 1033) (by decide +kernel), List.mem_of_getElem? (i := 1392) (by decide +kernel), List.mem_of_getElem? (i := 1393) (by decide +kernel)⟩
theorem lw_p47 : lw_okq (⟨"PoolCoastModel", "takes", "(I)V"⟩, 92) := ⟨⟨by decide +kernel, by decide +kernel⟩, List.mem_of_getElem? (i := 1033) (by decide +kernel), List.mem_of_getElem? (i := 1396) (by decide +kernel), List.mem_of_getElem? (i := 1397) (by decide +kernel)⟩
def lw_privs_3 : List (MethodName × Nat) := [(⟨"PoolCoast", "takeIntoPlan", "(LPoolCoast$Pool;III)V"⟩, 16), (⟨"PoolCoast$Planner", "choose", "(II)V"⟩, 10), (⟨"PoolCoast$Planner", "tryChoice", "(III)V"⟩, 10), (⟨"PoolCoast$Evidence", "addIfExplaining", "(II)V"⟩, 11), (⟨"PoolCoast$Evidence", "depthAfter", "(IIII)I"⟩, 11), (⟨"PoolCoast$Evidence", "taken", "(II)I"⟩, 11), (⟨"PoolCoast$Evidence", "spreadFrom", "(I)I"⟩, 11), (⟨"PoolCoast", "leaseAt", "(I)LPoolCoast$Lease;"⟩, 16), (⟨"PoolCoast", "dueOf", "(LPoolCoast$Lease;I)I"⟩, 16), (⟨"PoolCoast", "paidOf", "(I)I"⟩, 16), (⟨"PoolCoastModel", "isOver", "()Z"⟩, 92), (⟨"PoolCoastModel", "seaAt", "(I)I"⟩, 92), (⟨"PoolCoastModel", "waveAt", "(II)I"⟩, 92), (⟨"PoolCoastModel", "isPool", "(I)Z"⟩, 92), (⟨"PoolCoastModel", "isStorm", "(II)Z"⟩, 92), (⟨"PoolCoastModel", "takes", "(I)V"⟩, 92)]
theorem lw_r3 : ∀ q ∈ lw_privs_3, lw_okq q := List.forall_mem_cons.mpr ⟨lw_p32, List.forall_mem_cons.mpr ⟨lw_p33, List.forall_mem_cons.mpr ⟨lw_p34, List.forall_mem_cons.mpr ⟨lw_p35, List.forall_mem_cons.mpr ⟨lw_p36, List.forall_mem_cons.mpr ⟨lw_p37, List.forall_mem_cons.mpr ⟨lw_p38, List.forall_mem_cons.mpr ⟨lw_p39, List.forall_mem_cons.mpr ⟨lw_p40, List.forall_mem_cons.mpr ⟨lw_p41, List.forall_mem_cons.mpr ⟨lw_p42, List.forall_mem_cons.mpr ⟨lw_p43, List.forall_mem_cons.mpr ⟨lw_p44, List.forall_mem_cons.mpr ⟨lw_p45, List.forall_mem_cons.mpr ⟨lw_p46, List.forall_mem_cons.mpr ⟨lw_p47, fun _ h => absurd h List.not_mem_nil⟩⟩⟩⟩⟩⟩⟩⟩⟩⟩⟩⟩⟩⟩⟩⟩
theorem lw_p48 : lw_okq (⟨"PoolCoastModel", "works", "(III)V"⟩, 92) := ⟨⟨by decide +kernel, by decide +kernel⟩, List.mem_of_getElem? (i := 1033) (by decide +kernel), List.mem_of_getElem? (i := 1400) (by decide +kernel), List.mem_of_getElem? (i := 1401) (by decide +kernel)⟩
theorem lw_p49 : lw_okq (⟨"PoolCoastModel", "throughSluice", "(II)V"⟩, 92) := ⟨⟨by decide +kernel, by decide +kernel⟩, List.mem_of_getElem? (i := 1033) (by decide +kernel), List.mem_of_getElem? (i := 1404) (by decide +kernel), List.mem_of_getElem? (i := 1405) (by decide +kernel)⟩
theorem lw_p50 : lw_okq (⟨"PoolCoastModel", "levelOf", "(II)I"⟩, 92) := ⟨⟨by decide +kernel, by decide +kernel⟩, List.mem_of_getElem? (i := 1033) (by decide +kernel), List.mem_of_getElem? (i := 1408) (by decide +kernel), List.mem_of_getElem? (i := 1409) (by decide +kernel)⟩
theorem lw_p51 : lw_okq (⟨"PoolCoastModel", "comesIn", "(I)V"⟩, 92) := ⟨⟨by decide +kernel, by decide +kernel⟩, List.mem_of_getElem? (i := 1033) (by decide +kernel), List.mem_of_getElem? (i := 1415) (by decide +kernel), List.mem_of_getElem? (i := 1416) (by decide +kernel)⟩
theorem lw_p52 : lw_okq (⟨"PoolCoastModel", "goesOut", "(I)V"⟩, 92) := ⟨⟨by decide +kernel, by decide +kernel⟩, List.mem_of_getElem? (i := 1033) (by decide +kernel), List.mem_of_getElem? (i := 1422) (by decide +kernel), List.mem_of_getElem? (i := 1423) (by decide +kernel)⟩
theorem lw_p53 : lw_okq (⟨"PoolCoastModel", "throughCrack", "(IIII)V"⟩, 92) := ⟨⟨by decide +kernel, by decide +kernel⟩, List.mem_of_getElem? (i := 1033) (by decide +kernel), List.mem_of_getElem? (i := 1426) (by decide +kernel), List.mem_of_getElem? (i := 1427) (by decide +kernel)⟩
theorem lw_p54 : lw_okq (⟨"PoolCoastModel", "pumps", "(I)V"⟩, 92) := ⟨⟨by decide +kernel, by decide +kernel⟩, List.mem_of_getElem? (i := 1033) (by decide +kernel), List.mem_of_getElem? (i := 1430) (by decide +kernel), List.mem_of_getElem? (i := 1431) (by decide +kernel)⟩
theorem lw_p55 : lw_okq (⟨"PoolCoastModel", "lastTold", "()I"⟩, 92) := ⟨⟨by decide +kernel, by decide +kernel⟩, List.mem_of_getElem? (i := 1033) (by decide +kernel), List.mem_of_getElem? (i := 1446) (by decide +kernel), List.mem_of_getElem? (i := 1447) (by decide +kernel)⟩
theorem lw_p56 : lw_okq (⟨"PoolCoastModel", "foretells", "(II)V"⟩, 92) := ⟨⟨by decide +kernel, by decide +kernel⟩, List.mem_of_getElem? (i := 1033) (by decide +kernel), List.mem_of_getElem? (i := 1450) (by decide +kernel), List.mem_of_getElem? (i := 1451) (by decide +kernel)⟩
theorem lw_p57 : lw_okq (⟨"PoolCoastModel", "looks", "(II)V"⟩, 92) := ⟨⟨by decide +kernel, by decide +kernel⟩, List.mem_of_getElem? (i := 1033) (by decide +kernel), List.mem_of_getElem? (i := 1454) (by decide +kernel), List.mem_of_getElem? (i := 1455) (by decide +kernel)⟩
theorem lw_p58 : lw_okq (⟨"PoolCoastModel", "four", "(I)V"⟩, 92) := ⟨⟨by decide +kernel, by decide +kernel⟩, List.mem_of_getElem? (i := 1033) (by decide +kernel), List.mem_of_getElem? (i := 1462) (by decide +kernel), List.mem_of_getElem? (i := 1463) (by decide +kernel)⟩
theorem lw_p59 : lw_okq (⟨"PoolCoastModel", "see", "()I"⟩, 92) := ⟨⟨by decide +kernel, by decide +kernel⟩, List.mem_of_getElem? (i := 1033) (by decide +kernel), List.mem_of_getElem? (i := 1474) (by decide +kernel), List.mem_of_getElem? (i := 1475) (by decide +kernel)⟩
theorem lw_p60 : lw_okq (⟨"PoolCoastModel", "text", "()Z"⟩, 92) := ⟨⟨by decide +kernel, by decide +kernel⟩, List.mem_of_getElem? (i := 1033) (by decide +kernel), List.mem_of_getElem? (i := 1478) (by decide +kernel), List.mem_of_getElem? (i := 1479) (by decide +kernel)⟩
theorem lw_p61 : lw_okq (⟨"PoolCoastModel", "begins", "(Z)Z"⟩, 92) := ⟨⟨by decide +kernel, by decide +kernel⟩, List.mem_of_getElem? (i := 1033) (by decide +kernel), List.mem_of_getElem? (i := 1482) (by decide +kernel), List.mem_of_getElem? (i := 1483) (by decide +kernel)⟩
theorem lw_p62 : lw_okq (⟨"PoolCoastModel", "wordHere", "()I"⟩, 92) := ⟨⟨by decide +kernel, by decide +kernel⟩, List.mem_of_getElem? (i := 1033) (by decide +kernel), List.mem_of_getElem? (i := 1486) (by decide +kernel), List.mem_of_getElem? (i := 1487) (by decide +kernel)⟩
theorem lw_p63 : lw_okq (⟨"PoolCoastModel", "fails", "(II)Z"⟩, 92) := ⟨⟨by decide +kernel, by decide +kernel⟩, List.mem_of_getElem? (i := 1033) (by decide +kernel), List.mem_of_getElem? (i := 1490) (by decide +kernel), List.mem_of_getElem? (i := 1491) (by decide +kernel)⟩
def lw_privs_4 : List (MethodName × Nat) := [(⟨"PoolCoastModel", "works", "(III)V"⟩, 92), (⟨"PoolCoastModel", "throughSluice", "(II)V"⟩, 92), (⟨"PoolCoastModel", "levelOf", "(II)I"⟩, 92), (⟨"PoolCoastModel", "comesIn", "(I)V"⟩, 92), (⟨"PoolCoastModel", "goesOut", "(I)V"⟩, 92), (⟨"PoolCoastModel", "throughCrack", "(IIII)V"⟩, 92), (⟨"PoolCoastModel", "pumps", "(I)V"⟩, 92), (⟨"PoolCoastModel", "lastTold", "()I"⟩, 92), (⟨"PoolCoastModel", "foretells", "(II)V"⟩, 92), (⟨"PoolCoastModel", "looks", "(II)V"⟩, 92), (⟨"PoolCoastModel", "four", "(I)V"⟩, 92), (⟨"PoolCoastModel", "see", "()I"⟩, 92), (⟨"PoolCoastModel", "text", "()Z"⟩, 92), (⟨"PoolCoastModel", "begins", "(Z)Z"⟩, 92), (⟨"PoolCoastModel", "wordHere", "()I"⟩, 92), (⟨"PoolCoastModel", "fails", "(II)Z"⟩, 92)]
theorem lw_r4 : ∀ q ∈ lw_privs_4, lw_okq q := List.forall_mem_cons.mpr ⟨lw_p48, List.forall_mem_cons.mpr ⟨lw_p49, List.forall_mem_cons.mpr ⟨lw_p50, List.forall_mem_cons.mpr ⟨lw_p51, List.forall_mem_cons.mpr ⟨lw_p52, List.forall_mem_cons.mpr ⟨lw_p53, List.forall_mem_cons.mpr ⟨lw_p54, List.forall_mem_cons.mpr ⟨lw_p55, List.forall_mem_cons.mpr ⟨lw_p56, List.forall_mem_cons.mpr ⟨lw_p57, List.forall_mem_cons.mpr ⟨lw_p58, List.forall_mem_cons.mpr ⟨lw_p59, List.forall_mem_cons.mpr ⟨lw_p60, List.forall_mem_cons.mpr ⟨lw_p61, List.forall_mem_cons.mpr ⟨lw_p62, List.forall_mem_cons.mpr ⟨lw_p63, fun _ h => absurd h List.not_mem_nil⟩⟩⟩⟩⟩⟩⟩⟩⟩⟩⟩⟩⟩⟩⟩⟩
theorem lw_p64 : lw_okq (⟨"PoolCoastModel", "compare", "(I)Z"⟩, 92) := ⟨⟨by decide +kernel, by decide +kernel⟩, List.mem_of_getElem? (i := 1033) (by decide +kernel), List.mem_of_getElem? (i := 1494) (by decide +kernel), List.mem_of_getElem? (i := 1495) (by decide +kernel)⟩
theorem lw_p65 : lw_okq (⟨"PoolCoastModel", "writes", "(I)V"⟩, 92) := ⟨⟨by decide +kernel, by decide +kernel⟩, List.mem_of_getElem? (i := 1033) (by decide +kernel), List.mem_of_getElem? (i := 1499) (by decide +kernel), List.mem_of_getElem? (i := 1500) (by decide +kernel)⟩
theorem lw_p66 : lw_okq (⟨"PoolCoastModel", "deep", "()I"⟩, 92) := ⟨⟨by decide +kernel, by decide +kernel⟩, List.mem_of_getElem? (i := 1033) (by decide +kernel), List.mem_of_getElem? (i := 1503) (by decide +kernel), List.mem_of_getElem? (i := 1504) (by decide +kernel)⟩
theorem lw_p67 : lw_okq (⟨"PoolCoastModel", "closesNots", "()V"⟩, 92) := ⟨⟨by decide +kernel, by decide +kernel⟩, List.mem_of_getElem? (i := 1033) (by decide +kernel), List.mem_of_getElem? (i := 1507) (by decide +kernel), List.mem_of_getElem? (i := 1508) (by decide +kernel)⟩
theorem lw_p68 : lw_okq (⟨"PoolCoastModel", "closesDown", "(I)V"⟩, 92) := ⟨⟨by decide +kernel, by decide +kernel⟩, List.mem_of_getElem? (i := 1033) (by decide +kernel), List.mem_of_getElem? (i := 1511) (by decide +kernel), List.mem_of_getElem? (i := 1512) (by decide +kernel)⟩
theorem lw_p69 : lw_okq (⟨"PoolCoastModel", "closedAt", "(III)I"⟩, 92) := ⟨⟨by decide +kernel, by decide +kernel⟩, List.mem_of_getElem? (i := 1033) (by decide +kernel), List.mem_of_getElem? (i := 1523) (by decide +kernel), List.mem_of_getElem? (i := 1524) (by decide +kernel)⟩
theorem lw_p70 : lw_okq (⟨"PoolCoastModel", "rulesAt", "(I)I"⟩, 92) := ⟨⟨by decide +kernel, by decide +kernel⟩, List.mem_of_getElem? (i := 1033) (by decide +kernel), List.mem_of_getElem? (i := 1527) (by decide +kernel), List.mem_of_getElem? (i := 1528) (by decide +kernel)⟩
theorem lw_p71 : lw_okq (⟨"PoolCoastModel", "testAt", "(III)I"⟩, 92) := ⟨⟨by decide +kernel, by decide +kernel⟩, List.mem_of_getElem? (i := 1033) (by decide +kernel), List.mem_of_getElem? (i := 1531) (by decide +kernel), List.mem_of_getElem? (i := 1532) (by decide +kernel)⟩
theorem lw_p72 : lw_okq (⟨"PoolCoastModel", "isTrue", "(III)Z"⟩, 92) := ⟨⟨by decide +kernel, by decide +kernel⟩, List.mem_of_getElem? (i := 1033) (by decide +kernel), List.mem_of_getElem? (i := 1535) (by decide +kernel), List.mem_of_getElem? (i := 1536) (by decide +kernel)⟩
theorem lw_p73 : lw_okq (⟨"PoolCoastModel", "openHours", "(III)I"⟩, 92) := ⟨⟨by decide +kernel, by decide +kernel⟩, List.mem_of_getElem? (i := 1033) (by decide +kernel), List.mem_of_getElem? (i := 1549) (by decide +kernel), List.mem_of_getElem? (i := 1550) (by decide +kernel)⟩
theorem lw_p74 : lw_okq (⟨"PoolCoastModel", "isLow", "(II)Z"⟩, 92) := ⟨⟨by decide +kernel, by decide +kernel⟩, List.mem_of_getElem? (i := 1033) (by decide +kernel), List.mem_of_getElem? (i := 1561) (by decide +kernel), List.mem_of_getElem? (i := 1562) (by decide +kernel)⟩
theorem lw_p75 : lw_okq (⟨"PoolCoastModel", "mayBe", "(III)Z"⟩, 92) := ⟨⟨by decide +kernel, by decide +kernel⟩, List.mem_of_getElem? (i := 1033) (by decide +kernel), List.mem_of_getElem? (i := 1569) (by decide +kernel), List.mem_of_getElem? (i := 1570) (by decide +kernel)⟩
theorem lw_p76 : lw_okq (⟨"PoolCoastModel", "costOf", "(II)I"⟩, 92) := ⟨⟨by decide +kernel, by decide +kernel⟩, List.mem_of_getElem? (i := 1033) (by decide +kernel), List.mem_of_getElem? (i := 1573) (by decide +kernel), List.mem_of_getElem? (i := 1574) (by decide +kernel)⟩
theorem lw_p77 : lw_okq (⟨"PoolCoastModel", "notes", "(III)V"⟩, 92) := ⟨⟨by decide +kernel, by decide +kernel⟩, List.mem_of_getElem? (i := 1033) (by decide +kernel), List.mem_of_getElem? (i := 1597) (by decide +kernel), List.mem_of_getElem? (i := 1598) (by decide +kernel)⟩
theorem lw_p78 : lw_okq (⟨"PoolCoastModel", "explains", "(III)Z"⟩, 92) := ⟨⟨by decide +kernel, by decide +kernel⟩, List.mem_of_getElem? (i := 1033) (by decide +kernel), List.mem_of_getElem? (i := 1601) (by decide +kernel), List.mem_of_getElem? (i := 1602) (by decide +kernel)⟩
theorem lw_p79 : lw_okq (⟨"PoolCoastModel", "depthBy", "(IIIII)I"⟩, 92) := ⟨⟨by decide +kernel, by decide +kernel⟩, List.mem_of_getElem? (i := 1033) (by decide +kernel), List.mem_of_getElem? (i := 1605) (by decide +kernel), List.mem_of_getElem? (i := 1606) (by decide +kernel)⟩
def lw_privs_5 : List (MethodName × Nat) := [(⟨"PoolCoastModel", "compare", "(I)Z"⟩, 92), (⟨"PoolCoastModel", "writes", "(I)V"⟩, 92), (⟨"PoolCoastModel", "deep", "()I"⟩, 92), (⟨"PoolCoastModel", "closesNots", "()V"⟩, 92), (⟨"PoolCoastModel", "closesDown", "(I)V"⟩, 92), (⟨"PoolCoastModel", "closedAt", "(III)I"⟩, 92), (⟨"PoolCoastModel", "rulesAt", "(I)I"⟩, 92), (⟨"PoolCoastModel", "testAt", "(III)I"⟩, 92), (⟨"PoolCoastModel", "isTrue", "(III)Z"⟩, 92), (⟨"PoolCoastModel", "openHours", "(III)I"⟩, 92), (⟨"PoolCoastModel", "isLow", "(II)Z"⟩, 92), (⟨"PoolCoastModel", "mayBe", "(III)Z"⟩, 92), (⟨"PoolCoastModel", "costOf", "(II)I"⟩, 92), (⟨"PoolCoastModel", "notes", "(III)V"⟩, 92), (⟨"PoolCoastModel", "explains", "(III)Z"⟩, 92), (⟨"PoolCoastModel", "depthBy", "(IIIII)I"⟩, 92)]
theorem lw_r5 : ∀ q ∈ lw_privs_5, lw_okq q := List.forall_mem_cons.mpr ⟨lw_p64, List.forall_mem_cons.mpr ⟨lw_p65, List.forall_mem_cons.mpr ⟨lw_p66, List.forall_mem_cons.mpr ⟨lw_p67, List.forall_mem_cons.mpr ⟨lw_p68, List.forall_mem_cons.mpr ⟨lw_p69, List.forall_mem_cons.mpr ⟨lw_p70, List.forall_mem_cons.mpr ⟨lw_p71, List.forall_mem_cons.mpr ⟨lw_p72, List.forall_mem_cons.mpr ⟨lw_p73, List.forall_mem_cons.mpr ⟨lw_p74, List.forall_mem_cons.mpr ⟨lw_p75, List.forall_mem_cons.mpr ⟨lw_p76, List.forall_mem_cons.mpr ⟨lw_p77, List.forall_mem_cons.mpr ⟨lw_p78, List.forall_mem_cons.mpr ⟨lw_p79, fun _ h => absurd h List.not_mem_nil⟩⟩⟩⟩⟩⟩⟩⟩⟩⟩⟩⟩⟩⟩⟩⟩
theorem lw_p80 : lw_okq (⟨"PoolCoastModel", "taken", "(III)I"⟩, 92) := ⟨⟨by decide +kernel, by decide +kernel⟩, List.mem_of_getElem? (i := 1033) (by decide +kernel), List.mem_of_getElem? (i := 1609) (by decide +kernel), List.mem_of_getElem? (i := 1610) (by decide +kernel)⟩
theorem lw_p81 : lw_okq (⟨"PoolCoastModel", "dueAt", "(II)I"⟩, 92) := ⟨⟨by decide +kernel, by decide +kernel⟩, List.mem_of_getElem? (i := 1033) (by decide +kernel), List.mem_of_getElem? (i := 1629) (by decide +kernel), List.mem_of_getElem? (i := 1630) (by decide +kernel)⟩
def lw_privs_6 : List (MethodName × Nat) := [(⟨"PoolCoastModel", "taken", "(III)I"⟩, 92), (⟨"PoolCoastModel", "dueAt", "(II)I"⟩, 92)]
theorem lw_r6 : ∀ q ∈ lw_privs_6, lw_okq q := List.forall_mem_cons.mpr ⟨lw_p80, List.forall_mem_cons.mpr ⟨lw_p81, fun _ h => absurd h List.not_mem_nil⟩⟩
def lw_privs : List (MethodName × Nat) := lw_privs_1 ++ (lw_privs_2 ++ (lw_privs_3 ++ (lw_privs_4 ++ (lw_privs_5 ++ (lw_privs_6)))))
def lw_tbl : List Cond := k2_sels lw_privs ++ tables_1
theorem lw_privs_ok : ∀ q ∈ lw_privs, lw_okq q := by
  show ∀ q ∈ lw_privs_1 ++ (lw_privs_2 ++ (lw_privs_3 ++ (lw_privs_4 ++ (lw_privs_5 ++ (lw_privs_6))))), lw_okq q
  exact List.forall_mem_append.mpr ⟨lw_r1, List.forall_mem_append.mpr ⟨lw_r2, List.forall_mem_append.mpr ⟨lw_r3, List.forall_mem_append.mpr ⟨lw_r4, List.forall_mem_append.mpr ⟨lw_r5, lw_r6⟩⟩⟩⟩⟩
end
section
def RX0 : String := "PoolCoast$Basin"
def TX0 : u_T := fun k => match k with
  | 0 => ("PoolCoast$Basin", "area", "I", true)
  | 1 => ("PoolCoast$Basin", "floor", "I", true)
  | 2 => ("PoolCoast$Basin", "wall", "I", true)
  | 3 => ("PoolCoast$Basin", "sill", "I", true)
  | 4 => ("PoolCoast$Basin", "sluiceRate", "I", true)
  | 5 => ("PoolCoast$Basin", "overRate", "I", true)
  | 6 => ("PoolCoast$Basin", "crackLevels", "[I", true)
  | 7 => ("PoolCoast$Basin", "crackRates", "[I", true)
  | 8 => ("PoolCoast$Basin", "crackCount", "I", false)
  | 9 => ("PoolCoast$Basin", "sand", "I", false)
  | 10 => ("PoolCoast$Basin", "weed", "I", false)
  | 11 => ("PoolCoast$Basin", "pumping", "I", false)
  | _ => ("PoolCoast$Basin", "isOpen", "Z", false)
def tyX0 : Nat → FieldType := fun k => match k with
  | 0 => .int
  | 1 => .int
  | 2 => .int
  | 3 => .int
  | 4 => .int
  | 5 => .int
  | 6 => .array .int
  | 7 => .array .int
  | 8 => .int
  | 9 => .int
  | 10 => .int
  | 11 => .int
  | _ => .boolean
abbrev wsX00 : List Cond := u_ws RX0 TX0 13
theorem nmX0 : ∀ a, a < 13 → ∀ b, b < 13 → a ≠ b → (TX0 a).2.1 ≠ (TX0 b).2.1 := by decide +kernel
theorem tyX0_ok : ∀ k, k < 13 → parseFieldDescriptor (TX0 k).2.2.1 = some (tyX0 k) := by decide +kernel
abbrev cX0_init : ByteArray := prog_2_method_1_code
def yX0_init : MethodName := ⟨RX0, "<init>", "(IIIIII)V"⟩
abbrev cX0_takesCrack : ByteArray := prog_2_method_2_code
def yX0_takesCrack : MethodName := ⟨RX0, "takesCrack", "(II)Z"⟩
abbrev cX0_addCrack : ByteArray := prog_2_method_3_code
def yX0_addCrack : MethodName := ⟨RX0, "addCrack", "(II)I"⟩
def RX1 : String := "PoolCoast$Evidence"
def TX1 : u_T := fun k => match k with
  | 0 => ("PoolCoast$Evidence", "area", "I", true)
  | 1 => ("PoolCoast$Evidence", "from", "[I", true)
  | 2 => ("PoolCoast$Evidence", "to", "[I", true)
  | 3 => ("PoolCoast$Evidence", "times", "[I", true)
  | 4 => ("PoolCoast$Evidence", "depths", "[I", true)
  | 5 => ("PoolCoast$Evidence", "rates", "[I", true)
  | 6 => ("PoolCoast$Evidence", "ones", "[I", true)
  | 7 => ("PoolCoast$Evidence", "others", "[I", true)
  | 8 => ("PoolCoast$Evidence", "nights", "I", false)
  | 9 => ("PoolCoast$Evidence", "suspects", "I", false)
  | _ => ("PoolCoast$Evidence", "sets", "I", false)
def tyX1 : Nat → FieldType := fun k => match k with
  | 0 => .int
  | 1 => .array .int
  | 2 => .array .int
  | 3 => .array .int
  | 4 => .array .int
  | 5 => .array .int
  | 6 => .array .int
  | 7 => .array .int
  | 8 => .int
  | 9 => .int
  | _ => .int
abbrev wsX10 : List Cond := u_ws RX1 TX1 11
theorem nmX1 : ∀ a, a < 11 → ∀ b, b < 11 → a ≠ b → (TX1 a).2.1 ≠ (TX1 b).2.1 := by decide +kernel
theorem tyX1_ok : ∀ k, k < 11 → parseFieldDescriptor (TX1 k).2.2.1 = some (tyX1 k) := by decide +kernel
abbrev cX1_init : ByteArray := prog_3_method_1_code
def yX1_init : MethodName := ⟨RX1, "<init>", "(I)V"⟩
abbrev cX1_takesNight : ByteArray := prog_3_method_2_code
def yX1_takesNight : MethodName := ⟨RX1, "takesNight", "(III)Z"⟩
abbrev cX1_addNight : ByteArray := prog_3_method_3_code
def yX1_addNight : MethodName := ⟨RX1, "addNight", "(III)I"⟩
abbrev cX1_takesSuspect : ByteArray := prog_3_method_4_code
def yX1_takesSuspect : MethodName := ⟨RX1, "takesSuspect", "(II)Z"⟩
abbrev cX1_addSuspect : ByteArray := prog_3_method_5_code
def yX1_addSuspect : MethodName := ⟨RX1, "addSuspect", "(II)I"⟩
abbrev cX1_seek : ByteArray := prog_3_method_6_code
def yX1_seek : MethodName := ⟨RX1, "seek", "()I"⟩
abbrev cX1_suspectOf : ByteArray := prog_3_method_7_code
def yX1_suspectOf : MethodName := ⟨RX1, "suspectOf", "(II)I"⟩
abbrev cX1_nextLook : ByteArray := prog_3_method_8_code
def yX1_nextLook : MethodName := ⟨RX1, "nextLook", "()I"⟩
abbrev cX1_spreadFrom : ByteArray := prog_3_method_9_code
def yX1_spreadFrom : MethodName := ⟨RX1, "spreadFrom", "(I)I"⟩
abbrev cX1_addIfExplaining : ByteArray := prog_3_method_10_code
def yX1_addIfExplaining : MethodName := ⟨RX1, "addIfExplaining", "(II)V"⟩
abbrev cX1_depthAfter : ByteArray := prog_3_method_11_code
def yX1_depthAfter : MethodName := ⟨RX1, "depthAfter", "(IIII)I"⟩
abbrev cX1_taken : ByteArray := prog_3_method_12_code
def yX1_taken : MethodName := ⟨RX1, "taken", "(II)I"⟩
def RX2 : String := "PoolCoast$Lease"
def TX2 : u_T := fun k => match k with
  | 0 => ("PoolCoast$Lease", "pool", "I", true)
  | 1 => ("PoolCoast$Lease", "coins", "I", true)
  | 2 => ("PoolCoast$Lease", "first", "I", true)
  | 3 => ("PoolCoast$Lease", "last", "I", true)
  | _ => ("PoolCoast$Lease", "paid", "I", false)
def tyX2 : Nat → FieldType := fun k => match k with
  | 0 => .int
  | 1 => .int
  | 2 => .int
  | 3 => .int
  | _ => .int
abbrev wsX20 : List Cond := u_ws RX2 TX2 5
theorem nmX2 : ∀ a, a < 5 → ∀ b, b < 5 → a ≠ b → (TX2 a).2.1 ≠ (TX2 b).2.1 := by decide +kernel
theorem tyX2_ok : ∀ k, k < 5 → parseFieldDescriptor (TX2 k).2.2.1 = some (tyX2 k) := by decide +kernel
abbrev cX2_init : ByteArray := prog_4_method_1_code
def yX2_init : MethodName := ⟨RX2, "<init>", "(IIII)V"⟩
def RX3 : String := "PoolCoast$Planner"
def TX3 : u_T := fun k => match k with
  | 0 => ("PoolCoast$Planner", "dayPlanned", "[I", true)
  | 1 => ("PoolCoast$Planner", "numbers", "[I", true)
  | 2 => ("PoolCoast$Planner", "costs", "[I", true)
  | 3 => ("PoolCoast$Planner", "chosen", "[I", true)
  | 4 => ("PoolCoast$Planner", "best", "[I", true)
  | 5 => ("PoolCoast$Planner", "busyGangs", "[I", true)
  | 6 => ("PoolCoast$Planner", "size", "I", false)
  | 7 => ("PoolCoast$Planner", "days", "I", false)
  | 8 => ("PoolCoast$Planner", "gangs", "I", false)
  | _ => ("PoolCoast$Planner", "leastCost", "I", false)
def tyX3 : Nat → FieldType := fun k => match k with
  | 0 => .array .int
  | 1 => .array .int
  | 2 => .array .int
  | 3 => .array .int
  | 4 => .array .int
  | 5 => .array .int
  | 6 => .int
  | 7 => .int
  | 8 => .int
  | _ => .int
abbrev wsX30 : List Cond := u_ws RX3 TX3 10
theorem nmX3 : ∀ a, a < 10 → ∀ b, b < 10 → a ≠ b → (TX3 a).2.1 ≠ (TX3 b).2.1 := by decide +kernel
theorem tyX3_ok : ∀ k, k < 10 → parseFieldDescriptor (TX3 k).2.2.1 = some (tyX3 k) := by decide +kernel
abbrev cX3_init : ByteArray := prog_5_method_1_code
def yX3_init : MethodName := ⟨RX3, "<init>", "()V"⟩
abbrev cX3_begin : ByteArray := prog_5_method_2_code
def yX3_begin : MethodName := ⟨RX3, "begin", "(II)V"⟩
abbrev cX3_addPool : ByteArray := prog_5_method_3_code
def yX3_addPool : MethodName := ⟨RX3, "addPool", "(I)I"⟩
abbrev cX3_offer : ByteArray := prog_5_method_4_code
def yX3_offer : MethodName := ⟨RX3, "offer", "(III)V"⟩
abbrev cX3_finish : ByteArray := prog_5_method_5_code
def yX3_finish : MethodName := ⟨RX3, "finish", "(I)I"⟩
abbrev cX3_choose : ByteArray := prog_5_method_6_code
def yX3_choose : MethodName := ⟨RX3, "choose", "(II)V"⟩
abbrev cX3_tryChoice : ByteArray := prog_5_method_7_code
def yX3_tryChoice : MethodName := ⟨RX3, "tryChoice", "(III)V"⟩
def RX4 : String := "PoolCoast$Pool"
def TX4 : u_T := fun k => match k with
  | 0 => ("PoolCoast$Pool", "basin", "LPoolCoast$Basin;", true)
  | 1 => ("PoolCoast$Pool", "number", "I", true)
  | 2 => ("PoolCoast$Pool", "came", "I", true)
  | 3 => ("PoolCoast$Pool", "water", "LPoolCoast$Water;", true)
  | 4 => ("PoolCoast$Pool", "evidence", "LPoolCoast$Evidence;", true)
  | 5 => ("PoolCoast$Pool", "levels", "[I", true)
  | 6 => ("PoolCoast$Pool", "ages", "[I", true)
  | 7 => ("PoolCoast$Pool", "dirts", "[I", true)
  | 8 => ("PoolCoast$Pool", "freeDays", "[I", true)
  | 9 => ("PoolCoast$Pool", "foretold", "LPoolCoast$Water;", true)
  | 10 => ("PoolCoast$Pool", "foretoldTick", "I", false)
  | _ => ("PoolCoast$Pool", "foretoldAt", "I", false)
def tyX4 : Nat → FieldType := fun k => match k with
  | 0 => .object "PoolCoast$Basin"
  | 1 => .int
  | 2 => .int
  | 3 => .object "PoolCoast$Water"
  | 4 => .object "PoolCoast$Evidence"
  | 5 => .array .int
  | 6 => .array .int
  | 7 => .array .int
  | 8 => .array .int
  | 9 => .object "PoolCoast$Water"
  | 10 => .int
  | _ => .int
abbrev wsX40 : List Cond := u_ws RX4 TX4 12
theorem nmX4 : ∀ a, a < 12 → ∀ b, b < 12 → a ≠ b → (TX4 a).2.1 ≠ (TX4 b).2.1 := by decide +kernel
theorem tyX4_ok : ∀ k, k < 12 → parseFieldDescriptor (TX4 k).2.2.1 = some (tyX4 k) := by decide +kernel
abbrev cX4_init : ByteArray := prog_6_method_1_code
def yX4_init : MethodName := ⟨RX4, "<init>", "(LPoolCoast$Basin;III)V"⟩
abbrev cX4_step : ByteArray := prog_6_method_2_code
def yX4_step : MethodName := ⟨RX4, "step", "(LPoolCoast$Water;ILPoolCoast$Tides;LPoolCoast$Waves;)V"⟩
abbrev cX4_foretell : ByteArray := prog_6_method_3_code
def yX4_foretell : MethodName := ⟨RX4, "foretell", "(IIILPoolCoast$Tides;LPoolCoast$Waves;)V"⟩
def RX5 : String := "PoolCoast$Reader"
def TX5 : u_T := fun k => match k with
  | 0 => ("PoolCoast$Reader", "code", "[I", true)
  | 1 => ("PoolCoast$Reader", "length", "I", false)
  | 2 => ("PoolCoast$Reader", "size", "I", false)
  | 3 => ("PoolCoast$Reader", "clauses", "I", false)
  | 4 => ("PoolCoast$Reader", "bytes", "[I", true)
  | 5 => ("PoolCoast$Reader", "place", "I", false)
  | 6 => ("PoolCoast$Reader", "wordEnd", "I", false)
  | 7 => ("PoolCoast$Reader", "compares", "I", false)
  | _ => ("PoolCoast$Reader", "fault", "I", false)
def tyX5 : Nat → FieldType := fun k => match k with
  | 0 => .array .int
  | 1 => .int
  | 2 => .int
  | 3 => .int
  | 4 => .array .int
  | 5 => .int
  | 6 => .int
  | 7 => .int
  | _ => .int
abbrev wsX50 : List Cond := u_ws RX5 TX5 9
theorem nmX5 : ∀ a, a < 9 → ∀ b, b < 9 → a ≠ b → (TX5 a).2.1 ≠ (TX5 b).2.1 := by decide +kernel
theorem tyX5_ok : ∀ k, k < 9 → parseFieldDescriptor (TX5 k).2.2.1 = some (tyX5 k) := by decide +kernel
abbrev cX5_init : ByteArray := prog_7_method_1_code
def yX5_init : MethodName := ⟨RX5, "<init>", "()V"⟩
abbrev cX5_append : ByteArray := prog_7_method_2_code
def yX5_append : MethodName := ⟨RX5, "append", "(I)V"⟩
abbrev cX5_read : ByteArray := prog_7_method_3_code
def yX5_read : MethodName := ⟨RX5, "read", "()I"⟩
abbrev cX5_readEither : ByteArray := prog_7_method_4_code
def yX5_readEither : MethodName := ⟨RX5, "readEither", "(I)V"⟩
abbrev cX5_readBoth : ByteArray := prog_7_method_5_code
def yX5_readBoth : MethodName := ⟨RX5, "readBoth", "(I)V"⟩
abbrev cX5_readOne : ByteArray := prog_7_method_6_code
def yX5_readOne : MethodName := ⟨RX5, "readOne", "(I)V"⟩
abbrev cX5_readNested : ByteArray := prog_7_method_7_code
def yX5_readNested : MethodName := ⟨RX5, "readNested", "(I)V"⟩
abbrev cX5_readCompare : ByteArray := prog_7_method_8_code
def yX5_readCompare : MethodName := ⟨RX5, "readCompare", "(I)V"⟩
abbrev cX5_takeSign : ByteArray := prog_7_method_9_code
def yX5_takeSign : MethodName := ⟨RX5, "takeSign", "()I"⟩
abbrev cX5_takeNumber : ByteArray := prog_7_method_10_code
def yX5_takeNumber : MethodName := ⟨RX5, "takeNumber", "()I"⟩
abbrev cX5_canBegin : ByteArray := prog_7_method_11_code
def yX5_canBegin : MethodName := ⟨RX5, "canBegin", "()Z"⟩
abbrev cX5_takeWord : ByteArray := prog_7_method_12_code
def yX5_takeWord : MethodName := ⟨RX5, "takeWord", "(I)Z"⟩
abbrev cX5_takeByte : ByteArray := prog_7_method_13_code
def yX5_takeByte : MethodName := ⟨RX5, "takeByte", "(I)V"⟩
abbrev cX5_wordHere : ByteArray := prog_7_method_14_code
def yX5_wordHere : MethodName := ⟨RX5, "wordHere", "()I"⟩
abbrev cX5_isNamed : ByteArray := prog_7_method_15_code
def yX5_isNamed : MethodName := ⟨RX5, "isNamed", "(Ljava/lang/String;)Z"⟩
abbrev cX5_nameOf : ByteArray := prog_7_method_16_code
def yX5_nameOf : MethodName := ⟨RX5, "nameOf", "(I)Ljava/lang/String;"⟩
abbrev cX5_skipBlanks : ByteArray := prog_7_method_17_code
def yX5_skipBlanks : MethodName := ⟨RX5, "skipBlanks", "()V"⟩
abbrev cX5_byteHere : ByteArray := prog_7_method_18_code
def yX5_byteHere : MethodName := ⟨RX5, "byteHere", "()I"⟩
abbrev cX5_refuse : ByteArray := prog_7_method_19_code
def yX5_refuse : MethodName := ⟨RX5, "refuse", "(I)V"⟩
abbrev cX5_emit : ByteArray := prog_7_method_20_code
def yX5_emit : MethodName := ⟨RX5, "emit", "(I)V"⟩
def RX6 : String := "PoolCoast$Ruling"
def TX6 : u_T := fun k => match k with
  | 0 => ("PoolCoast$Ruling", "knownFrom", "I", true)
  | 1 => ("PoolCoast$Ruling", "namesTest", "Z", true)
  | _ => ("PoolCoast$Ruling", "code", "[I", true)
def tyX6 : Nat → FieldType := fun k => match k with
  | 0 => .int
  | 1 => .boolean
  | _ => .array .int
abbrev wsX60 : List Cond := u_ws RX6 TX6 3
theorem nmX6 : ∀ a, a < 3 → ∀ b, b < 3 → a ≠ b → (TX6 a).2.1 ≠ (TX6 b).2.1 := by decide +kernel
theorem tyX6_ok : ∀ k, k < 3 → parseFieldDescriptor (TX6 k).2.2.1 = some (tyX6 k) := by decide +kernel
abbrev cX6_init : ByteArray := prog_8_method_1_code
def yX6_init : MethodName := ⟨RX6, "<init>", "([III)V"⟩
abbrev cX6_firstTrue : ByteArray := prog_8_method_2_code
def yX6_firstTrue : MethodName := ⟨RX6, "firstTrue", "([I)I"⟩
abbrev cX6_holds : ByteArray := prog_8_method_3_code
def yX6_holds : MethodName := ⟨RX6, "holds", "(I[I)Z"⟩
def RX7 : String := "PoolCoast$Samples"
def TX7 : u_T := fun k => match k with
  | 0 => ("PoolCoast$Samples", "poolsOf", "[I", true)
  | 1 => ("PoolCoast$Samples", "hours", "[I", true)
  | 2 => ("PoolCoast$Samples", "results", "[I", true)
  | 3 => ("PoolCoast$Samples", "knownFrom", "[I", true)
  | _ => ("PoolCoast$Samples", "size", "I", false)
def tyX7 : Nat → FieldType := fun k => match k with
  | 0 => .array .int
  | 1 => .array .int
  | 2 => .array .int
  | 3 => .array .int
  | _ => .int
abbrev wsX70 : List Cond := u_ws RX7 TX7 5
theorem nmX7 : ∀ a, a < 5 → ∀ b, b < 5 → a ≠ b → (TX7 a).2.1 ≠ (TX7 b).2.1 := by decide +kernel
theorem tyX7_ok : ∀ k, k < 5 → parseFieldDescriptor (TX7 k).2.2.1 = some (tyX7 k) := by decide +kernel
abbrev cX7_init : ByteArray := prog_9_method_1_code
def yX7_init : MethodName := ⟨RX7, "<init>", "()V"⟩
abbrev cX7_add : ByteArray := prog_9_method_2_code
def yX7_add : MethodName := ⟨RX7, "add", "(IIII)I"⟩
abbrev cX7_resultOf : ByteArray := prog_9_method_3_code
def yX7_resultOf : MethodName := ⟨RX7, "resultOf", "(III)I"⟩
def RX8 : String := "PoolCoast$Tides"
def TX8 : u_T := fun k => match k with
  | 0 => ("PoolCoast$Tides", "ticks", "[I", true)
  | 1 => ("PoolCoast$Tides", "levels", "[I", true)
  | _ => ("PoolCoast$Tides", "size", "I", false)
def tyX8 : Nat → FieldType := fun k => match k with
  | 0 => .array .int
  | 1 => .array .int
  | _ => .int
abbrev wsX80 : List Cond := u_ws RX8 TX8 3
theorem nmX8 : ∀ a, a < 3 → ∀ b, b < 3 → a ≠ b → (TX8 a).2.1 ≠ (TX8 b).2.1 := by decide +kernel
theorem tyX8_ok : ∀ k, k < 3 → parseFieldDescriptor (TX8 k).2.2.1 = some (tyX8 k) := by decide +kernel
abbrev cX8_init : ByteArray := prog_10_method_1_code
def yX8_init : MethodName := ⟨RX8, "<init>", "()V"⟩
abbrev cX8_takes : ByteArray := prog_10_method_2_code
def yX8_takes : MethodName := ⟨RX8, "takes", "(II)Z"⟩
abbrev cX8_add : ByteArray := prog_10_method_3_code
def yX8_add : MethodName := ⟨RX8, "add", "(II)I"⟩
abbrev cX8_levelAt : ByteArray := prog_10_method_4_code
def yX8_levelAt : MethodName := ⟨RX8, "levelAt", "(I)I"⟩
abbrev cX8_lowByDay : ByteArray := prog_10_method_5_code
def yX8_lowByDay : MethodName := ⟨RX8, "lowByDay", "(II)Z"⟩
abbrev cX8_turnsUpTo : ByteArray := prog_10_method_6_code
def yX8_turnsUpTo : MethodName := ⟨RX8, "turnsUpTo", "(I)I"⟩
abbrev cX8_changeAfter : ByteArray := prog_10_method_7_code
def yX8_changeAfter : MethodName := ⟨RX8, "changeAfter", "(III)I"⟩
def RX9 : String := "PoolCoast$Water"
def TX9 : u_T := fun k => match k with
  | 0 => ("PoolCoast$Water", "units", "I", false)
  | 1 => ("PoolCoast$Water", "old", "J", false)
  | 2 => ("PoolCoast$Water", "dirt", "I", false)
  | _ => ("PoolCoast$Water", "pumped", "I", false)
def tyX9 : Nat → FieldType := fun k => match k with
  | 0 => .int
  | 1 => .long
  | 2 => .int
  | _ => .int
abbrev wsX90 : List Cond := u_ws RX9 TX9 4
theorem nmX9 : ∀ a, a < 4 → ∀ b, b < 4 → a ≠ b → (TX9 a).2.1 ≠ (TX9 b).2.1 := by decide +kernel
theorem tyX9_ok : ∀ k, k < 4 → parseFieldDescriptor (TX9 k).2.2.1 = some (tyX9 k) := by decide +kernel
abbrev cX9_init : ByteArray := prog_11_method_1_code
def yX9_init : MethodName := ⟨RX9, "<init>", "()V"⟩
abbrev cX9_copy : ByteArray := prog_11_method_2_code
def yX9_copy : MethodName := ⟨RX9, "copy", "(LPoolCoast$Water;)V"⟩
abbrev cX9_depthIn : ByteArray := prog_11_method_3_code
def yX9_depthIn : MethodName := ⟨RX9, "depthIn", "(LPoolCoast$Basin;)I"⟩
abbrev cX9_ageInHours : ByteArray := prog_11_method_4_code
def yX9_ageInHours : MethodName := ⟨RX9, "ageInHours", "()I"⟩
abbrev cX9_flow : ByteArray := prog_11_method_5_code
def yX9_flow : MethodName := ⟨RX9, "flow", "(LPoolCoast$Basin;II)V"⟩
abbrev cX9_flowBySluice : ByteArray := prog_11_method_6_code
def yX9_flowBySluice : MethodName := ⟨RX9, "flowBySluice", "(LPoolCoast$Basin;I)V"⟩
abbrev cX9_flowByCrack : ByteArray := prog_11_method_7_code
def yX9_flowByCrack : MethodName := ⟨RX9, "flowByCrack", "(LPoolCoast$Basin;III)V"⟩
abbrev cX9_flowByPump : ByteArray := prog_11_method_8_code
def yX9_flowByPump : MethodName := ⟨RX9, "flowByPump", "(I)V"⟩
abbrev cX9_flowAtWall : ByteArray := prog_11_method_9_code
def yX9_flowAtWall : MethodName := ⟨RX9, "flowAtWall", "(LPoolCoast$Basin;I)V"⟩
abbrev cX9_comeIn : ByteArray := prog_11_method_10_code
def yX9_comeIn : MethodName := ⟨RX9, "comeIn", "(I)V"⟩
abbrev cX9_goOut : ByteArray := prog_11_method_11_code
def yX9_goOut : MethodName := ⟨RX9, "goOut", "(I)V"⟩
def RX10 : String := "PoolCoast$Waves"
def TX10 : u_T := fun k => match k with
  | 0 => ("PoolCoast$Waves", "latest", "[I", true)
  | 1 => ("PoolCoast$Waves", "earlier", "[I", true)
  | 2 => ("PoolCoast$Waves", "knownFrom", "[I", true)
  | 3 => ("PoolCoast$Waves", "heights", "[I", true)
  | 4 => ("PoolCoast$Waves", "size", "I", false)
  | 5 => ("PoolCoast$Waves", "worst", "I", false)
  | _ => ("PoolCoast$Waves", "storm", "I", false)
def tyX10 : Nat → FieldType := fun k => match k with
  | 0 => .array .int
  | 1 => .array .int
  | 2 => .array .int
  | 3 => .array .int
  | 4 => .int
  | 5 => .int
  | _ => .int
abbrev wsX100 : List Cond := u_ws RX10 TX10 7
theorem nmX10 : ∀ a, a < 7 → ∀ b, b < 7 → a ≠ b → (TX10 a).2.1 ≠ (TX10 b).2.1 := by decide +kernel
theorem tyX10_ok : ∀ k, k < 7 → parseFieldDescriptor (TX10 k).2.2.1 = some (tyX10 k) := by decide +kernel
abbrev cX10_init : ByteArray := prog_12_method_1_code
def yX10_init : MethodName := ⟨RX10, "<init>", "()V"⟩
abbrev cX10_add : ByteArray := prog_12_method_2_code
def yX10_add : MethodName := ⟨RX10, "add", "(III)I"⟩
abbrev cX10_heightOf : ByteArray := prog_12_method_3_code
def yX10_heightOf : MethodName := ⟨RX10, "heightOf", "(II)I"⟩
abbrev cX10_stormyDay : ByteArray := prog_12_method_4_code
def yX10_stormyDay : MethodName := ⟨RX10, "stormyDay", "(I)Z"⟩
def RX11 : String := "PoolCoast"
def TX11 : u_T := fun k => match k with
  | 0 => ("PoolCoast", "tides", "LPoolCoast$Tides;", true)
  | 1 => ("PoolCoast", "waves", "LPoolCoast$Waves;", true)
  | 2 => ("PoolCoast", "pools", "[LPoolCoast$Pool;", true)
  | 3 => ("PoolCoast", "reader", "LPoolCoast$Reader;", true)
  | 4 => ("PoolCoast", "rulings", "[LPoolCoast$Ruling;", true)
  | 5 => ("PoolCoast", "samples", "LPoolCoast$Samples;", true)
  | 6 => ("PoolCoast", "leases", "[LPoolCoast$Lease;", true)
  | 7 => ("PoolCoast", "planner", "LPoolCoast$Planner;", true)
  | 8 => ("PoolCoast", "facts", "[I", true)
  | 9 => ("PoolCoast", "soughtLast", "LPoolCoast$Evidence;", false)
  | 10 => ("PoolCoast", "poolCount", "I", false)
  | 11 => ("PoolCoast", "rulingCount", "I", false)
  | 12 => ("PoolCoast", "leaseCount", "I", false)
  | 13 => ("PoolCoast", "now", "I", false)
  | 14 => ("PoolCoast", "hoursWanted", "I", false)
  | _ => ("PoolCoast", "changes", "I", false)
def tyX11 : Nat → FieldType := fun k => match k with
  | 0 => .object "PoolCoast$Tides"
  | 1 => .object "PoolCoast$Waves"
  | 2 => .array (.object "PoolCoast$Pool")
  | 3 => .object "PoolCoast$Reader"
  | 4 => .array (.object "PoolCoast$Ruling")
  | 5 => .object "PoolCoast$Samples"
  | 6 => .array (.object "PoolCoast$Lease")
  | 7 => .object "PoolCoast$Planner"
  | 8 => .array .int
  | 9 => .object "PoolCoast$Evidence"
  | 10 => .int
  | 11 => .int
  | 12 => .int
  | 13 => .int
  | 14 => .int
  | _ => .int
abbrev wsX110 : List Cond := u_ws RX11 TX11 16
theorem nmX11 : ∀ a, a < 16 → ∀ b, b < 16 → a ≠ b → (TX11 a).2.1 ≠ (TX11 b).2.1 := by decide +kernel
theorem tyX11_ok : ∀ k, k < 16 → parseFieldDescriptor (TX11 k).2.2.1 = some (tyX11 k) := by decide +kernel
abbrev cX11_init : ByteArray := prog_1_method_1_code
def yX11_init : MethodName := ⟨RX11, "<init>", "()V"⟩
abbrev cX11_turn : ByteArray := prog_1_method_2_code
def yX11_turn : MethodName := ⟨RX11, "turn", "(II)I"⟩
abbrev cX11_sea : ByteArray := prog_1_method_3_code
def yX11_sea : MethodName := ⟨RX11, "sea", "(I)I"⟩
abbrev cX11_wave : ByteArray := prog_1_method_4_code
def yX11_wave : MethodName := ⟨RX11, "wave", "(II)I"⟩
abbrev cX11_waved : ByteArray := prog_1_method_5_code
def yX11_waved : MethodName := ⟨RX11, "waved", "(II)I"⟩
abbrev cX11_set : ByteArray := prog_1_method_6_code
def yX11_set : MethodName := ⟨RX11, "set", "(II)I"⟩
abbrev cX11_pool : ByteArray := prog_1_method_7_code
def yX11_pool : MethodName := ⟨RX11, "pool", "(IIIIIII)I"⟩
abbrev cX11_dirt : ByteArray := prog_1_method_8_code
def yX11_dirt : MethodName := ⟨RX11, "dirt", "(III)Z"⟩
abbrev cX11_crack : ByteArray := prog_1_method_9_code
def yX11_crack : MethodName := ⟨RX11, "crack", "(III)I"⟩
abbrev cX11_mend : ByteArray := prog_1_method_10_code
def yX11_mend : MethodName := ⟨RX11, "mend", "(I)I"⟩
abbrev cX11_sluice : ByteArray := prog_1_method_11_code
def yX11_sluice : MethodName := ⟨RX11, "sluice", "(IZ)Z"⟩
abbrev cX11_pump : ByteArray := prog_1_method_12_code
def yX11_pump : MethodName := ⟨RX11, "pump", "(II)I"⟩
abbrev cX11_clean : ByteArray := prog_1_method_13_code
def yX11_clean : MethodName := ⟨RX11, "clean", "(I)I"⟩
abbrev cX11_pass : ByteArray := prog_1_method_14_code
def yX11_pass : MethodName := ⟨RX11, "pass", "(I)I"⟩
abbrev cX11_about : ByteArray := prog_1_method_15_code
def yX11_about : MethodName := ⟨RX11, "about", "(II)I"⟩
abbrev cX11_hour : ByteArray := prog_1_method_16_code
def yX11_hour : MethodName := ⟨RX11, "hour", "(III)I"⟩
abbrev cX11_feed : ByteArray := prog_1_method_17_code
def yX11_feed : MethodName := ⟨RX11, "feed", "(IIIII)I"⟩
abbrev cX11_end : ByteArray := prog_1_method_18_code
def yX11_end : MethodName := ⟨RX11, "end", "(I)I"⟩
abbrev cX11_rules : ByteArray := prog_1_method_19_code
def yX11_rules : MethodName := ⟨RX11, "rules", "()I"⟩
abbrev cX11_test : ByteArray := prog_1_method_20_code
def yX11_test : MethodName := ⟨RX11, "test", "(III)I"⟩
abbrev cX11_closed : ByteArray := prog_1_method_21_code
def yX11_closed : MethodName := ⟨RX11, "closed", "(III)I"⟩
abbrev cX11_open : ByteArray := prog_1_method_22_code
def yX11_open : MethodName := ⟨RX11, "open", "(III)I"⟩
abbrev cX11_free : ByteArray := prog_1_method_23_code
def yX11_free : MethodName := ⟨RX11, "free", "(IIZ)Z"⟩
abbrev cX11_low : ByteArray := prog_1_method_24_code
def yX11_low : MethodName := ⟨RX11, "low", "(II)I"⟩
abbrev cX11_plan : ByteArray := prog_1_method_25_code
def yX11_plan : MethodName := ⟨RX11, "plan", "(IIIII)I"⟩
abbrev cX11_planned : ByteArray := prog_1_method_26_code
def yX11_planned : MethodName := ⟨RX11, "planned", "(I)I"⟩
abbrev cX11_race : ByteArray := prog_1_method_27_code
def yX11_race : MethodName := ⟨RX11, "race", "(IIIIIII)I"⟩
abbrev cX11_night : ByteArray := prog_1_method_28_code
def yX11_night : MethodName := ⟨RX11, "night", "(IIII)I"⟩
abbrev cX11_suspect : ByteArray := prog_1_method_29_code
def yX11_suspect : MethodName := ⟨RX11, "suspect", "(III)I"⟩
abbrev cX11_cause : ByteArray := prog_1_method_30_code
def yX11_cause : MethodName := ⟨RX11, "cause", "(I)I"⟩
abbrev cX11_causes : ByteArray := prog_1_method_31_code
def yX11_causes : MethodName := ⟨RX11, "causes", "(II)I"⟩
abbrev cX11_look : ByteArray := prog_1_method_32_code
def yX11_look : MethodName := ⟨RX11, "look", "()I"⟩
abbrev cX11_lease : ByteArray := prog_1_method_33_code
def yX11_lease : MethodName := ⟨RX11, "lease", "(IIII)I"⟩
abbrev cX11_due : ByteArray := prog_1_method_34_code
def yX11_due : MethodName := ⟨RX11, "due", "(II)I"⟩
abbrev cX11_pay : ByteArray := prog_1_method_35_code
def yX11_pay : MethodName := ⟨RX11, "pay", "(I)I"⟩
abbrev cX11_count : ByteArray := prog_1_method_36_code
def yX11_count : MethodName := ⟨RX11, "count", "(I)I"⟩
abbrev cX11_paidOf : ByteArray := prog_1_method_37_code
def yX11_paidOf : MethodName := ⟨RX11, "paidOf", "(I)I"⟩
abbrev cX11_settingOf : ByteArray := prog_1_method_38_code
def yX11_settingOf : MethodName := ⟨RX11, "settingOf", "(I)I"⟩
abbrev cX11_atEnd : ByteArray := prog_1_method_39_code
def yX11_atEnd : MethodName := ⟨RX11, "atEnd", "()Z"⟩
abbrev cX11_hourNow : ByteArray := prog_1_method_40_code
def yX11_hourNow : MethodName := ⟨RX11, "hourNow", "()I"⟩
abbrev cX11_dayNow : ByteArray := prog_1_method_41_code
def yX11_dayNow : MethodName := ⟨RX11, "dayNow", "()I"⟩
abbrev cX11_poolAt : ByteArray := prog_1_method_42_code
def yX11_poolAt : MethodName := ⟨RX11, "poolAt", "(I)LPoolCoast$Pool;"⟩
abbrev cX11_leaseAt : ByteArray := prog_1_method_43_code
def yX11_leaseAt : MethodName := ⟨RX11, "leaseAt", "(I)LPoolCoast$Lease;"⟩
abbrev cX11_tells : ByteArray := prog_1_method_44_code
def yX11_tells : MethodName := ⟨RX11, "tells", "(LPoolCoast$Pool;I)Z"⟩
abbrev cX11_inForce : ByteArray := prog_1_method_45_code
def yX11_inForce : MethodName := ⟨RX11, "inForce", "(I)LPoolCoast$Ruling;"⟩
abbrev cX11_closingClause : ByteArray := prog_1_method_46_code
def yX11_closingClause : MethodName := ⟨RX11, "closingClause", "(LPoolCoast$Pool;II)I"⟩
abbrev cX11_openHours : ByteArray := prog_1_method_47_code
def yX11_openHours : MethodName := ⟨RX11, "openHours", "(LPoolCoast$Pool;II)I"⟩
abbrev cX11_dueOf : ByteArray := prog_1_method_48_code
def yX11_dueOf : MethodName := ⟨RX11, "dueOf", "(LPoolCoast$Lease;I)I"⟩
abbrev cX11_takeIntoPlan : ByteArray := prog_1_method_49_code
def yX11_takeIntoPlan : MethodName := ⟨RX11, "takeIntoPlan", "(LPoolCoast$Pool;III)V"⟩
abbrev cX11_dirtCost : ByteArray := prog_1_method_50_code
def yX11_dirtCost : MethodName := ⟨RX11, "dirtCost", "(IIIII)I"⟩
abbrev cX11_isHour : ByteArray := prog_1_method_51_code
def yX11_isHour : MethodName := ⟨RX11, "isHour", "(I)Z"⟩
abbrev cX11_isDay : ByteArray := prog_1_method_52_code
def yX11_isDay : MethodName := ⟨RX11, "isDay", "(I)Z"⟩
abbrev cX11_within : ByteArray := prog_1_method_53_code
def yX11_within : MethodName := ⟨RX11, "within", "(III)Z"⟩
abbrev cX11_at : ByteArray := prog_1_method_54_code
def yX11_at : MethodName := ⟨RX11, "at", "([II)I"⟩
abbrev cX11_put : ByteArray := prog_1_method_55_code
def yX11_put : MethodName := ⟨RX11, "put", "([III)V"⟩
def RX12 : String := "PoolCoastModel"
def TX12 : u_T := fun k => match k with
  | 0 => ("PoolCoastModel", "now", "I", false)
  | 1 => ("PoolCoastModel", "turns", "I", false)
  | 2 => ("PoolCoastModel", "turnTick", "[I", true)
  | 3 => ("PoolCoastModel", "turnLevel", "[I", true)
  | 4 => ("PoolCoastModel", "rows", "I", false)
  | 5 => ("PoolCoastModel", "rowHour", "[I", true)
  | 6 => ("PoolCoastModel", "rowKnown", "[I", true)
  | 7 => ("PoolCoastModel", "rowHeight", "[I", true)
  | 8 => ("PoolCoastModel", "set", "[I", true)
  | 9 => ("PoolCoastModel", "twelfths", "[I", true)
  | 10 => ("PoolCoastModel", "pools", "I", false)
  | 11 => ("PoolCoastModel", "area", "[I", true)
  | 12 => ("PoolCoastModel", "floor", "[I", true)
  | 13 => ("PoolCoastModel", "wall", "[I", true)
  | 14 => ("PoolCoastModel", "sill", "[I", true)
  | 15 => ("PoolCoastModel", "sluice", "[I", true)
  | 16 => ("PoolCoastModel", "over", "[I", true)
  | 17 => ("PoolCoastModel", "sand", "[I", true)
  | 18 => ("PoolCoastModel", "weed", "[I", true)
  | 19 => ("PoolCoastModel", "isOpen", "[Z", true)
  | 20 => ("PoolCoastModel", "pump", "[I", true)
  | 21 => ("PoolCoastModel", "water", "[I", true)
  | 22 => ("PoolCoastModel", "old", "[J", true)
  | 23 => ("PoolCoastModel", "dirt", "[I", true)
  | 24 => ("PoolCoastModel", "pumped", "[I", true)
  | 25 => ("PoolCoastModel", "came", "[I", true)
  | 26 => ("PoolCoastModel", "cracks", "[I", true)
  | 27 => ("PoolCoastModel", "crackLevel", "[I", true)
  | 28 => ("PoolCoastModel", "crackRate", "[I", true)
  | 29 => ("PoolCoastModel", "keptLevel", "[I", true)
  | 30 => ("PoolCoastModel", "keptAge", "[I", true)
  | 31 => ("PoolCoastModel", "keptDirt", "[I", true)
  | 32 => ("PoolCoastModel", "isFree", "[Z", true)
  | 33 => ("PoolCoastModel", "worked", "I", false)
  | 34 => ("PoolCoastModel", "workedOld", "J", false)
  | 35 => ("PoolCoastModel", "workedDirt", "I", false)
  | 36 => ("PoolCoastModel", "workedPumped", "I", false)
  | 37 => ("PoolCoastModel", "foreMany", "I", false)
  | 38 => ("PoolCoastModel", "foreLevel", "[I", true)
  | 39 => ("PoolCoastModel", "foreAge", "[I", true)
  | 40 => ("PoolCoastModel", "foreDirt", "[I", true)
  | 41 => ("PoolCoastModel", "isLevel", "I", false)
  | 42 => ("PoolCoastModel", "isAge", "I", false)
  | 43 => ("PoolCoastModel", "isDirt", "I", false)
  | 44 => ("PoolCoastModel", "tape", "[B", true)
  | 45 => ("PoolCoastModel", "taped", "I", false)
  | 46 => ("PoolCoastModel", "next", "I", false)
  | 47 => ("PoolCoastModel", "fault", "I", false)
  | 48 => ("PoolCoastModel", "wordSize", "I", false)
  | 49 => ("PoolCoastModel", "words", "[B", true)
  | 50 => ("PoolCoastModel", "read", "I", false)
  | 51 => ("PoolCoastModel", "readClauses", "I", false)
  | 52 => ("PoolCoastModel", "compares", "I", false)
  | 53 => ("PoolCoastModel", "readStep", "[I", true)
  | 54 => ("PoolCoastModel", "readEnd", "[I", true)
  | 55 => ("PoolCoastModel", "open", "[I", true)
  | 56 => ("PoolCoastModel", "opened", "I", false)
  | 57 => ("PoolCoastModel", "ruleMany", "I", false)
  | 58 => ("PoolCoastModel", "ruleKnown", "[I", true)
  | 59 => ("PoolCoastModel", "ruleClauses", "[I", true)
  | 60 => ("PoolCoastModel", "ruleStep", "[I", true)
  | 61 => ("PoolCoastModel", "ruleEnd", "[I", true)
  | 62 => ("PoolCoastModel", "tests", "I", false)
  | 63 => ("PoolCoastModel", "testPool", "[I", true)
  | 64 => ("PoolCoastModel", "testHour", "[I", true)
  | 65 => ("PoolCoastModel", "testKnown", "[I", true)
  | 66 => ("PoolCoastModel", "testIs", "[I", true)
  | 67 => ("PoolCoastModel", "told", "[I", true)
  | 68 => ("PoolCoastModel", "stack", "[Z", true)
  | 69 => ("PoolCoastModel", "planned", "[I", true)
  | 70 => ("PoolCoastModel", "few", "I", false)
  | 71 => ("PoolCoastModel", "fewOf", "[I", true)
  | 72 => ("PoolCoastModel", "fewDirt", "[I", true)
  | 73 => ("PoolCoastModel", "dayOf", "[I", true)
  | 74 => ("PoolCoastModel", "bestDay", "[I", true)
  | 75 => ("PoolCoastModel", "nights", "[I", true)
  | 76 => ("PoolCoastModel", "nightFrom", "[I", true)
  | 77 => ("PoolCoastModel", "nightTo", "[I", true)
  | 78 => ("PoolCoastModel", "nightTicks", "[I", true)
  | 79 => ("PoolCoastModel", "suspects", "[I", true)
  | 80 => ("PoolCoastModel", "suspectDepth", "[I", true)
  | 81 => ("PoolCoastModel", "suspectRate", "[I", true)
  | 82 => ("PoolCoastModel", "causePool", "I", false)
  | 83 => ("PoolCoastModel", "causeMany", "I", false)
  | 84 => ("PoolCoastModel", "causeFirst", "[I", true)
  | 85 => ("PoolCoastModel", "causeSecond", "[I", true)
  | 86 => ("PoolCoastModel", "leases", "I", false)
  | 87 => ("PoolCoastModel", "leasePool", "[I", true)
  | 88 => ("PoolCoastModel", "leaseCoins", "[I", true)
  | 89 => ("PoolCoastModel", "leaseFirst", "[I", true)
  | 90 => ("PoolCoastModel", "leaseLast", "[I", true)
  | _ => ("PoolCoastModel", "paid", "[I", true)
def tyX12 : Nat → FieldType := fun k => match k with
  | 0 => .int
  | 1 => .int
  | 2 => .array .int
  | 3 => .array .int
  | 4 => .int
  | 5 => .array .int
  | 6 => .array .int
  | 7 => .array .int
  | 8 => .array .int
  | 9 => .array .int
  | 10 => .int
  | 11 => .array .int
  | 12 => .array .int
  | 13 => .array .int
  | 14 => .array .int
  | 15 => .array .int
  | 16 => .array .int
  | 17 => .array .int
  | 18 => .array .int
  | 19 => .array .boolean
  | 20 => .array .int
  | 21 => .array .int
  | 22 => .array .long
  | 23 => .array .int
  | 24 => .array .int
  | 25 => .array .int
  | 26 => .array .int
  | 27 => .array .int
  | 28 => .array .int
  | 29 => .array .int
  | 30 => .array .int
  | 31 => .array .int
  | 32 => .array .boolean
  | 33 => .int
  | 34 => .long
  | 35 => .int
  | 36 => .int
  | 37 => .int
  | 38 => .array .int
  | 39 => .array .int
  | 40 => .array .int
  | 41 => .int
  | 42 => .int
  | 43 => .int
  | 44 => .array .byte
  | 45 => .int
  | 46 => .int
  | 47 => .int
  | 48 => .int
  | 49 => .array .byte
  | 50 => .int
  | 51 => .int
  | 52 => .int
  | 53 => .array .int
  | 54 => .array .int
  | 55 => .array .int
  | 56 => .int
  | 57 => .int
  | 58 => .array .int
  | 59 => .array .int
  | 60 => .array .int
  | 61 => .array .int
  | 62 => .int
  | 63 => .array .int
  | 64 => .array .int
  | 65 => .array .int
  | 66 => .array .int
  | 67 => .array .int
  | 68 => .array .boolean
  | 69 => .array .int
  | 70 => .int
  | 71 => .array .int
  | 72 => .array .int
  | 73 => .array .int
  | 74 => .array .int
  | 75 => .array .int
  | 76 => .array .int
  | 77 => .array .int
  | 78 => .array .int
  | 79 => .array .int
  | 80 => .array .int
  | 81 => .array .int
  | 82 => .int
  | 83 => .int
  | 84 => .array .int
  | 85 => .array .int
  | 86 => .int
  | 87 => .array .int
  | 88 => .array .int
  | 89 => .array .int
  | 90 => .array .int
  | _ => .array .int
abbrev wsX120 : List Cond := u_ws RX12 TX12 92
theorem nmX12 : ∀ a, a < 92 → ∀ b, b < 92 → a ≠ b → (TX12 a).2.1 ≠ (TX12 b).2.1 := by decide +kernel
theorem tyX12_ok : ∀ k, k < 92 → parseFieldDescriptor (TX12 k).2.2.1 = some (tyX12 k) := by decide +kernel
abbrev cX12_init : ByteArray := prog_14_method_1_code
def yX12_init : MethodName := ⟨RX12, "<init>", "()V"⟩
abbrev cX12_in : ByteArray := prog_14_method_2_code
def yX12_in : MethodName := ⟨RX12, "in", "(III)Z"⟩
abbrev cX12_isHour : ByteArray := prog_14_method_3_code
def yX12_isHour : MethodName := ⟨RX12, "isHour", "(I)Z"⟩
abbrev cX12_isDay : ByteArray := prog_14_method_4_code
def yX12_isDay : MethodName := ⟨RX12, "isDay", "(I)Z"⟩
abbrev cX12_isOver : ByteArray := prog_14_method_5_code
def yX12_isOver : MethodName := ⟨RX12, "isOver", "()Z"⟩
abbrev cX12_max : ByteArray := prog_14_method_6_code
def yX12_max : MethodName := ⟨RX12, "max", "(II)I"⟩
abbrev cX12_min : ByteArray := prog_14_method_7_code
def yX12_min : MethodName := ⟨RX12, "min", "(II)I"⟩
abbrev cX12_turn : ByteArray := prog_14_method_8_code
def yX12_turn : MethodName := ⟨RX12, "turn", "(II)I"⟩
abbrev cX12_seaAt : ByteArray := prog_14_method_9_code
def yX12_seaAt : MethodName := ⟨RX12, "seaAt", "(I)I"⟩
abbrev cX12_sea : ByteArray := prog_14_method_10_code
def yX12_sea : MethodName := ⟨RX12, "sea", "(I)I"⟩
abbrev cX12_wave : ByteArray := prog_14_method_11_code
def yX12_wave : MethodName := ⟨RX12, "wave", "(II)I"⟩
abbrev cX12_waveAt : ByteArray := prog_14_method_12_code
def yX12_waveAt : MethodName := ⟨RX12, "waveAt", "(II)I"⟩
abbrev cX12_waved : ByteArray := prog_14_method_13_code
def yX12_waved : MethodName := ⟨RX12, "waved", "(II)I"⟩
abbrev cX12_set : ByteArray := prog_14_method_14_code
def yX12_set : MethodName := ⟨RX12, "set", "(II)I"⟩
abbrev cX12_isPool : ByteArray := prog_14_method_15_code
def yX12_isPool : MethodName := ⟨RX12, "isPool", "(I)Z"⟩
abbrev cX12_pool : ByteArray := prog_14_method_16_code
def yX12_pool : MethodName := ⟨RX12, "pool", "(IIIIIII)I"⟩
abbrev cX12_dirt : ByteArray := prog_14_method_17_code
def yX12_dirt : MethodName := ⟨RX12, "dirt", "(III)Z"⟩
abbrev cX12_crack : ByteArray := prog_14_method_18_code
def yX12_crack : MethodName := ⟨RX12, "crack", "(III)I"⟩
abbrev cX12_mend : ByteArray := prog_14_method_19_code
def yX12_mend : MethodName := ⟨RX12, "mend", "(I)I"⟩
abbrev cX12_sluice : ByteArray := prog_14_method_20_code
def yX12_sluice : MethodName := ⟨RX12, "sluice", "(IZ)Z"⟩
abbrev cX12_pump : ByteArray := prog_14_method_21_code
def yX12_pump : MethodName := ⟨RX12, "pump", "(II)I"⟩
abbrev cX12_levelOf : ByteArray := prog_14_method_22_code
def yX12_levelOf : MethodName := ⟨RX12, "levelOf", "(II)I"⟩
abbrev cX12_clean : ByteArray := prog_14_method_23_code
def yX12_clean : MethodName := ⟨RX12, "clean", "(I)I"⟩
abbrev cX12_goesOut : ByteArray := prog_14_method_24_code
def yX12_goesOut : MethodName := ⟨RX12, "goesOut", "(I)V"⟩
abbrev cX12_comesIn : ByteArray := prog_14_method_25_code
def yX12_comesIn : MethodName := ⟨RX12, "comesIn", "(I)V"⟩
abbrev cX12_throughSluice : ByteArray := prog_14_method_26_code
def yX12_throughSluice : MethodName := ⟨RX12, "throughSluice", "(II)V"⟩
abbrev cX12_throughCrack : ByteArray := prog_14_method_27_code
def yX12_throughCrack : MethodName := ⟨RX12, "throughCrack", "(IIII)V"⟩
abbrev cX12_pumps : ByteArray := prog_14_method_28_code
def yX12_pumps : MethodName := ⟨RX12, "pumps", "(I)V"⟩
abbrev cX12_works : ByteArray := prog_14_method_29_code
def yX12_works : MethodName := ⟨RX12, "works", "(III)V"⟩
abbrev cX12_isStorm : ByteArray := prog_14_method_30_code
def yX12_isStorm : MethodName := ⟨RX12, "isStorm", "(II)Z"⟩
abbrev cX12_ageOf : ByteArray := prog_14_method_31_code
def yX12_ageOf : MethodName := ⟨RX12, "ageOf", "(IJ)I"⟩
abbrev cX12_takes : ByteArray := prog_14_method_32_code
def yX12_takes : MethodName := ⟨RX12, "takes", "(I)V"⟩
abbrev cX12_pass : ByteArray := prog_14_method_33_code
def yX12_pass : MethodName := ⟨RX12, "pass", "(I)I"⟩
abbrev cX12_about : ByteArray := prog_14_method_34_code
def yX12_about : MethodName := ⟨RX12, "about", "(II)I"⟩
abbrev cX12_lastTold : ByteArray := prog_14_method_35_code
def yX12_lastTold : MethodName := ⟨RX12, "lastTold", "()I"⟩
abbrev cX12_foretells : ByteArray := prog_14_method_36_code
def yX12_foretells : MethodName := ⟨RX12, "foretells", "(II)V"⟩
abbrev cX12_looks : ByteArray := prog_14_method_37_code
def yX12_looks : MethodName := ⟨RX12, "looks", "(II)V"⟩
abbrev cX12_hour : ByteArray := prog_14_method_38_code
def yX12_hour : MethodName := ⟨RX12, "hour", "(III)I"⟩
abbrev cX12_four : ByteArray := prog_14_method_39_code
def yX12_four : MethodName := ⟨RX12, "four", "(I)V"⟩
abbrev cX12_feed : ByteArray := prog_14_method_40_code
def yX12_feed : MethodName := ⟨RX12, "feed", "(IIIII)I"⟩
abbrev cX12_end : ByteArray := prog_14_method_41_code
def yX12_end : MethodName := ⟨RX12, "end", "(I)I"⟩
abbrev cX12_fails : ByteArray := prog_14_method_42_code
def yX12_fails : MethodName := ⟨RX12, "fails", "(II)Z"⟩
abbrev cX12_see : ByteArray := prog_14_method_43_code
def yX12_see : MethodName := ⟨RX12, "see", "()I"⟩
abbrev cX12_wordHere : ByteArray := prog_14_method_44_code
def yX12_wordHere : MethodName := ⟨RX12, "wordHere", "()I"⟩
abbrev cX12_writes : ByteArray := prog_14_method_45_code
def yX12_writes : MethodName := ⟨RX12, "writes", "(I)V"⟩
abbrev cX12_deep : ByteArray := prog_14_method_46_code
def yX12_deep : MethodName := ⟨RX12, "deep", "()I"⟩
abbrev cX12_compare : ByteArray := prog_14_method_47_code
def yX12_compare : MethodName := ⟨RX12, "compare", "(I)Z"⟩
abbrev cX12_begins : ByteArray := prog_14_method_48_code
def yX12_begins : MethodName := ⟨RX12, "begins", "(Z)Z"⟩
abbrev cX12_closesNots : ByteArray := prog_14_method_49_code
def yX12_closesNots : MethodName := ⟨RX12, "closesNots", "()V"⟩
abbrev cX12_closesDown : ByteArray := prog_14_method_50_code
def yX12_closesDown : MethodName := ⟨RX12, "closesDown", "(I)V"⟩
abbrev cX12_text : ByteArray := prog_14_method_51_code
def yX12_text : MethodName := ⟨RX12, "text", "()Z"⟩
abbrev cX12_rules : ByteArray := prog_14_method_52_code
def yX12_rules : MethodName := ⟨RX12, "rules", "()I"⟩
abbrev cX12_test : ByteArray := prog_14_method_53_code
def yX12_test : MethodName := ⟨RX12, "test", "(III)I"⟩
abbrev cX12_testAt : ByteArray := prog_14_method_54_code
def yX12_testAt : MethodName := ⟨RX12, "testAt", "(III)I"⟩
abbrev cX12_isSo : ByteArray := prog_14_method_55_code
def yX12_isSo : MethodName := ⟨RX12, "isSo", "(III)Z"⟩
abbrev cX12_isTrue : ByteArray := prog_14_method_56_code
def yX12_isTrue : MethodName := ⟨RX12, "isTrue", "(III)Z"⟩
abbrev cX12_rulesAt : ByteArray := prog_14_method_57_code
def yX12_rulesAt : MethodName := ⟨RX12, "rulesAt", "(I)I"⟩
abbrev cX12_closedAt : ByteArray := prog_14_method_58_code
def yX12_closedAt : MethodName := ⟨RX12, "closedAt", "(III)I"⟩
abbrev cX12_closed : ByteArray := prog_14_method_59_code
def yX12_closed : MethodName := ⟨RX12, "closed", "(III)I"⟩
abbrev cX12_openHours : ByteArray := prog_14_method_60_code
def yX12_openHours : MethodName := ⟨RX12, "openHours", "(III)I"⟩
abbrev cX12_open : ByteArray := prog_14_method_61_code
def yX12_open : MethodName := ⟨RX12, "open", "(III)I"⟩
abbrev cX12_free : ByteArray := prog_14_method_62_code
def yX12_free : MethodName := ⟨RX12, "free", "(IIZ)Z"⟩
abbrev cX12_isLow : ByteArray := prog_14_method_63_code
def yX12_isLow : MethodName := ⟨RX12, "isLow", "(II)Z"⟩
abbrev cX12_low : ByteArray := prog_14_method_64_code
def yX12_low : MethodName := ⟨RX12, "low", "(II)I"⟩
abbrev cX12_mayBe : ByteArray := prog_14_method_65_code
def yX12_mayBe : MethodName := ⟨RX12, "mayBe", "(III)Z"⟩
abbrev cX12_costOf : ByteArray := prog_14_method_66_code
def yX12_costOf : MethodName := ⟨RX12, "costOf", "(II)I"⟩
abbrev cX12_plan : ByteArray := prog_14_method_67_code
def yX12_plan : MethodName := ⟨RX12, "plan", "(IIIII)I"⟩
abbrev cX12_planned : ByteArray := prog_14_method_68_code
def yX12_planned : MethodName := ⟨RX12, "planned", "(I)I"⟩
abbrev cX12_race : ByteArray := prog_14_method_69_code
def yX12_race : MethodName := ⟨RX12, "race", "(IIIIIII)I"⟩
abbrev cX12_night : ByteArray := prog_14_method_70_code
def yX12_night : MethodName := ⟨RX12, "night", "(IIII)I"⟩
abbrev cX12_suspect : ByteArray := prog_14_method_71_code
def yX12_suspect : MethodName := ⟨RX12, "suspect", "(III)I"⟩
abbrev cX12_taken : ByteArray := prog_14_method_72_code
def yX12_taken : MethodName := ⟨RX12, "taken", "(III)I"⟩
abbrev cX12_depthBy : ByteArray := prog_14_method_73_code
def yX12_depthBy : MethodName := ⟨RX12, "depthBy", "(IIIII)I"⟩
abbrev cX12_explains : ByteArray := prog_14_method_74_code
def yX12_explains : MethodName := ⟨RX12, "explains", "(III)Z"⟩
abbrev cX12_notes : ByteArray := prog_14_method_75_code
def yX12_notes : MethodName := ⟨RX12, "notes", "(III)V"⟩
abbrev cX12_cause : ByteArray := prog_14_method_76_code
def yX12_cause : MethodName := ⟨RX12, "cause", "(I)I"⟩
abbrev cX12_causes : ByteArray := prog_14_method_77_code
def yX12_causes : MethodName := ⟨RX12, "causes", "(II)I"⟩
abbrev cX12_look : ByteArray := prog_14_method_78_code
def yX12_look : MethodName := ⟨RX12, "look", "()I"⟩
abbrev cX12_lease : ByteArray := prog_14_method_79_code
def yX12_lease : MethodName := ⟨RX12, "lease", "(IIII)I"⟩
abbrev cX12_dueAt : ByteArray := prog_14_method_80_code
def yX12_dueAt : MethodName := ⟨RX12, "dueAt", "(II)I"⟩
abbrev cX12_due : ByteArray := prog_14_method_81_code
def yX12_due : MethodName := ⟨RX12, "due", "(II)I"⟩
abbrev cX12_pay : ByteArray := prog_14_method_82_code
def yX12_pay : MethodName := ⟨RX12, "pay", "(I)I"⟩
abbrev cX12_count : ByteArray := prog_14_method_83_code
def yX12_count : MethodName := ⟨RX12, "count", "(I)I"⟩
def RJ7 : String := "java/util/Arrays"
abbrev cJ7_fill_53178 : ByteArray := prog_21_method_103_code
def yJ7_fill_53178 : MethodName := ⟨RJ7, "fill", "([II)V"⟩
def RL : String := "PoolCoastLaw"
abbrev cL_law : ByteArray := code
def yL_law : MethodName := ⟨RL, "law", "([I)Z"⟩
abbrev vwCl : List vw_C := [(RX0, TX0, 13), (RX1, TX1, 11), (RX2, TX2, 5), (RX3, TX3, 10), (RX4, TX4, 12), (RX5, TX5, 9), (RX6, TX6, 3), (RX7, TX7, 5), (RX8, TX8, 3), (RX9, TX9, 4), (RX10, TX10, 7), (RX11, TX11, 16), (RX12, TX12, 92)]
end
section
/-! own rows: the words that hold at every start, one list for all methods -/
def Wd : List Cond := lw_tbl.filter goodWord
theorem wdm {w : Cond} (i : Nat) (h : lw_tbl[i]? = some w) (g : goodWord w = true) : w ∈ Wd := List.mem_filter.mpr ⟨List.mem_of_getElem? h, g⟩
theorem wdS {ws : List Cond} (ps : List Nat) (hp : ws = ps.filterMap (fun i => lw_tbl[i]?)) (h : ws.all goodWord = true) : ∀ w ∈ ws, w ∈ Wd := by
  intro w hw
  have h1 := List.all_eq_true.mp h w hw
  rw [hp] at hw
  obtain ⟨i, -, hi⟩ := List.mem_filterMap.mp hw
  exact wdm i hi h1
theorem gWd : GoodIn Wd Wd := fun w h => ⟨h, good_of_word (List.mem_filter.mp h).2⟩
theorem gWc {y : MethodName} {b : ByteArray} {n : Nat} {r : Option FieldType} (h : Cond.code y b n r ∈ Wd) : GoodIn Wd (Cond.code y b n r :: Wd) := fun w hw => (List.mem_cons.mp hw).elim (fun e => e ▸ gWd _ h) (gWd w)
theorem gWa {a b : List Cond} (ha : ∀ w ∈ a, w ∈ Wd) (hb : GoodIn Wd b) : GoodIn Wd (a ++ b) := fun w hw => (List.mem_append.mp hw).elim (fun h => gWd w (ha w h)) (hb w)
section KW
variable {R : Room} {s : State} {args : Array Value} {own C : String} {index maxL mc ms : Nat} {y : MethodName} {bytes : ByteArray} {ret : Option FieldType} {rm : Room}
theorem kw_V (n : Nat) (ht : ∀ w ∈ Wd, w.before args s = true) (h1 : Cond.methodLink own index y ∈ Wd) (h2 : Cond.instanceMethod y ∈ Wd) (h3 : Cond.selects C y y ∈ Wd) (h4 : Cond.initialized C ∈ Wd) (h5 : Cond.code y bytes maxL ret ∈ Wd) (hrc : rm.cells = mc) (hrs : rm.slots = ms)
    (hd : y.cls = C ∧ y.cls ≠ "java/lang/invoke/MethodHandle" ∧ y.cls ≠ "java/lang/invoke/VarHandle" ∧ (parseMethodDescriptor y.desc).map (fun d => d.parameters.length) = some n) (hR : rm.frames + 1 ≤ R.frames ∧ 8 + (maxL + 11) + rm.locals ≤ R.locals) :
    CallW R s args own C index y bytes maxL ret (Cond.code y bytes maxL ret :: Wd) rm mc ms n :=
  cwV n ht (gWa (List.forall_mem_cons.mpr ⟨h1, List.forall_mem_cons.mpr ⟨h2, List.forall_mem_cons.mpr ⟨h3, List.forall_mem_cons.mpr ⟨h4, fun _ h => absurd h List.not_mem_nil⟩⟩⟩⟩) (gWc h5)) rfl hrc hrs hd hR
theorem kw_S (n : Nat) (ht : ∀ w ∈ Wd, w.before args s = true) (h1 : Cond.methodLink own index y ∈ Wd) (h2 : Cond.static y ∈ Wd) (h4 : Cond.initialized y.cls ∈ Wd) (h5 : Cond.code y bytes maxL ret ∈ Wd) (hrc : rm.cells = mc) (hrs : rm.slots = ms)
    (hd : y.cls ≠ "java/lang/invoke/MethodHandle" ∧ y.cls ≠ "java/lang/invoke/VarHandle" ∧ (parseMethodDescriptor y.desc).map (fun d => d.parameters.length) = some n) (hR : rm.frames + 1 ≤ R.frames ∧ 8 + (maxL + 11) + rm.locals ≤ R.locals) :
    CallB R s args own index y bytes maxL ret (Cond.code y bytes maxL ret :: Wd) rm mc ms n ∧ (Cond.static y).before args s = true :=
  va_cwS n ht (gWa (List.forall_mem_cons.mpr ⟨h1, List.forall_mem_cons.mpr ⟨h2, List.forall_mem_cons.mpr ⟨h4, fun _ h => absurd h List.not_mem_nil⟩⟩⟩) (gWc h5)) rfl hrc hrs hd hR
theorem kw_I (n : Nat) (ht : ∀ w ∈ Wd, w.before args s = true) (h1 : Cond.methodLink own index y ∈ Wd) (h2 : Cond.instanceMethod y ∈ Wd) (h4 : Cond.initialized y.cls ∈ Wd) (h5 : Cond.code y bytes maxL none ∈ Wd) (hrc : rm.cells = mc) (hrs : rm.slots = ms) (hy1 : y.name = "<init>")
    (hd : y.cls ≠ "java/lang/invoke/MethodHandle" ∧ y.cls ≠ "java/lang/invoke/VarHandle" ∧ (parseMethodDescriptor y.desc).map (fun d => d.parameters.length) = some n) (hR : rm.frames + 1 ≤ R.frames ∧ 8 + (maxL + 11) + rm.locals ≤ R.locals) :
    CallB R s args own index y bytes maxL none (Cond.code y bytes maxL none :: Wd) rm mc ms n ∧ y.name = "<init>" ∧ (Cond.instanceMethod y).before args s = true :=
  cwI n ht (gWc h5) rfl hrc hrs (ht _ h4) (ht _ h1) (ht _ h2) hy1 hd hR
theorem kw_SN {host : String} (n : Nat) (ht : ∀ w ∈ Wd, w.before args s = true) (h1 : va_Nw (.methodLinkNest own index y host) s) (h2 : Cond.static y ∈ Wd) (h4 : Cond.initialized y.cls ∈ Wd) (h5 : Cond.code y bytes maxL ret ∈ Wd) (hrc : rm.cells = mc) (hrs : rm.slots = ms)
    (hd : y.cls ≠ "java/lang/invoke/MethodHandle" ∧ y.cls ≠ "java/lang/invoke/VarHandle" ∧ (parseMethodDescriptor y.desc).map (fun d => d.parameters.length) = some n) (hR : rm.frames + 1 ≤ R.frames ∧ 8 + (maxL + 11) + rm.locals ≤ R.locals) :
    va_CN R s args own index y host bytes maxL ret (Cond.code y bytes maxL ret :: Wd) rm mc ms n ∧ (Cond.static y).before args s = true ∧ True :=
  ⟨va_cnB n ht (gWc h5) rfl hrc hrs h1 (ht _ h4) hd hR, ht _ h2, trivial⟩
theorem kw_IN {host : String} (n : Nat) (ht : ∀ w ∈ Wd, w.before args s = true) (h1 : va_Nw (.methodLinkNest own index y host) s) (h2 : Cond.instanceMethod y ∈ Wd) (h4 : Cond.initialized y.cls ∈ Wd) (h5 : Cond.code y bytes maxL none ∈ Wd) (hrc : rm.cells = mc) (hrs : rm.slots = ms) (hy1 : y.name = "<init>")
    (hd : y.cls ≠ "java/lang/invoke/MethodHandle" ∧ y.cls ≠ "java/lang/invoke/VarHandle" ∧ (parseMethodDescriptor y.desc).map (fun d => d.parameters.length) = some n) (hR : rm.frames + 1 ≤ R.frames ∧ 8 + (maxL + 11) + rm.locals ≤ R.locals) :
    va_CN R s args own index y host bytes maxL none (Cond.code y bytes maxL none :: Wd) rm mc ms n ∧ y.name = "<init>" ∧ (Cond.instanceMethod y).before args s = true :=
  ⟨va_cnB n ht (gWc h5) rfl hrc hrs h1 (ht _ h4) hd hR, hy1, ht _ h2⟩
end KW
/-! own rows: the nest links, worlds with fixed array classes, entry, calls and ends in one step -/
def nwL : List (String × Nat × MethodName) := [(RX11, 11, yX8_init), (RX11, 18, yX10_init), (RX11, 31, yX5_init), (RX11, 44, yX7_init), (RX8, 22, yX11_within), (RX8, 26, yX11_at), (RX8, 30, yX11_put), (RX10, 34, yX11_at), (RX10, 38, yX11_put), (RX4, 11, yX9_init), (RX5, 22, yX11_put)]
def NW (U : State) : Prop := ∀ q ∈ nwL, va_Nw (.methodLinkNest q.1 q.2.1 q.2.2 "PoolCoast") U
theorem NW.warm {s U : State} (hW : s.WarmedH U.vm) (h : NW s) : NW U := fun q hq => va_Nw.warmM hW (h q hq)
theorem NW.same {u U : State} (e : u.vm = U.vm) (h : NW u) : NW U := fun q hq => va_Nw.same rfl e (h q hq)
def aoL : List String := [RX4, RX6, RX2]
abbrev TY (c : Nat → ClassId) : List (ClassId × FieldType) := [(c 0, .int), (c 1, .byte), (c 2, .boolean), (c 3, .long), (c 4, .object RX4), (c 5, .object RX6), (c 6, .object RX2)]
def WB (D : va_G) (c : Nat → ClassId) (ws : va_W) (sz : Nat) (U : State) : Prop := U.heap.size = sz ∧ va_P D vwCl ws U.heap ∧ va_K D vwCl (TY c) U ∧ va_D (fun _ => True) ws ∧ NW U ∧ ∀ C ∈ aoL, va_AO C U
def WE (D : va_G) (c : Nat → ClassId) (A : Nat → Prop) (ws : va_W) (t : State) : Prop := va_P D vwCl ws t.heap ∧ va_K D vwCl (TY c) t ∧ va_D A ws
theorem WB.blind {D : va_G} {c : Nat → ClassId} {As : List Value} {ws : va_W} {sz : Nat} : FrameBlind (va_Pc As (WB D c ws sz)) := fun a U g mk h => by
  obtain ⟨h0, h1, h2, h3, h4, h5, h6⟩ := h
  exact ⟨h0, h1, h2, va_K.moved (u := U) (U := U.calling g mk a) (Vm.Alike.refl U.vm) h3, h4, NW.same rfl h5, fun C hC => va_AO.moved (u := U) (U := U.calling g mk a) (Vm.Alike.refl U.vm) (h6 C hC)⟩
theorem pre_S {s : State} {H : Heap} {D : va_G} {c : Nat → ClassId} {A : Nat → Prop} {wc : va_W} {As : List Value} (hP : va_P D vwCl wc H) (hK : va_K D vwCl (TY c) s) (hD : va_D A wc) (hN : NW s) (hO : ∀ C ∈ aoL, va_AO C s) : PreS s H (va_Pc As (WB D c wc H.size)) As := ⟨WB.blind, fun U hU hW => ⟨rfl, by rw [hU], by rw [hU]; exact hP, va_K.moved hW.alike hK, hD.weaken (fun _ _ _ _ => trivial), hN.warm hW, fun C hC => va_AO.moved hW.alike (hO C hC)⟩⟩
theorem pre_V {s : State} {H : Heap} {D : va_G} {c : Nat → ClassId} {A : Nat → Prop} {wc : va_W} {As : List Value} {b q0 ci : Nat} {q : vw_C} {fs : List Value} (hP : va_P D vwCl wc H) (hK : va_K D vwCl (TY c) s) (hD : va_D A wc) (hN : NW s) (hO : ∀ C ∈ aoL, va_AO C s) (hc : vwCl[ci]? = some q) (he : wc[q0]? = some (b, .inr (ci, fs))) : PreV s H q.1 b (va_Pc (.ref b :: As) (WB D c wc H.size)) As := ⟨WB.blind, va_recv hK hP hc he, fun U hU hW => ⟨rfl, by rw [hU], by rw [hU]; exact hP, va_K.moved hW.alike hK, hD.weaken (fun _ _ _ _ => trivial), hN.warm hW, fun C hC => va_AO.moved hW.alike (hO C hC)⟩⟩
def QI {S : Type} (D : va_G) (c : Nat → ClassId) (post : Int32 → S → Prop) (w1 : S → va_W) (A : Nat → Prop) : Array Value → State → Outcome → State → Prop := va_Qi post (fun u t => WE D c A (w1 u) t) A
def QV {S : Type} (D : va_G) (c : Nat → ClassId) (post : S → Prop) (w1 : S → va_W) (A : Nat → Prop) : Array Value → State → Outcome → State → Prop := va_Qv post (fun u t => WE D c A (w1 u) t) A
def QN {S : Type} (D : va_G) (c : Nat → ClassId) (w1 : S → va_W) (A : Nat → Prop) : Array Value → State → Outcome → State → Prop := va_Qq (fun r _ => r = none) (fun u t => WE D c A (w1 u) t) A
theorem kz_met {l : Launch} {y : MethodName} {D : va_G} {c : Nat → ClassId} {wc : va_W} {sz : Nat} {As : List Value} {cc : ByteArray} {maxL : Nat} {ret : Option FieldType} {rm : Room} {Qc : (Nat → Prop) → Array Value → State → Outcome → State → Prop} {mc ms : Nat} (hy : plainName y.cls = true) (hlen : (lg_sl As).length ≤ maxL)
    (body : ∀ (p : Program) (e : Env) (s : State) (m : MethodId) (below : List Frame) (meth : Method) (cd : Code) (A : Nat → Prop) (ls : Array Slot), p.tables.exec = Jvm.exec → cd.code = cc → meth.sig.returnType = ret → cd.maxLocals = maxL → (∀ w ∈ Wd, w.before As.toArray s = true) → s.vm.findClass y.cls = some m.cls → meth.locks = false → meth.name = y.name → NW s → (∀ C ∈ aoL, va_AO C s) → va_K D vwCl (TY c) s → va_P D vwCl wc s.heap → va_D A wc → va_S A s.heap s.heap [] → (∀ q : Nat, s.heap.size ≤ q → A q) → lv_has ls maxL (lv_args 0 As) →
      W p l e (headSpec (Cond.code y cc maxL ret :: Wd) rm).room s m As.toArray below meth cd s.heap [] 0 0 (MQ below (Qc A) As.toArray s mc ms A) (F0 m 0 ls [])) : Met l y (Cond.code y cc maxL ret :: Wd) rm (va_Pc As (WB D c wc sz)) (Qc (va_A wc sz)) mc ms (va_A wc sz) := by
  refine Met.ofW (cc := cc) (maxL := maxL) (ret := ret) hy rfl ?_
  intro p e s m args below meth cd s₁ B hml hv
  obtain ⟨rfl, hsz, hP, hK, hD0, hN, hO⟩ := hv
  subst hsz
  have hl := lv_entry As (n := maxL) hlen
  rw [lg_entry_eq]
  exact body p e s m below meth cd _ _ B.exec B.bytes B.returns hml (fun w hw => atoms_spec (ws := Cond.code y cc maxL ret :: Wd) B.pre w (List.mem_cons_of_mem _ hw)) (findClass_of_methodNamed B.named) B.notSynchronized (name_of_methodNamed B.named B.method).1 hN hO hK hP hD0.self va_S.rf (fun q h => Or.inr h) hl
theorem fm_of_map {α β : Type} {f : α → Option β} {is : List α} {l : List β} (h : is.map f = l.map some) : is.filterMap f = l := by
  have h1 : (is.map f).filterMap id = (l.map some).filterMap id := by rw [h]
  simpa [List.filterMap_map] using h1
section KZ
variable {p : Program} {l : Launch} {e : Env} {R : Room} {s : State} {m : MethodId} {args : Array Value} {below : List Frame} {meth : Method} {cd : Code} {H : Heap} {locs : List Loc} {cells slots : Nat} {Q : State → Prop} {cc : ByteArray} {pc : Nat} {ls : Array Slot} {D : va_G} {c : Nat → ClassId} {A : Nat → Prop} {ws wc wr : va_W} {rest st0 : List Value} {a : Array Value} {H0 : Heap} {mc ms : Nat}
theorem rt_i {S : Type} {post : Int32 → S → Prop} {w1 : S → va_W} {v : Int32} {ty : FieldType} (hx : p.tables.exec = Jvm.exec) (hb : cd.code = cc) (hr : meth.sig.returnType = some ty) (hlocks : meth.locks = false) (hK : va_K D vwCl (TY c) s) (hP : va_P D vwCl ws H) (hD : va_D A ws) (hS : va_S A s.heap H locs) (hn : narrow ty (.int v) = .int v) (hdg : decode cc pc = .ok (.ireturn, 1)) (u : S) (is : List Nat) (hnd : va_nd is = true) (hs : is.map (fun i => ws[i]?) = (w1 u).map some) (hpost : post v u) : W p l e R s m args below meth cd H locs cells slots (MQ below (QI D c post w1 A) args s cells slots A) (F0 m pc ls [.int v]) :=
  W.zret hx hb hr hn (fun t ht hW => ⟨⟨v, u, rfl, hpost, by rw [ht]; exact hP.sub is (fm_of_map hs), va_K.moved hW.alike hK, hD.sub is hnd hs⟩, hS.F ht⟩) hS.2.2 hdg hlocks
theorem rt_v {S : Type} {post : S → Prop} {w1 : S → va_W} (hx : p.tables.exec = Jvm.exec) (hb : cd.code = cc) (hr : meth.sig.returnType = none) (hlocks : meth.locks = false) (hK : va_K D vwCl (TY c) s) (hP : va_P D vwCl ws H) (hD : va_D A ws) (hS : va_S A s.heap H locs) (hdg : decode cc pc = .ok (.return_, 1)) (u : S) (is : List Nat) (hnd : va_nd is = true) (hs : is.map (fun i => ws[i]?) = (w1 u).map some) (hpost : post u) : W p l e R s m args below meth cd H locs cells slots (MQ below (QV D c post w1 A) args s cells slots A) (F0 m pc ls []) :=
  W.vret hx hb hr (fun t ht hW => ⟨⟨u, rfl, hpost, by rw [ht]; exact hP.sub is (fm_of_map hs), va_K.moved hW.alike hK, hD.sub is hnd hs⟩, hS.F ht⟩) hS.2.2 hdg hlocks
theorem rt_n {S : Type} {w1 : S → va_W} {rt : FieldType} (hx : p.tables.exec = Jvm.exec) (hb : cd.code = cc) (hr : meth.sig.returnType = some rt) (hrt : (∃ n, rt = .object n) ∨ ∃ t, rt = .array t) (hlocks : meth.locks = false) (hK : va_K D vwCl (TY c) s) (hP : va_P D vwCl ws H) (hD : va_D A ws) (hS : va_S A s.heap H locs) (hdg : decode cc pc = .ok (.areturn, 1)) (u : S) (is : List Nat) (hnd : va_nd is = true) (hs : is.map (fun i => ws[i]?) = (w1 u).map some) : W p l e R s m args below meth cd H locs cells slots (MQ below (QN D c w1 A) args s cells slots A) (F0 m pc ls [.null]) :=
  W.aret hx hb hr hrt (Or.inl rfl) (fun t ht hW => ⟨⟨none, u, rfl, rfl, by rw [ht]; exact hP.sub is (fm_of_map hs), va_K.moved hW.alike hK, hD.sub is hnd hs⟩, hS.F ht⟩) hS.2.2 hdg hlocks
theorem cl_i {S : Type} {post : Int32 → S → Prop} {w1 : S → va_W} (hr : va_Run p l e R s m args below meth cd H locs cells slots mc ms (F0 m pc ls st0) rest (QI D c post w1 (va_A wc H.size) a) (va_A wc H.size)) (hP : va_P D vwCl ws H) (hD : va_D A ws) (hS : va_S A H0 H locs) (hA : ∀ q, H0.size ≤ q → A q) (isC isR : List Nat) (hC : isC.map (fun i => ws[i]?) = wc.map some) (hR : isR.map (fun i => ws[i]?) = wr.map some) (hn : va_nd isR = true) (hdis : ∀ i ∈ isR, i ∉ isC)
    (kk : ∀ (r : Int32) (u : S) (H1 : Heap) (locs1 : List Loc), post r u → va_P D vwCl (wr ++ w1 u) H1 → va_D A (wr ++ w1 u) → va_S A H0 H1 locs1 → W p l e R s m args below meth cd H1 locs1 (cells + mc) (slots + ms) Q (F0 m (pc + 3) ls (.int r :: rest))) : W p l e R s m args below meth cd H locs cells slots Q (F0 m pc ls st0) := by
  have hF := va_free (wc := wc) hD hS hA isC hC
  refine va_calli hr hS (fun q _ h => hF q h) hF (fun r u t H1 locs1 ht hvm hw hB hz hk hS => ?_)
  obtain ⟨hP1, hK1, hD1⟩ := hB
  rw [ht] at hP1
  obtain ⟨hP, hD⟩ := va_join hP hD isC isR hC hR hn hdis hk hF hP1 hD1
  exact kk r u H1 locs1 hw hP hD hS
theorem cl_v {S : Type} {post : S → Prop} {w1 : S → va_W} (hr : va_Run p l e R s m args below meth cd H locs cells slots mc ms (F0 m pc ls st0) rest (QV D c post w1 (va_A wc H.size) a) (va_A wc H.size)) (hP : va_P D vwCl ws H) (hD : va_D A ws) (hS : va_S A H0 H locs) (hA : ∀ q, H0.size ≤ q → A q) (isC isR : List Nat) (hC : isC.map (fun i => ws[i]?) = wc.map some) (hR : isR.map (fun i => ws[i]?) = wr.map some) (hn : va_nd isR = true) (hdis : ∀ i ∈ isR, i ∉ isC)
    (kk : ∀ (u : S) (H1 : Heap) (locs1 : List Loc), post u → va_P D vwCl (wr ++ w1 u) H1 → va_D A (wr ++ w1 u) → va_S A H0 H1 locs1 → W p l e R s m args below meth cd H1 locs1 (cells + mc) (slots + ms) Q (F0 m (pc + 3) ls rest)) : W p l e R s m args below meth cd H locs cells slots Q (F0 m pc ls st0) := by
  have hF := va_free (wc := wc) hD hS hA isC hC
  refine va_callv hr hS (fun q _ h => hF q h) hF (fun u t H1 locs1 ht hvm hw hB hz hk hS => ?_)
  obtain ⟨hP1, hK1, hD1⟩ := hB
  rw [ht] at hP1
  obtain ⟨hP, hD⟩ := va_join hP hD isC isR hC hR hn hdis hk hF hP1 hD1
  exact kk u H1 locs1 hw hP hD hS
theorem cl_n {S : Type} {w1 : S → va_W} (hr : va_Run p l e R s m args below meth cd H locs cells slots mc ms (F0 m pc ls st0) rest (QN D c w1 (va_A wc H.size) a) (va_A wc H.size)) (hP : va_P D vwCl ws H) (hD : va_D A ws) (hS : va_S A H0 H locs) (hA : ∀ q, H0.size ≤ q → A q) (isC isR : List Nat) (hC : isC.map (fun i => ws[i]?) = wc.map some) (hR : isR.map (fun i => ws[i]?) = wr.map some) (hn : va_nd isR = true) (hdis : ∀ i ∈ isR, i ∉ isC)
    (kk : ∀ (u : S) (H1 : Heap) (locs1 : List Loc), va_P D vwCl (wr ++ w1 u) H1 → va_D A (wr ++ w1 u) → va_S A H0 H1 locs1 → W p l e R s m args below meth cd H1 locs1 (cells + mc) (slots + ms) Q (F0 m (pc + 3) ls (.null :: rest))) : W p l e R s m args below meth cd H locs cells slots Q (F0 m pc ls st0) := by
  have hF := va_free (wc := wc) hD hS hA isC hC
  refine va_callq hr hS (fun q _ h => hF q h) hF (fun r u t H1 locs1 ht hvm hw hB hz hk hS => ?_)
  obtain ⟨hP1, hK1, hD1⟩ := hB
  rw [ht] at hP1
  obtain ⟨hP, hD⟩ := va_join hP hD isC isR hC hR hn hdis hk hF hP1 hD1
  subst hw
  exact kk u H1 locs1 hP hD hS
theorem ty_uniq {cl : List vw_C} {tys : List (ClassId × FieldType)} (hK : va_K D cl tys s) {i j : Nat} {x y : ClassId} {ty : FieldType} (h1 : tys[i]? = some (x, ty)) (h2 : tys[j]? = some (y, ty)) : x = y := by
  have e1 := (hK.2 i _ h1).2
  have e2 := (hK.2 j _ h2).2
  have f : ∀ {z : ClassId}, va_RA s z ty → s.vm.findClass ("[" ++ ty.toString) = some z := by
    intro z hz
    cases ty with
    | object C => obtain ⟨-, -, -, -, -, h⟩ := hz; exact h
    | _ => exact hz
  exact Option.some.inj ((f e1).symm.trans (f e2))
theorem kz_newa (hx : p.tables.exec = Jvm.exec) (hb : cd.code = cc) {atype : ArrayType} {ty : FieldType} (t0 : Nat) {cA : ClassId} (ht : (TY c)[t0]? = some (cA, ty)) (harr : (Cond.arrayClass (newarray.typeOf atype)).before args s = true) (hty : newarray.typeOf atype = ty) (hK : va_K D vwCl (TY c) s) (hP : va_P D vwCl ws H) (hD : va_D A ws) (hS : va_S A H0 H locs) (hA : ∀ q, H0.size ≤ q → A q)
    {n : Int32} {N' : Nat} {a0 : vp_A} (ha : ∀ cA : ClassId, vp_cell cA a0 = arrV cA N' (fun _ => defaultValue ty)) (hn : ¬ n < 0) (hN : n.toNatClampNeg = N') (hbytes : N' * componentBytes ty ≤ 536870912) (hcells : cells + 1 ≤ R.cells) (hslots : slots + N' ≤ R.slots) (hdg : decode cc pc = .ok (.newarray atype, 2))
    (kk : ∀ (q : Nat) (H1 : Heap), va_P D vwCl (ws ++ [(q, .inl (cA, a0))]) H1 → va_D A (ws ++ [(q, .inl (cA, a0))]) → va_S A H0 H1 locs → W p l e R s m args below meth cd H1 locs (cells + 1) (slots + N') Q (F0 m (pc + 2) ls (.ref q :: rest))) : W p l e R s m args below meth cd H locs cells slots Q (F0 m pc ls (.int n :: rest)) :=
  va_newa hx hb harr hty hK hP hD hS hA ha hn hN hbytes hcells hslots hdg (fun q cB H1 hK1 hP1 hD1 hS1 => by
    have e : cB = cA := ty_uniq (ty := ty) hK1 (i := (TY c).length) (j := t0) (List.getElem?_concat_length ..) (by rw [List.getElem?_append_left (List.getElem?_eq_some_iff.mp ht).1]; exact ht)
    subst e
    exact kk q H1 hP1 hD1 hS1)
theorem kz_newq (hx : p.tables.exec = Jvm.exec) (hb : cd.code = cc) {own C : String} {index : Nat} (t0 : Nat) {cA : ClassId} (ht : (TY c)[t0]? = some (cA, .object C)) (hown : s.vm.findClass own = some m.cls) (hclink : (Cond.classLink own index C).before args s = true) (hover : va_AO C s) (hK : va_K D vwCl (TY c) s) (hP : va_P D vwCl ws H) (hD : va_D A ws) (hS : va_S A H0 H locs) (hA : ∀ q, H0.size ≤ q → A q)
    {n : Int32} {N' : Nat} (hn : ¬ n < 0) (hN : n.toNatClampNeg = N') (hbytes : N' * 4 ≤ 536870912) (hcells : cells + 1 ≤ R.cells) (hslots : slots + N' ≤ R.slots) (hdg : decode cc pc = .ok (.anewarray index, 3))
    (kk : ∀ (q : Nat) (H1 : Heap), va_P D vwCl (ws ++ [(q, .inl (cA, N', .inr (.inr (.inr (.inr (fun _ => none))))))]) H1 → va_D A (ws ++ [(q, .inl (cA, N', .inr (.inr (.inr (.inr (fun _ => none))))))]) → va_S A H0 H1 locs → W p l e R s m args below meth cd H1 locs (cells + 1) (slots + N') Q (F0 m (pc + 3) ls (.ref q :: rest))) : W p l e R s m args below meth cd H locs cells slots Q (F0 m pc ls (.int n :: rest)) :=
  va_newq hx hb hown hclink hover hK hP hD hS hA hn hN hbytes hcells hslots hdg (fun q cB H1 hK1 hP1 hD1 hS1 => by
    have e : cB = cA := ty_uniq (ty := .object C) hK1 (i := (TY c).length) (j := t0) (List.getElem?_concat_length ..) (by rw [List.getElem?_append_left (List.getElem?_eq_some_iff.mp ht).1]; exact ht)
    subst e
    exact kk q H1 hP1 hD1 hS1)
end KZ
/-! numbers -/
def inB (v lo hi : Int32) : Int32 := if lo ≤ v ∧ v ≤ hi then 1 else 0
theorem inB_c {v lo hi r : Int32} (h : r = inB v lo hi) : ((lo ≤ v ∧ v ≤ hi) ∧ r = 1) ∨ (¬ (lo ≤ v ∧ v ≤ hi) ∧ r = 0) := by
  unfold inB at h
  by_cases q : lo ≤ v ∧ v ≤ hi
  · exact Or.inl ⟨q, by rw [h, if_pos q]⟩
  · exact Or.inr ⟨q, by rw [h, if_neg q]⟩
theorem inB_no {v lo hi : Int32} (h : hi < lo) : ¬ (lo ≤ v ∧ v ≤ hi) := by
  intro q
  have h1 := Int32.le_iff_toInt_le.mp q.1
  have h2 := Int32.le_iff_toInt_le.mp q.2
  have h3 := Int32.lt_iff_toInt_lt.mp h
  omega
theorem i32_of {n : Nat} (h : n < 2 ^ 31) : (Int32.ofNat n).toInt = (n : Int) := nI_toInt h
theorem vin_2 {i : Int32} {n : Nat} (hn : n < 2 ^ 31) (h1 : ¬ i < 0) (h2 : ¬ Int32.ofNat n ≤ i) : vp_in i n := by
  refine vp_in_iff.mpr ⟨?_, ?_⟩
  · have h := mt Int32.lt_iff_toInt_lt.mpr h1
    have e : (0 : Int32).toInt = 0 := rfl
    omega
  · have h := mt Int32.le_iff_toInt_le.mpr h2
    rw [i32_of hn] at h
    omega
theorem vin_le {i hi : Int32} {n : Nat} (h : 0 ≤ i ∧ i ≤ hi) (hn : hi.toInt < n) : vp_in i n := by
  refine vp_in_iff.mpr ⟨?_, ?_⟩
  · exact Int32.le_iff_toInt_le.mp h.1
  · have := Int32.le_iff_toInt_le.mp h.2
    omega
theorem i32_sub {a b : Int32} (h1 : -1000000000 ≤ a.toInt) (h2 : a.toInt ≤ 1000000000) (h3 : -1000000000 ≤ b.toInt) (h4 : b.toInt ≤ 1000000000) : (a - b).toInt = a.toInt - b.toInt := by
  rw [Int32.toInt_sub]
  exact Int.bmod_eq_of_le (by omega) (by omega)
theorem i32_add {a b : Int32} (h1 : -1000000000 ≤ a.toInt) (h2 : a.toInt ≤ 1000000000) (h3 : -1000000000 ≤ b.toInt) (h4 : b.toInt ≤ 1000000000) : (a + b).toInt = a.toInt + b.toInt := by
  rw [Int32.toInt_add]
  exact Int.bmod_eq_of_le (by omega) (by omega)
def mk (l : List Nat) : Nat → Nat := fun k => l.getD k 0
end
