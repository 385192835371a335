/-- a private method of a class that the tables say can be made, by its rows of tables_1 -/
def lw_okq (q : MethodName × Nat) : Prop := (q.1.cls ≠ "java/lang/invoke/MethodHandle" ∧ q.1.cls ≠ "java/lang/invoke/VarHandle") ∧ Cond.instantiable q.1.cls q.2 ∈ tables_1 ∧ Cond.privateMethod q.1 ∈ tables_1 ∧ Cond.instanceMethod q.1 ∈ tables_1
theorem lw_p0 : lw_okq (⟨"VoyageCompany$Tokens", "behindBlanks", "(I)I"⟩, 6) := ⟨⟨by decide +kernel, by decide +kernel⟩, List.mem_of_getElem? (i := 311) (by decide +kernel), List.mem_of_getElem? (i := 420) (by decide +kernel), List.mem_of_getElem? (i := 421) (by decide +kernel)⟩
theorem lw_p1 : lw_okq (⟨"VoyageCompany$Tokens", "behindDigits", "(I)I"⟩, 6) := ⟨⟨by decide +kernel, by decide +kernel⟩, List.mem_of_getElem? (i := 311) (by decide +kernel), List.mem_of_getElem? (i := 427) (by decide +kernel), List.mem_of_getElem? (i := 428) (by decide +kernel)⟩
theorem lw_p2 : lw_okq (⟨"VoyageCompany$Tokens", "readNumber", "()V"⟩, 6) := ⟨⟨by decide +kernel, by decide +kernel⟩, List.mem_of_getElem? (i := 311) (by decide +kernel), List.mem_of_getElem? (i := 431) (by decide +kernel), List.mem_of_getElem? (i := 432) (by decide +kernel)⟩
theorem lw_p3 : lw_okq (⟨"VoyageCompany$Tokens", "behindLetters", "(I)I"⟩, 6) := ⟨⟨by decide +kernel, by decide +kernel⟩, List.mem_of_getElem? (i := 311) (by decide +kernel), List.mem_of_getElem? (i := 438) (by decide +kernel), List.mem_of_getElem? (i := 439) (by decide +kernel)⟩
theorem lw_p4 : lw_okq (⟨"VoyageCompany$Tokens", "wordCode", "()I"⟩, 6) := ⟨⟨by decide +kernel, by decide +kernel⟩, List.mem_of_getElem? (i := 311) (by decide +kernel), List.mem_of_getElem? (i := 442) (by decide +kernel), List.mem_of_getElem? (i := 443) (by decide +kernel)⟩
theorem lw_p5 : lw_okq (⟨"VoyageCompany$Tokens", "spells", "(Ljava/lang/String;)Z"⟩, 6) := ⟨⟨by decide +kernel, by decide +kernel⟩, List.mem_of_getElem? (i := 311) (by decide +kernel), List.mem_of_getElem? (i := 447) (by decide +kernel), List.mem_of_getElem? (i := 448) (by decide +kernel)⟩
theorem lw_p6 : lw_okq (⟨"VoyageCompany$Reader", "take", "(I)I"⟩, 11) := ⟨⟨by decide +kernel, by decide +kernel⟩, List.mem_of_getElem? (i := 303) (by decide +kernel), List.mem_of_getElem? (i := 519) (by decide +kernel), List.mem_of_getElem? (i := 520) (by decide +kernel)⟩
theorem lw_p7 : lw_okq (⟨"VoyageCompany$Reader", "takeLine", "()I"⟩, 11) := ⟨⟨by decide +kernel, by decide +kernel⟩, List.mem_of_getElem? (i := 303) (by decide +kernel), List.mem_of_getElem? (i := 523) (by decide +kernel), List.mem_of_getElem? (i := 524) (by decide +kernel)⟩
theorem lw_p8 : lw_okq (⟨"VoyageCompany$Reader", "mark", "(I)V"⟩, 11) := ⟨⟨by decide +kernel, by decide +kernel⟩, List.mem_of_getElem? (i := 303) (by decide +kernel), List.mem_of_getElem? (i := 527) (by decide +kernel), List.mem_of_getElem? (i := 528) (by decide +kernel)⟩
theorem lw_p9 : lw_okq (⟨"VoyageCompany$Reader", "takeAct", "()I"⟩, 11) := ⟨⟨by decide +kernel, by decide +kernel⟩, List.mem_of_getElem? (i := 303) (by decide +kernel), List.mem_of_getElem? (i := 531) (by decide +kernel), List.mem_of_getElem? (i := 532) (by decide +kernel)⟩
theorem lw_p10 : lw_okq (⟨"VoyageCompany$Reader", "takeWhat", "()I"⟩, 11) := ⟨⟨by decide +kernel, by decide +kernel⟩, List.mem_of_getElem? (i := 303) (by decide +kernel), List.mem_of_getElem? (i := 535) (by decide +kernel), List.mem_of_getElem? (i := 536) (by decide +kernel)⟩
theorem lw_p11 : lw_okq (⟨"VoyageCompany$Reader", "takePricedGood", "()I"⟩, 11) := ⟨⟨by decide +kernel, by decide +kernel⟩, List.mem_of_getElem? (i := 303) (by decide +kernel), List.mem_of_getElem? (i := 539) (by decide +kernel), List.mem_of_getElem? (i := 540) (by decide +kernel)⟩
theorem lw_p12 : lw_okq (⟨"VoyageCompany$Reader", "isAtBales", "()Z"⟩, 11) := ⟨⟨by decide +kernel, by decide +kernel⟩, List.mem_of_getElem? (i := 303) (by decide +kernel), List.mem_of_getElem? (i := 543) (by decide +kernel), List.mem_of_getElem? (i := 544) (by decide +kernel)⟩
theorem lw_p13 : lw_okq (⟨"VoyageCompany$Reader", "takeComparison", "()I"⟩, 11) := ⟨⟨by decide +kernel, by decide +kernel⟩, List.mem_of_getElem? (i := 303) (by decide +kernel), List.mem_of_getElem? (i := 547) (by decide +kernel), List.mem_of_getElem? (i := 548) (by decide +kernel)⟩
theorem lw_p14 : lw_okq (⟨"VoyageCompany$Reader", "takeTestNumber", "()I"⟩, 11) := ⟨⟨by decide +kernel, by decide +kernel⟩, List.mem_of_getElem? (i := 303) (by decide +kernel), List.mem_of_getElem? (i := 551) (by decide +kernel), List.mem_of_getElem? (i := 552) (by decide +kernel)⟩
theorem lw_p15 : lw_okq (⟨"VoyageCompany$Reader", "takeAndOrColon", "()I"⟩, 11) := ⟨⟨by decide +kernel, by decide +kernel⟩, List.mem_of_getElem? (i := 303) (by decide +kernel), List.mem_of_getElem? (i := 562) (by decide +kernel), List.mem_of_getElem? (i := 563) (by decide +kernel)⟩
def lw_privs_1 : List (MethodName × Nat) := [(⟨"VoyageCompany$Tokens", "behindBlanks", "(I)I"⟩, 6), (⟨"VoyageCompany$Tokens", "behindDigits", "(I)I"⟩, 6), (⟨"VoyageCompany$Tokens", "readNumber", "()V"⟩, 6), (⟨"VoyageCompany$Tokens", "behindLetters", "(I)I"⟩, 6), (⟨"VoyageCompany$Tokens", "wordCode", "()I"⟩, 6), (⟨"VoyageCompany$Tokens", "spells", "(Ljava/lang/String;)Z"⟩, 6), (⟨"VoyageCompany$Reader", "take", "(I)I"⟩, 11), (⟨"VoyageCompany$Reader", "takeLine", "()I"⟩, 11), (⟨"VoyageCompany$Reader", "mark", "(I)V"⟩, 11), (⟨"VoyageCompany$Reader", "takeAct", "()I"⟩, 11), (⟨"VoyageCompany$Reader", "takeWhat", "()I"⟩, 11), (⟨"VoyageCompany$Reader", "takePricedGood", "()I"⟩, 11), (⟨"VoyageCompany$Reader", "isAtBales", "()Z"⟩, 11), (⟨"VoyageCompany$Reader", "takeComparison", "()I"⟩, 11), (⟨"VoyageCompany$Reader", "takeTestNumber", "()I"⟩, 11), (⟨"VoyageCompany$Reader", "takeAndOrColon", "()I"⟩, 11)]
theorem lw_r1 : ∀ q ∈ lw_privs_1, lw_okq q := List.forall_mem_cons.mpr ⟨lw_p0, List.forall_mem_cons.mpr ⟨lw_p1, List.forall_mem_cons.mpr ⟨lw_p2, List.forall_mem_cons.mpr ⟨lw_p3, List.forall_mem_cons.mpr ⟨lw_p4, List.forall_mem_cons.mpr ⟨lw_p5, List.forall_mem_cons.mpr ⟨lw_p6, List.forall_mem_cons.mpr ⟨lw_p7, List.forall_mem_cons.mpr ⟨lw_p8, List.forall_mem_cons.mpr ⟨lw_p9, List.forall_mem_cons.mpr ⟨lw_p10, List.forall_mem_cons.mpr ⟨lw_p11, List.forall_mem_cons.mpr ⟨lw_p12, List.forall_mem_cons.mpr ⟨lw_p13, List.forall_mem_cons.mpr ⟨lw_p14, List.forall_mem_cons.mpr ⟨lw_p15, fun _ h => absurd h List.not_mem_nil⟩⟩⟩⟩⟩⟩⟩⟩⟩⟩⟩⟩⟩⟩⟩⟩
theorem lw_p16 : lw_okq (⟨"VoyageCompany$Reader", "takeActGood", "()I"⟩, 11) := ⟨⟨by decide +kernel, by decide +kernel⟩, List.mem_of_getElem? (i := 303) (by decide +kernel), List.mem_of_getElem? (i := 566) (by decide +kernel), List.mem_of_getElem? (i := 567) (by decide +kernel)⟩
theorem lw_p17 : lw_okq (⟨"VoyageCompany$Reader", "takeActNumber", "()I"⟩, 11) := ⟨⟨by decide +kernel, by decide +kernel⟩, List.mem_of_getElem? (i := 303) (by decide +kernel), List.mem_of_getElem? (i := 570) (by decide +kernel), List.mem_of_getElem? (i := 571) (by decide +kernel)⟩
theorem lw_p18 : lw_okq (⟨"VoyageCompany$Reader", "takeStop", "()I"⟩, 11) := ⟨⟨by decide +kernel, by decide +kernel⟩, List.mem_of_getElem? (i := 303) (by decide +kernel), List.mem_of_getElem? (i := 577) (by decide +kernel), List.mem_of_getElem? (i := 578) (by decide +kernel)⟩
theorem lw_p19 : lw_okq (⟨"VoyageCompany$Company", "bringShips", "()V"⟩, 10) := ⟨⟨by decide +kernel, by decide +kernel⟩, List.mem_of_getElem? (i := 30) (by decide +kernel), List.mem_of_getElem? (i := 688) (by decide +kernel), List.mem_of_getElem? (i := 689) (by decide +kernel)⟩
theorem lw_p20 : lw_okq (⟨"VoyageCompany$Company", "writeOff", "(LVoyageCompany$Ship;)V"⟩, 10) := ⟨⟨by decide +kernel, by decide +kernel⟩, List.mem_of_getElem? (i := 30) (by decide +kernel), List.mem_of_getElem? (i := 692) (by decide +kernel), List.mem_of_getElem? (i := 693) (by decide +kernel)⟩
theorem lw_p21 : lw_okq (⟨"VoyageCompany$Company", "bringLetters", "()V"⟩, 10) := ⟨⟨by decide +kernel, by decide +kernel⟩, List.mem_of_getElem? (i := 30) (by decide +kernel), List.mem_of_getElem? (i := 697) (by decide +kernel), List.mem_of_getElem? (i := 698) (by decide +kernel)⟩
theorem lw_p22 : lw_okq (⟨"VoyageCompany$Company", "obeyOrders", "(LVoyageCompany$Port;)V"⟩, 10) := ⟨⟨by decide +kernel, by decide +kernel⟩, List.mem_of_getElem? (i := 30) (by decide +kernel), List.mem_of_getElem? (i := 701) (by decide +kernel), List.mem_of_getElem? (i := 702) (by decide +kernel)⟩
theorem lw_p23 : lw_okq (⟨"VoyageCompany$Company", "firstShipAt", "(I)LVoyageCompany$Ship;"⟩, 10) := ⟨⟨by decide +kernel, by decide +kernel⟩, List.mem_of_getElem? (i := 30) (by decide +kernel), List.mem_of_getElem? (i := 705) (by decide +kernel), List.mem_of_getElem? (i := 706) (by decide +kernel)⟩
theorem lw_p24 : lw_okq (⟨"VoyageCompany$Company", "firstLineThatHolds", "(LVoyageCompany$Port;LVoyageCompany$Ship;)I"⟩, 10) := ⟨⟨by decide +kernel, by decide +kernel⟩, List.mem_of_getElem? (i := 30) (by decide +kernel), List.mem_of_getElem? (i := 709) (by decide +kernel), List.mem_of_getElem? (i := 710) (by decide +kernel)⟩
theorem lw_p25 : lw_okq (⟨"VoyageCompany$Company", "lineHolds", "(LVoyageCompany$Port;LVoyageCompany$Ship;I)Z"⟩, 10) := ⟨⟨by decide +kernel, by decide +kernel⟩, List.mem_of_getElem? (i := 30) (by decide +kernel), List.mem_of_getElem? (i := 713) (by decide +kernel), List.mem_of_getElem? (i := 714) (by decide +kernel)⟩
theorem lw_p26 : lw_okq (⟨"VoyageCompany$Company", "valueOf", "(ILVoyageCompany$Port;LVoyageCompany$Ship;)I"⟩, 10) := ⟨⟨by decide +kernel, by decide +kernel⟩, List.mem_of_getElem? (i := 30) (by decide +kernel), List.mem_of_getElem? (i := 718) (by decide +kernel), List.mem_of_getElem? (i := 719) (by decide +kernel)⟩
theorem lw_p27 : lw_okq (⟨"VoyageCompany$Company", "obeyLine", "(LVoyageCompany$Port;LVoyageCompany$Ship;I)V"⟩, 10) := ⟨⟨by decide +kernel, by decide +kernel⟩, List.mem_of_getElem? (i := 30) (by decide +kernel), List.mem_of_getElem? (i := 730) (by decide +kernel), List.mem_of_getElem? (i := 731) (by decide +kernel)⟩
theorem lw_p28 : lw_okq (⟨"VoyageCompany$Company", "buyBales", "(LVoyageCompany$Port;II)V"⟩, 10) := ⟨⟨by decide +kernel, by decide +kernel⟩, List.mem_of_getElem? (i := 30) (by decide +kernel), List.mem_of_getElem? (i := 734) (by decide +kernel), List.mem_of_getElem? (i := 735) (by decide +kernel)⟩
theorem lw_p29 : lw_okq (⟨"VoyageCompany$Company", "sellBales", "(LVoyageCompany$Port;II)V"⟩, 10) := ⟨⟨by decide +kernel, by decide +kernel⟩, List.mem_of_getElem? (i := 30) (by decide +kernel), List.mem_of_getElem? (i := 742) (by decide +kernel), List.mem_of_getElem? (i := 743) (by decide +kernel)⟩
theorem lw_p30 : lw_okq (⟨"VoyageCompany$Company", "orderShip", "(LVoyageCompany$Port;LVoyageCompany$Ship;III)V"⟩, 10) := ⟨⟨by decide +kernel, by decide +kernel⟩, List.mem_of_getElem? (i := 30) (by decide +kernel), List.mem_of_getElem? (i := 750) (by decide +kernel), List.mem_of_getElem? (i := 751) (by decide +kernel)⟩
theorem lw_p31 : lw_okq (⟨"VoyageCompany$Company", "buyForMaster", "(LVoyageCompany$Port;LVoyageCompany$Ship;)V"⟩, 10) := ⟨⟨by decide +kernel, by decide +kernel⟩, List.mem_of_getElem? (i := 30) (by decide +kernel), List.mem_of_getElem? (i := 762) (by decide +kernel), List.mem_of_getElem? (i := 763) (by decide +kernel)⟩
def lw_privs_2 : List (MethodName × Nat) := [(⟨"VoyageCompany$Reader", "takeActGood", "()I"⟩, 11), (⟨"VoyageCompany$Reader", "takeActNumber", "()I"⟩, 11), (⟨"VoyageCompany$Reader", "takeStop", "()I"⟩, 11), (⟨"VoyageCompany$Company", "bringShips", "()V"⟩, 10), (⟨"VoyageCompany$Company", "writeOff", "(LVoyageCompany$Ship;)V"⟩, 10), (⟨"VoyageCompany$Company", "bringLetters", "()V"⟩, 10), (⟨"VoyageCompany$Company", "obeyOrders", "(LVoyageCompany$Port;)V"⟩, 10), (⟨"VoyageCompany$Company", "firstShipAt", "(I)LVoyageCompany$Ship;"⟩, 10), (⟨"VoyageCompany$Company", "firstLineThatHolds", "(LVoyageCompany$Port;LVoyageCompany$Ship;)I"⟩, 10), (⟨"VoyageCompany$Company", "lineHolds", "(LVoyageCompany$Port;LVoyageCompany$Ship;I)Z"⟩, 10), (⟨"VoyageCompany$Company", "valueOf", "(ILVoyageCompany$Port;LVoyageCompany$Ship;)I"⟩, 10), (⟨"VoyageCompany$Company", "obeyLine", "(LVoyageCompany$Port;LVoyageCompany$Ship;I)V"⟩, 10), (⟨"VoyageCompany$Company", "buyBales", "(LVoyageCompany$Port;II)V"⟩, 10), (⟨"VoyageCompany$Company", "sellBales", "(LVoyageCompany$Port;II)V"⟩, 10), (⟨"VoyageCompany$Company", "orderShip", "(LVoyageCompany$Port;LVoyageCompany$Ship;III)V"⟩, 10), (⟨"VoyageCompany$Company", "buyForMaster", "(LVoyageCompany$Port;LVoyageCompany$Ship;)V"⟩, 10)]
theorem lw_r2 : ∀ q ∈ lw_privs_2, lw_okq q := List.forall_mem_cons.mpr ⟨lw_p16, List.forall_mem_cons.mpr ⟨lw_p17, List.forall_mem_cons.mpr ⟨lw_p18, List.forall_mem_cons.mpr ⟨lw_p19, List.forall_mem_cons.mpr ⟨lw_p20, List.forall_mem_cons.mpr ⟨lw_p21, List.forall_mem_cons.mpr ⟨lw_p22, List.forall_mem_cons.mpr ⟨lw_p23, List.forall_mem_cons.mpr ⟨lw_p24, List.forall_mem_cons.mpr ⟨lw_p25, List.forall_mem_cons.mpr ⟨lw_p26, List.forall_mem_cons.mpr ⟨lw_p27, List.forall_mem_cons.mpr ⟨lw_p28, List.forall_mem_cons.mpr ⟨lw_p29, List.forall_mem_cons.mpr ⟨lw_p30, List.forall_mem_cons.mpr ⟨lw_p31, fun _ h => absurd h List.not_mem_nil⟩⟩⟩⟩⟩⟩⟩⟩⟩⟩⟩⟩⟩⟩⟩⟩
theorem lw_p32 : lw_okq (⟨"VoyageCompany$Company", "noteStores", "()V"⟩, 10) := ⟨⟨by decide +kernel, by decide +kernel⟩, List.mem_of_getElem? (i := 30) (by decide +kernel), List.mem_of_getElem? (i := 778) (by decide +kernel), List.mem_of_getElem? (i := 779) (by decide +kernel)⟩
theorem lw_p33 : lw_okq (⟨"VoyageCompany$Company", "pageOf", "(I)LVoyageCompany$Page;"⟩, 10) := ⟨⟨by decide +kernel, by decide +kernel⟩, List.mem_of_getElem? (i := 30) (by decide +kernel), List.mem_of_getElem? (i := 782) (by decide +kernel), List.mem_of_getElem? (i := 783) (by decide +kernel)⟩
theorem lw_p34 : lw_okq (⟨"VoyageCompany$Company", "copyPages", "(LVoyageCompany$Company;)V"⟩, 10) := ⟨⟨by decide +kernel, by decide +kernel⟩, List.mem_of_getElem? (i := 30) (by decide +kernel), List.mem_of_getElem? (i := 905) (by decide +kernel), List.mem_of_getElem? (i := 906) (by decide +kernel)⟩
theorem lw_p35 : lw_okq (⟨"VoyageCompanyModel", "advance", "()V"⟩, 13) := ⟨⟨by decide +kernel, by decide +kernel⟩, List.mem_of_getElem? (i := 918) (by decide +kernel), List.mem_of_getElem? (i := 981) (by decide +kernel), List.mem_of_getElem? (i := 982) (by decide +kernel)⟩
theorem lw_p36 : lw_okq (⟨"VoyageCompanyModel", "byteAt", "(I)I"⟩, 13) := ⟨⟨by decide +kernel, by decide +kernel⟩, List.mem_of_getElem? (i := 918) (by decide +kernel), List.mem_of_getElem? (i := 985) (by decide +kernel), List.mem_of_getElem? (i := 986) (by decide +kernel)⟩
theorem lw_p37 : lw_okq (⟨"VoyageCompanyModel", "aLine", "()V"⟩, 13) := ⟨⟨by decide +kernel, by decide +kernel⟩, List.mem_of_getElem? (i := 918) (by decide +kernel), List.mem_of_getElem? (i := 1014) (by decide +kernel), List.mem_of_getElem? (i := 1015) (by decide +kernel)⟩
theorem lw_p38 : lw_okq (⟨"VoyageCompanyModel", "tells", "(II)V"⟩, 13) := ⟨⟨by decide +kernel, by decide +kernel⟩, List.mem_of_getElem? (i := 918) (by decide +kernel), List.mem_of_getElem? (i := 1018) (by decide +kernel), List.mem_of_getElem? (i := 1019) (by decide +kernel)⟩
theorem lw_p39 : lw_okq (⟨"VoyageCompanyModel", "takes", "(I)Z"⟩, 13) := ⟨⟨by decide +kernel, by decide +kernel⟩, List.mem_of_getElem? (i := 918) (by decide +kernel), List.mem_of_getElem? (i := 1022) (by decide +kernel), List.mem_of_getElem? (i := 1023) (by decide +kernel)⟩
theorem lw_p40 : lw_okq (⟨"VoyageCompanyModel", "test", "(I)V"⟩, 13) := ⟨⟨by decide +kernel, by decide +kernel⟩, List.mem_of_getElem? (i := 918) (by decide +kernel), List.mem_of_getElem? (i := 1026) (by decide +kernel), List.mem_of_getElem? (i := 1027) (by decide +kernel)⟩
theorem lw_p41 : lw_okq (⟨"VoyageCompanyModel", "stops", "()V"⟩, 13) := ⟨⟨by decide +kernel, by decide +kernel⟩, List.mem_of_getElem? (i := 918) (by decide +kernel), List.mem_of_getElem? (i := 1030) (by decide +kernel), List.mem_of_getElem? (i := 1031) (by decide +kernel)⟩
theorem lw_p42 : lw_okq (⟨"VoyageCompanyModel", "aGood", "()I"⟩, 13) := ⟨⟨by decide +kernel, by decide +kernel⟩, List.mem_of_getElem? (i := 918) (by decide +kernel), List.mem_of_getElem? (i := 1034) (by decide +kernel), List.mem_of_getElem? (i := 1035) (by decide +kernel)⟩
theorem lw_p43 : lw_okq (⟨"VoyageCompanyModel", "numbered", "()I"⟩, 13) := ⟨⟨by decide +kernel, by decide +kernel⟩, List.mem_of_getElem? (i := 918) (by decide +kernel), List.mem_of_getElem? (i := 1038) (by decide +kernel), List.mem_of_getElem? (i := 1039) (by decide +kernel)⟩
theorem lw_p44 : lw_okq (⟨"VoyageCompanyModel", "puts", "(II)V"⟩, 13) := ⟨⟨by decide +kernel, by decide +kernel⟩, List.mem_of_getElem? (i := 918) (by decide +kernel), List.mem_of_getElem? (i := 1042) (by decide +kernel), List.mem_of_getElem? (i := 1043) (by decide +kernel)⟩
theorem lw_p45 : lw_okq (⟨"VoyageCompanyModel", "must", "(I)V"⟩, 13) := ⟨⟨by decide +kernel, by decide +kernel⟩, List.mem_of_getElem? (i := 918) (by decide +kernel), List.mem_of_getElem? (i := 1046) (by decide +kernel), List.mem_of_getElem? (i := 1047) (by decide +kernel)⟩
theorem lw_p46 : lw_okq (⟨"VoyageCompanyModel", "sets", "(III)V"⟩, 13) := ⟨⟨by decide +kernel, by decide +kernel⟩, List.mem_of_getElem? (i := 918) (by decide +kernel), List.mem_of_getElem? (i := 1062) (by decide +kernel), List.mem_of_getElem? (i := 1063) (by decide +kernel)⟩
theorem lw_p47 : lw_okq (⟨"VoyageCompanyModel", "isAtHome", "(I)Z"⟩, 13) := ⟨⟨by decide +kernel, by decide +kernel⟩, List.mem_of_getElem? (i := 918) (by decide +kernel), List.mem_of_getElem? (i := 1105) (by decide +kernel), List.mem_of_getElem? (i := 1106) (by decide +kernel)⟩
def lw_privs_3 : List (MethodName × Nat) := [(⟨"VoyageCompany$Company", "noteStores", "()V"⟩, 10), (⟨"VoyageCompany$Company", "pageOf", "(I)LVoyageCompany$Page;"⟩, 10), (⟨"VoyageCompany$Company", "copyPages", "(LVoyageCompany$Company;)V"⟩, 10), (⟨"VoyageCompanyModel", "advance", "()V"⟩, 13), (⟨"VoyageCompanyModel", "byteAt", "(I)I"⟩, 13), (⟨"VoyageCompanyModel", "aLine", "()V"⟩, 13), (⟨"VoyageCompanyModel", "tells", "(II)V"⟩, 13), (⟨"VoyageCompanyModel", "takes", "(I)Z"⟩, 13), (⟨"VoyageCompanyModel", "test", "(I)V"⟩, 13), (⟨"VoyageCompanyModel", "stops", "()V"⟩, 13), (⟨"VoyageCompanyModel", "aGood", "()I"⟩, 13), (⟨"VoyageCompanyModel", "numbered", "()I"⟩, 13), (⟨"VoyageCompanyModel", "puts", "(II)V"⟩, 13), (⟨"VoyageCompanyModel", "must", "(I)V"⟩, 13), (⟨"VoyageCompanyModel", "sets", "(III)V"⟩, 13), (⟨"VoyageCompanyModel", "isAtHome", "(I)Z"⟩, 13)]
theorem lw_r3 : ∀ q ∈ lw_privs_3, lw_okq q := List.forall_mem_cons.mpr ⟨lw_p32, List.forall_mem_cons.mpr ⟨lw_p33, List.forall_mem_cons.mpr ⟨lw_p34, List.forall_mem_cons.mpr ⟨lw_p35, List.forall_mem_cons.mpr ⟨lw_p36, List.forall_mem_cons.mpr ⟨lw_p37, List.forall_mem_cons.mpr ⟨lw_p38, List.forall_mem_cons.mpr ⟨lw_p39, List.forall_mem_cons.mpr ⟨lw_p40, List.forall_mem_cons.mpr ⟨lw_p41, List.forall_mem_cons.mpr ⟨lw_p42, List.forall_mem_cons.mpr ⟨lw_p43, List.forall_mem_cons.mpr ⟨lw_p44, List.forall_mem_cons.mpr ⟨lw_p45, List.forall_mem_cons.mpr ⟨lw_p46, List.forall_mem_cons.mpr ⟨lw_p47, fun _ h => absurd h List.not_mem_nil⟩⟩⟩⟩⟩⟩⟩⟩⟩⟩⟩⟩⟩⟩⟩⟩
theorem lw_p48 : lw_okq (⟨"VoyageCompanyModel", "isShip", "(I)Z"⟩, 13) := ⟨⟨by decide +kernel, by decide +kernel⟩, List.mem_of_getElem? (i := 918) (by decide +kernel), List.mem_of_getElem? (i := 1109) (by decide +kernel), List.mem_of_getElem? (i := 1110) (by decide +kernel)⟩
theorem lw_p49 : lw_okq (⟨"VoyageCompanyModel", "of", "(II)I"⟩, 13) := ⟨⟨by decide +kernel, by decide +kernel⟩, List.mem_of_getElem? (i := 918) (by decide +kernel), List.mem_of_getElem? (i := 1113) (by decide +kernel), List.mem_of_getElem? (i := 1114) (by decide +kernel)⟩
theorem lw_p50 : lw_okq (⟨"VoyageCompanyModel", "roomOf", "(I)I"⟩, 13) := ⟨⟨by decide +kernel, by decide +kernel⟩, List.mem_of_getElem? (i := 918) (by decide +kernel), List.mem_of_getElem? (i := 1117) (by decide +kernel), List.mem_of_getElem? (i := 1118) (by decide +kernel)⟩
theorem lw_p51 : lw_okq (⟨"VoyageCompanyModel", "balesOf", "(I)I"⟩, 13) := ⟨⟨by decide +kernel, by decide +kernel⟩, List.mem_of_getElem? (i := 918) (by decide +kernel), List.mem_of_getElem? (i := 1121) (by decide +kernel), List.mem_of_getElem? (i := 1122) (by decide +kernel)⟩
theorem lw_p52 : lw_okq (⟨"VoyageCompanyModel", "adds", "(III)V"⟩, 13) := ⟨⟨by decide +kernel, by decide +kernel⟩, List.mem_of_getElem? (i := 918) (by decide +kernel), List.mem_of_getElem? (i := 1125) (by decide +kernel), List.mem_of_getElem? (i := 1126) (by decide +kernel)⟩
theorem lw_p53 : lw_okq (⟨"VoyageCompanyModel", "unloads", "(II)V"⟩, 13) := ⟨⟨by decide +kernel, by decide +kernel⟩, List.mem_of_getElem? (i := 918) (by decide +kernel), List.mem_of_getElem? (i := 1133) (by decide +kernel), List.mem_of_getElem? (i := 1134) (by decide +kernel)⟩
theorem lw_p54 : lw_okq (⟨"VoyageCompanyModel", "sails", "(II)I"⟩, 13) := ⟨⟨by decide +kernel, by decide +kernel⟩, List.mem_of_getElem? (i := 918) (by decide +kernel), List.mem_of_getElem? (i := 1144) (by decide +kernel), List.mem_of_getElem? (i := 1145) (by decide +kernel)⟩
theorem lw_p55 : lw_okq (⟨"VoyageCompanyModel", "aMonth", "()V"⟩, 13) := ⟨⟨by decide +kernel, by decide +kernel⟩, List.mem_of_getElem? (i := 918) (by decide +kernel), List.mem_of_getElem? (i := 1153) (by decide +kernel), List.mem_of_getElem? (i := 1154) (by decide +kernel)⟩
theorem lw_p56 : lw_okq (⟨"VoyageCompanyModel", "comes", "(I)V"⟩, 13) := ⟨⟨by decide +kernel, by decide +kernel⟩, List.mem_of_getElem? (i := 918) (by decide +kernel), List.mem_of_getElem? (i := 1157) (by decide +kernel), List.mem_of_getElem? (i := 1158) (by decide +kernel)⟩
theorem lw_p57 : lw_okq (⟨"VoyageCompanyModel", "acts", "(I)V"⟩, 13) := ⟨⟨by decide +kernel, by decide +kernel⟩, List.mem_of_getElem? (i := 918) (by decide +kernel), List.mem_of_getElem? (i := 1161) (by decide +kernel), List.mem_of_getElem? (i := 1162) (by decide +kernel)⟩
theorem lw_p58 : lw_okq (⟨"VoyageCompanyModel", "holds", "(II)Z"⟩, 13) := ⟨⟨by decide +kernel, by decide +kernel⟩, List.mem_of_getElem? (i := 918) (by decide +kernel), List.mem_of_getElem? (i := 1165) (by decide +kernel), List.mem_of_getElem? (i := 1166) (by decide +kernel)⟩
theorem lw_p59 : lw_okq (⟨"VoyageCompanyModel", "told", "(II)I"⟩, 13) := ⟨⟨by decide +kernel, by decide +kernel⟩, List.mem_of_getElem? (i := 918) (by decide +kernel), List.mem_of_getElem? (i := 1169) (by decide +kernel), List.mem_of_getElem? (i := 1170) (by decide +kernel)⟩
theorem lw_p60 : lw_okq (⟨"VoyageCompanyModel", "theShip", "(I)I"⟩, 13) := ⟨⟨by decide +kernel, by decide +kernel⟩, List.mem_of_getElem? (i := 918) (by decide +kernel), List.mem_of_getElem? (i := 1173) (by decide +kernel), List.mem_of_getElem? (i := 1174) (by decide +kernel)⟩
theorem lw_p61 : lw_okq (⟨"VoyageCompanyModel", "shipsAt", "(I)I"⟩, 13) := ⟨⟨by decide +kernel, by decide +kernel⟩, List.mem_of_getElem? (i := 918) (by decide +kernel), List.mem_of_getElem? (i := 1177) (by decide +kernel), List.mem_of_getElem? (i := 1178) (by decide +kernel)⟩
theorem lw_p62 : lw_okq (⟨"VoyageCompanyModel", "does", "(II)V"⟩, 13) := ⟨⟨by decide +kernel, by decide +kernel⟩, List.mem_of_getElem? (i := 918) (by decide +kernel), List.mem_of_getElem? (i := 1181) (by decide +kernel), List.mem_of_getElem? (i := 1182) (by decide +kernel)⟩
theorem lw_p63 : lw_okq (⟨"VoyageCompanyModel", "buys", "(III)V"⟩, 13) := ⟨⟨by decide +kernel, by decide +kernel⟩, List.mem_of_getElem? (i := 918) (by decide +kernel), List.mem_of_getElem? (i := 1185) (by decide +kernel), List.mem_of_getElem? (i := 1186) (by decide +kernel)⟩
def lw_privs_4 : List (MethodName × Nat) := [(⟨"VoyageCompanyModel", "isShip", "(I)Z"⟩, 13), (⟨"VoyageCompanyModel", "of", "(II)I"⟩, 13), (⟨"VoyageCompanyModel", "roomOf", "(I)I"⟩, 13), (⟨"VoyageCompanyModel", "balesOf", "(I)I"⟩, 13), (⟨"VoyageCompanyModel", "adds", "(III)V"⟩, 13), (⟨"VoyageCompanyModel", "unloads", "(II)V"⟩, 13), (⟨"VoyageCompanyModel", "sails", "(II)I"⟩, 13), (⟨"VoyageCompanyModel", "aMonth", "()V"⟩, 13), (⟨"VoyageCompanyModel", "comes", "(I)V"⟩, 13), (⟨"VoyageCompanyModel", "acts", "(I)V"⟩, 13), (⟨"VoyageCompanyModel", "holds", "(II)Z"⟩, 13), (⟨"VoyageCompanyModel", "told", "(II)I"⟩, 13), (⟨"VoyageCompanyModel", "theShip", "(I)I"⟩, 13), (⟨"VoyageCompanyModel", "shipsAt", "(I)I"⟩, 13), (⟨"VoyageCompanyModel", "does", "(II)V"⟩, 13), (⟨"VoyageCompanyModel", "buys", "(III)V"⟩, 13)]
theorem lw_r4 : ∀ q ∈ lw_privs_4, lw_okq q := List.forall_mem_cons.mpr ⟨lw_p48, List.forall_mem_cons.mpr ⟨lw_p49, List.forall_mem_cons.mpr ⟨lw_p50, List.forall_mem_cons.mpr ⟨lw_p51, List.forall_mem_cons.mpr ⟨lw_p52, List.forall_mem_cons.mpr ⟨lw_p53, List.forall_mem_cons.mpr ⟨lw_p54, List.forall_mem_cons.mpr ⟨lw_p55, List.forall_mem_cons.mpr ⟨lw_p56, List.forall_mem_cons.mpr ⟨lw_p57, List.forall_mem_cons.mpr ⟨lw_p58, List.forall_mem_cons.mpr ⟨lw_p59, List.forall_mem_cons.mpr ⟨lw_p60, List.forall_mem_cons.mpr ⟨lw_p61, List.forall_mem_cons.mpr ⟨lw_p62, List.forall_mem_cons.mpr ⟨lw_p63, fun _ h => absurd h List.not_mem_nil⟩⟩⟩⟩⟩⟩⟩⟩⟩⟩⟩⟩⟩⟩⟩⟩
theorem lw_p64 : lw_okq (⟨"VoyageCompanyModel", "bale", "(II)I"⟩, 13) := ⟨⟨by decide +kernel, by decide +kernel⟩, List.mem_of_getElem? (i := 918) (by decide +kernel), List.mem_of_getElem? (i := 1189) (by decide +kernel), List.mem_of_getElem? (i := 1190) (by decide +kernel)⟩
theorem lw_p65 : lw_okq (⟨"VoyageCompanyModel", "sells", "(III)V"⟩, 13) := ⟨⟨by decide +kernel, by decide +kernel⟩, List.mem_of_getElem? (i := 918) (by decide +kernel), List.mem_of_getElem? (i := 1193) (by decide +kernel), List.mem_of_getElem? (i := 1194) (by decide +kernel)⟩
theorem lw_p66 : lw_okq (⟨"VoyageCompanyModel", "loads", "(III)V"⟩, 13) := ⟨⟨by decide +kernel, by decide +kernel⟩, List.mem_of_getElem? (i := 918) (by decide +kernel), List.mem_of_getElem? (i := 1197) (by decide +kernel), List.mem_of_getElem? (i := 1198) (by decide +kernel)⟩
theorem lw_p67 : lw_okq (⟨"VoyageCompanyModel", "goes", "(II)V"⟩, 13) := ⟨⟨by decide +kernel, by decide +kernel⟩, List.mem_of_getElem? (i := 918) (by decide +kernel), List.mem_of_getElem? (i := 1204) (by decide +kernel), List.mem_of_getElem? (i := 1205) (by decide +kernel)⟩
def lw_privs_5 : List (MethodName × Nat) := [(⟨"VoyageCompanyModel", "bale", "(II)I"⟩, 13), (⟨"VoyageCompanyModel", "sells", "(III)V"⟩, 13), (⟨"VoyageCompanyModel", "loads", "(III)V"⟩, 13), (⟨"VoyageCompanyModel", "goes", "(II)V"⟩, 13)]
theorem lw_r5 : ∀ q ∈ lw_privs_5, lw_okq q := List.forall_mem_cons.mpr ⟨lw_p64, List.forall_mem_cons.mpr ⟨lw_p65, List.forall_mem_cons.mpr ⟨lw_p66, List.forall_mem_cons.mpr ⟨lw_p67, fun _ h => absurd h List.not_mem_nil⟩⟩⟩⟩
def lw_privs : List (MethodName × Nat) := lw_privs_1 ++ (lw_privs_2 ++ (lw_privs_3 ++ (lw_privs_4 ++ (lw_privs_5))))
def lw_tbl : List Cond := k2_sels lw_privs ++ tables_1
theorem lw_privs_ok : ∀ q ∈ lw_privs, lw_okq q := by
  show ∀ q ∈ lw_privs_1 ++ (lw_privs_2 ++ (lw_privs_3 ++ (lw_privs_4 ++ (lw_privs_5)))), lw_okq q
  exact List.forall_mem_append.mpr ⟨lw_r1, List.forall_mem_append.mpr ⟨lw_r2, List.forall_mem_append.mpr ⟨lw_r3, List.forall_mem_append.mpr ⟨lw_r4, lw_r5⟩⟩⟩⟩
/-- the words that hold in every warmed state -/
def lw_good : List Cond := lw_tbl.filter goodWord
theorem lw_gm {w : Cond} (h : w ∈ lw_tbl) (g : goodWord w = true) : w ∈ lw_good := List.mem_filter.mpr ⟨h, g⟩
def vcR0 : String := "VoyageCompany$Books"
def vcT0 : u_T := fun k => match k with
  | _ => ("VoyageCompany$Books", "entries", "[J", true)
def vcY0 : Nat → FieldType := fun k => match k with
  | _ => .array .long
def vcR1 : String := "VoyageCompany$Company"
def vcT1 : u_T := fun k => match k with
  | 0 => ("VoyageCompany$Company", "month", "I", false)
  | 1 => ("VoyageCompany$Company", "shipCount", "I", false)
  | 2 => ("VoyageCompany$Company", "fault", "I", false)
  | 3 => ("VoyageCompany$Company", "faultPlace", "I", false)
  | 4 => ("VoyageCompany$Company", "tape", "LVoyageCompany$Tape;", true)
  | 5 => ("VoyageCompany$Company", "ports", "[LVoyageCompany$Port;", true)
  | 6 => ("VoyageCompany$Company", "ships", "[LVoyageCompany$Ship;", true)
  | 7 => ("VoyageCompany$Company", "stock", "LVoyageCompany$Stock;", true)
  | 8 => ("VoyageCompany$Company", "books", "LVoyageCompany$Books;", true)
  | _ => ("VoyageCompany$Company", "pages", "[LVoyageCompany$Page;", true)
def vcY1 : Nat → FieldType := fun k => match k with
  | 0 => .int
  | 1 => .int
  | 2 => .int
  | 3 => .int
  | 4 => .object "VoyageCompany$Tape"
  | 5 => .array (.object "VoyageCompany$Port")
  | 6 => .array (.object "VoyageCompany$Ship")
  | 7 => .object "VoyageCompany$Stock"
  | 8 => .object "VoyageCompany$Books"
  | _ => .array (.object "VoyageCompany$Page")
def vcR2 : String := "VoyageCompany$Market"
def vcT2 : u_T := fun k => match k with
  | 0 => ("VoyageCompany$Market", "base", "I", false)
  | 1 => ("VoyageCompany$Market", "price", "I", false)
  | 2 => ("VoyageCompany$Market", "bought", "I", false)
  | _ => ("VoyageCompany$Market", "sold", "I", false)
def vcY2 : Nat → FieldType := fun k => match k with
  | 0 => .int
  | 1 => .int
  | 2 => .int
  | _ => .int
def vcR3 : String := "VoyageCompany$Orders"
def vcT3 : u_T := fun k => match k with
  | 0 => ("VoyageCompany$Orders", "lines", "I", false)
  | 1 => ("VoyageCompany$Orders", "acts", "[I", true)
  | 2 => ("VoyageCompany$Orders", "goods", "[I", true)
  | 3 => ("VoyageCompany$Orders", "numbers", "[I", true)
  | 4 => ("VoyageCompany$Orders", "testCounts", "[I", true)
  | 5 => ("VoyageCompany$Orders", "whats", "[I", true)
  | 6 => ("VoyageCompany$Orders", "comparisons", "[I", true)
  | _ => ("VoyageCompany$Orders", "limits", "[I", true)
def vcY3 : Nat → FieldType := fun k => match k with
  | 0 => .int
  | 1 => .array .int
  | 2 => .array .int
  | 3 => .array .int
  | 4 => .array .int
  | 5 => .array .int
  | 6 => .array .int
  | _ => .array .int
def vcR4 : String := "VoyageCompany$Page"
def vcT4 : u_T := fun k => match k with
  | _ => ("VoyageCompany$Page", "notes", "[I", true)
def vcY4 : Nat → FieldType := fun k => match k with
  | _ => .array .int
def vcR5 : String := "VoyageCompany$Port"
def vcT5 : u_T := fun k => match k with
  | 0 => ("VoyageCompany$Port", "number", "I", true)
  | 1 => ("VoyageCompany$Port", "store", "[I", true)
  | 2 => ("VoyageCompany$Port", "markets", "[LVoyageCompany$Market;", true)
  | 3 => ("VoyageCompany$Port", "orders", "LVoyageCompany$Orders;", true)
  | 4 => ("VoyageCompany$Port", "lineHeld", "I", false)
  | 5 => ("VoyageCompany$Port", "lastLetter", "I", false)
  | _ => ("VoyageCompany$Port", "post", "[I", true)
def vcY5 : Nat → FieldType := fun k => match k with
  | 0 => .int
  | 1 => .array .int
  | 2 => .array (.object "VoyageCompany$Market")
  | 3 => .object "VoyageCompany$Orders"
  | 4 => .int
  | 5 => .int
  | _ => .array .int
def vcR6 : String := "VoyageCompany$Reader"
def vcT6 : u_T := fun k => match k with
  | 0 => ("VoyageCompany$Reader", "draft", "LVoyageCompany$Orders;", true)
  | 1 => ("VoyageCompany$Reader", "fault", "I", false)
  | 2 => ("VoyageCompany$Reader", "place", "I", false)
  | 3 => ("VoyageCompany$Reader", "tokens", "LVoyageCompany$Tokens;", true)
  | 4 => ("VoyageCompany$Reader", "line", "I", false)
  | 5 => ("VoyageCompany$Reader", "tests", "I", false)
  | 6 => ("VoyageCompany$Reader", "what", "I", false)
  | 7 => ("VoyageCompany$Reader", "comparison", "I", false)
  | 8 => ("VoyageCompany$Reader", "act", "I", false)
  | 9 => ("VoyageCompany$Reader", "good", "I", false)
  | _ => ("VoyageCompany$Reader", "number", "I", false)
def vcY6 : Nat → FieldType := fun k => match k with
  | 0 => .object "VoyageCompany$Orders"
  | 1 => .int
  | 2 => .int
  | 3 => .object "VoyageCompany$Tokens"
  | 4 => .int
  | 5 => .int
  | 6 => .int
  | 7 => .int
  | 8 => .int
  | 9 => .int
  | _ => .int
def vcR7 : String := "VoyageCompany$Ship"
def vcT7 : u_T := fun k => match k with
  | 0 => ("VoyageCompany$Ship", "hold", "I", false)
  | 1 => ("VoyageCompany$Ship", "licence", "I", false)
  | 2 => ("VoyageCompany$Ship", "risk", "I", false)
  | 3 => ("VoyageCompany$Ship", "seed", "I", false)
  | 4 => ("VoyageCompany$Ship", "cargo", "[I", true)
  | 5 => ("VoyageCompany$Ship", "own", "I", false)
  | 6 => ("VoyageCompany$Ship", "place", "I", false)
  | 7 => ("VoyageCompany$Ship", "target", "I", false)
  | 8 => ("VoyageCompany$Ship", "due", "I", false)
  | 9 => ("VoyageCompany$Ship", "doomed", "Z", false)
  | _ => ("VoyageCompany$Ship", "voyages", "I", false)
def vcY7 : Nat → FieldType := fun k => match k with
  | 0 => .int
  | 1 => .int
  | 2 => .int
  | 3 => .int
  | 4 => .array .int
  | 5 => .int
  | 6 => .int
  | 7 => .int
  | 8 => .int
  | 9 => .boolean
  | _ => .int
def vcR8 : String := "VoyageCompany$Stock"
def vcT8 : u_T := fun k => match k with
  | 0 => ("VoyageCompany$Stock", "held", "[I", true)
  | 1 => ("VoyageCompany$Stock", "total", "I", false)
  | 2 => ("VoyageCompany$Stock", "wasDivided", "Z", false)
  | 3 => ("VoyageCompany$Stock", "rests", "[I", true)
  | 4 => ("VoyageCompany$Stock", "received", "[I", true)
  | _ => ("VoyageCompany$Stock", "aside", "[I", true)
def vcY8 : Nat → FieldType := fun k => match k with
  | 0 => .array .int
  | 1 => .int
  | 2 => .boolean
  | 3 => .array .int
  | 4 => .array .int
  | _ => .array .int
def vcR9 : String := "VoyageCompany$Tape"
def vcT9 : u_T := fun k => match k with
  | 0 => ("VoyageCompany$Tape", "bytes", "[B", true)
  | _ => ("VoyageCompany$Tape", "length", "I", false)
def vcY9 : Nat → FieldType := fun k => match k with
  | 0 => .array .byte
  | _ => .int
def vcR10 : String := "VoyageCompany$Tokens"
def vcT10 : u_T := fun k => match k with
  | 0 => ("VoyageCompany$Tokens", "bytes", "[B", false)
  | 1 => ("VoyageCompany$Tokens", "length", "I", false)
  | 2 => ("VoyageCompany$Tokens", "at", "I", false)
  | 3 => ("VoyageCompany$Tokens", "behind", "I", false)
  | 4 => ("VoyageCompany$Tokens", "code", "I", false)
  | _ => ("VoyageCompany$Tokens", "value", "I", false)
def vcY10 : Nat → FieldType := fun k => match k with
  | 0 => .array .byte
  | 1 => .int
  | 2 => .int
  | 3 => .int
  | 4 => .int
  | _ => .int
def vcR11 : String := "VoyageCompany"
def vcT11 : u_T := fun k => match k with
  | 0 => ("VoyageCompany", "now", "LVoyageCompany$Company;", true)
  | 1 => ("VoyageCompany", "images", "[LVoyageCompany$Company;", true)
  | _ => ("VoyageCompany", "reader", "LVoyageCompany$Reader;", true)
def vcY11 : Nat → FieldType := fun k => match k with
  | 0 => .object "VoyageCompany$Company"
  | 1 => .array (.object "VoyageCompany$Company")
  | _ => .object "VoyageCompany$Reader"
def vcR12 : String := "VoyageCompanyModel"
def vcT12 : u_T := fun k => match k with
  | 0 => ("VoyageCompanyModel", "all", "[I", true)
  | 1 => ("VoyageCompanyModel", "sums", "[J", true)
  | 2 => ("VoyageCompanyModel", "has", "[Z", true)
  | 3 => ("VoyageCompanyModel", "size", "I", false)
  | 4 => ("VoyageCompanyModel", "next", "I", false)
  | 5 => ("VoyageCompanyModel", "where", "I", false)
  | 6 => ("VoyageCompanyModel", "token", "I", false)
  | 7 => ("VoyageCompanyModel", "number", "I", false)
  | 8 => ("VoyageCompanyModel", "sign", "I", false)
  | 9 => ("VoyageCompanyModel", "word", "I", false)
  | 10 => ("VoyageCompanyModel", "wrong", "Z", false)
  | 11 => ("VoyageCompanyModel", "lines", "I", false)
  | _ => ("VoyageCompanyModel", "read", "[I", true)
def vcY12 : Nat → FieldType := fun k => match k with
  | 0 => .array .int
  | 1 => .array .long
  | 2 => .array .boolean
  | 3 => .int
  | 4 => .int
  | 5 => .int
  | 6 => .int
  | 7 => .int
  | 8 => .int
  | 9 => .int
  | 10 => .boolean
  | 11 => .int
  | _ => .array .int
def vcl : List vw_C := [(vcR0, vcT0, 1), (vcR1, vcT1, 10), (vcR2, vcT2, 4), (vcR3, vcT3, 8), (vcR4, vcT4, 1), (vcR5, vcT5, 7), (vcR6, vcT6, 11), (vcR7, vcT7, 11), (vcR8, vcT8, 6), (vcR9, vcT9, 2), (vcR10, vcT10, 6), (vcR11, vcT11, 3), (vcR12, vcT12, 13)]
def vcC (ci : Nat) : vw_C := vcl.getD ci (vcR0, vcT0, 0)
def vcY (ci : Nat) : Nat → FieldType := [vcY0, vcY1, vcY2, vcY3, vcY4, vcY5, vcY6, vcY7, vcY8, vcY9, vcY10, vcY11, vcY12].getD ci vcY0
def vcN (ci : Nat) : Nat := [1, 10, 4, 8, 1, 7, 11, 11, 6, 2, 6, 3, 13].getD ci 0
def vcF : List (List Bool) := [[true], [false, false, false, false, true, true, true, true, true, true], [false, false, false, false], [false, true, true, true, true, true, true, true], [true], [false, true, true, true, false, false, true], [true, false, false, true, false, false, false, false, false, false, false], [false, false, false, false, true, false, false, false, false, false, false], [true, false, false, true, true, true], [true, false], [true, false, false, false, false, false], [true, true, true], [true, true, true, false, false, false, false, false, false, false, false, false, true]]
def isR (ci k : Nat) : Bool := (vcF.getD ci []).getD k false
theorem vcC_at : ∀ ci, ci < 13 → vcl[ci]? = some (vcC ci) := by
  intro ci h
  have h2 : ci < vcl.length := h
  simp [vcC, List.getD_eq_getElem?_getD, List.getElem?_eq_getElem h2]
theorem vcC_N : ∀ ci, ci < 13 → (vcC ci).2.2 = vcN ci := by decide +kernel
theorem vcC_ws : ∀ ci, ci < 13 → ∀ w ∈ u_ws (vcC ci).1 (vcC ci).2.1 (vcC ci).2.2, w ∈ lw_good := by decide +kernel
theorem vcC_nm : ∀ ci, ci < 13 → ∀ a, a < (vcC ci).2.2 → ∀ b, b < (vcC ci).2.2 → a ≠ b → ((vcC ci).2.1 a).2.1 ≠ ((vcC ci).2.1 b).2.1 := by decide +kernel
theorem vcC_ty : ∀ ci, ci < 13 → ∀ k, k < (vcC ci).2.2 → parseFieldDescriptor ((vcC ci).2.1 k).2.2.1 = some (vcY ci k) := by decide +kernel
theorem vcC_ref : ∀ ci, ci < 13 → ∀ k, k < (vcC ci).2.2 → isR ci k = (vcY ci k).isReference := by decide +kernel
theorem vcC_own : ∀ ci, ci < 13 → ∀ k, k < (vcC ci).2.2 → ((vcC ci).2.1 k).1 = (vcC ci).1 := by decide +kernel
theorem vcC_ini : ∀ ci, ci < 13 → Cond.initialized (vcC ci).1 ∈ lw_good := by decide +kernel
theorem vcC_inst : ∀ ci, ci < 13 → Cond.instantiable (vcC ci).1 (vcC ci).2.2 ∈ lw_good := by decide +kernel
