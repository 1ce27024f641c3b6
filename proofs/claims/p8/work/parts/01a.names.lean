-- ===== PART A: goes FIRST, ahead of the names: the tables' words, and 'selects' of the private methods out of them =====
/-- a private method of a class that the tables say can be made, by its rows of tables_1 -/
def lw_okq (q : MethodName × Nat) : Prop := (q.1.cls ≠ "java/lang/invoke/MethodHandle" ∧ q.1.cls ≠ "java/lang/invoke/VarHandle") ∧ Cond.instantiable q.1.cls q.2 ∈ tables_1 ∧ Cond.privateMethod q.1 ∈ tables_1 ∧ Cond.instanceMethod q.1 ∈ tables_1
theorem lw_p0 : lw_okq (⟨"LameClocks", "isClock", "(I)Z"⟩, 8) := ⟨⟨by decide +kernel, by decide +kernel⟩, List.mem_of_getElem? (i := 18) (by decide +kernel), List.mem_of_getElem? (i := 285) (by decide +kernel), List.mem_of_getElem? (i := 286) (by decide +kernel)⟩
theorem lw_p1 : lw_okq (⟨"LameClocks", "isWindow", "(I)Z"⟩, 8) := ⟨⟨by decide +kernel, by decide +kernel⟩, List.mem_of_getElem? (i := 18) (by decide +kernel), List.mem_of_getElem? (i := 314) (by decide +kernel), List.mem_of_getElem? (i := 315) (by decide +kernel)⟩
theorem lw_p2 : lw_okq (⟨"LameClocks$Tape", "rewind", "()V"⟩, 5) := ⟨⟨by decide +kernel, by decide +kernel⟩, List.mem_of_getElem? (i := 156) (by decide +kernel), List.mem_of_getElem? (i := 350) (by decide +kernel), List.mem_of_getElem? (i := 351) (by decide +kernel)⟩
theorem lw_p3 : lw_okq (⟨"LameClocks$Tape", "next", "()I"⟩, 5) := ⟨⟨by decide +kernel, by decide +kernel⟩, List.mem_of_getElem? (i := 156) (by decide +kernel), List.mem_of_getElem? (i := 354) (by decide +kernel), List.mem_of_getElem? (i := 355) (by decide +kernel)⟩
theorem lw_p4 : lw_okq (⟨"LameClocks$Tape", "here", "()I"⟩, 5) := ⟨⟨by decide +kernel, by decide +kernel⟩, List.mem_of_getElem? (i := 156) (by decide +kernel), List.mem_of_getElem? (i := 444) (by decide +kernel), List.mem_of_getElem? (i := 445) (by decide +kernel)⟩
theorem lw_p5 : lw_okq (⟨"LameClocks$Tape", "skip", "()V"⟩, 5) := ⟨⟨by decide +kernel, by decide +kernel⟩, List.mem_of_getElem? (i := 156) (by decide +kernel), List.mem_of_getElem? (i := 448) (by decide +kernel), List.mem_of_getElem? (i := 449) (by decide +kernel)⟩
theorem lw_p6 : lw_okq (⟨"LameClocks$Tape", "readClock", "(LLameClocks$Race;)Z"⟩, 5) := ⟨⟨by decide +kernel, by decide +kernel⟩, List.mem_of_getElem? (i := 156) (by decide +kernel), List.mem_of_getElem? (i := 474) (by decide +kernel), List.mem_of_getElem? (i := 475) (by decide +kernel)⟩
theorem lw_p7 : lw_okq (⟨"LameClocks$Tape", "fails", "(I)Z"⟩, 5) := ⟨⟨by decide +kernel, by decide +kernel⟩, List.mem_of_getElem? (i := 156) (by decide +kernel), List.mem_of_getElem? (i := 479) (by decide +kernel), List.mem_of_getElem? (i := 480) (by decide +kernel)⟩
theorem lw_p8 : lw_okq (⟨"LameClocks$Tape", "number", "(II)I"⟩, 5) := ⟨⟨by decide +kernel, by decide +kernel⟩, List.mem_of_getElem? (i := 156) (by decide +kernel), List.mem_of_getElem? (i := 483) (by decide +kernel), List.mem_of_getElem? (i := 484) (by decide +kernel)⟩
theorem lw_p9 : lw_okq (⟨"LameClocks$Tape", "takes", "(C)Z"⟩, 5) := ⟨⟨by decide +kernel, by decide +kernel⟩, List.mem_of_getElem? (i := 156) (by decide +kernel), List.mem_of_getElem? (i := 493) (by decide +kernel), List.mem_of_getElem? (i := 494) (by decide +kernel)⟩
theorem lw_p10 : lw_okq (⟨"LameClocks$Tape", "readAct", "(LLameClocks$Day;)Z"⟩, 5) := ⟨⟨by decide +kernel, by decide +kernel⟩, List.mem_of_getElem? (i := 156) (by decide +kernel), List.mem_of_getElem? (i := 505) (by decide +kernel), List.mem_of_getElem? (i := 506) (by decide +kernel)⟩
theorem lw_p11 : lw_okq (⟨"LameClocks$Tape", "readBreath", "(LLameClocks$Day;)Z"⟩, 5) := ⟨⟨by decide +kernel, by decide +kernel⟩, List.mem_of_getElem? (i := 156) (by decide +kernel), List.mem_of_getElem? (i := 513) (by decide +kernel), List.mem_of_getElem? (i := 514) (by decide +kernel)⟩
theorem lw_p12 : lw_okq (⟨"LameClocks$Tape", "readByClock", "(LLameClocks$Day;II)Z"⟩, 5) := ⟨⟨by decide +kernel, by decide +kernel⟩, List.mem_of_getElem? (i := 156) (by decide +kernel), List.mem_of_getElem? (i := 517) (by decide +kernel), List.mem_of_getElem? (i := 518) (by decide +kernel)⟩
theorem lw_p13 : lw_okq (⟨"LameClocks", "perform", "(III)I"⟩, 8) := ⟨⟨by decide +kernel, by decide +kernel⟩, List.mem_of_getElem? (i := 18) (by decide +kernel), List.mem_of_getElem? (i := 521) (by decide +kernel), List.mem_of_getElem? (i := 522) (by decide +kernel)⟩
theorem lw_p14 : lw_okq (⟨"LameClocks$Repairs", "forgetOldest", "()V"⟩, 4) := ⟨⟨by decide +kernel, by decide +kernel⟩, List.mem_of_getElem? (i := 117) (by decide +kernel), List.mem_of_getElem? (i := 533) (by decide +kernel), List.mem_of_getElem? (i := 534) (by decide +kernel)⟩
theorem lw_p15 : lw_okq (⟨"LameClocks$Race", "mayGo", "(III)Z"⟩, 14) := ⟨⟨by decide +kernel, by decide +kernel⟩, List.mem_of_getElem? (i := 32) (by decide +kernel), List.mem_of_getElem? (i := 567) (by decide +kernel), List.mem_of_getElem? (i := 568) (by decide +kernel)⟩
def lw_privs_1 : List (MethodName × Nat) := [(⟨"LameClocks", "isClock", "(I)Z"⟩, 8), (⟨"LameClocks", "isWindow", "(I)Z"⟩, 8), (⟨"LameClocks$Tape", "rewind", "()V"⟩, 5), (⟨"LameClocks$Tape", "next", "()I"⟩, 5), (⟨"LameClocks$Tape", "here", "()I"⟩, 5), (⟨"LameClocks$Tape", "skip", "()V"⟩, 5), (⟨"LameClocks$Tape", "readClock", "(LLameClocks$Race;)Z"⟩, 5), (⟨"LameClocks$Tape", "fails", "(I)Z"⟩, 5), (⟨"LameClocks$Tape", "number", "(II)I"⟩, 5), (⟨"LameClocks$Tape", "takes", "(C)Z"⟩, 5), (⟨"LameClocks$Tape", "readAct", "(LLameClocks$Day;)Z"⟩, 5), (⟨"LameClocks$Tape", "readBreath", "(LLameClocks$Day;)Z"⟩, 5), (⟨"LameClocks$Tape", "readByClock", "(LLameClocks$Day;II)Z"⟩, 5), (⟨"LameClocks", "perform", "(III)I"⟩, 8), (⟨"LameClocks$Repairs", "forgetOldest", "()V"⟩, 4), (⟨"LameClocks$Race", "mayGo", "(III)Z"⟩, 14)]
theorem lw_r1 : ∀ q ∈ lw_privs_1, lw_okq q := List.forall_mem_cons.mpr ⟨lw_p0, List.forall_mem_cons.mpr ⟨lw_p1, List.forall_mem_cons.mpr ⟨lw_p2, List.forall_mem_cons.mpr ⟨lw_p3, List.forall_mem_cons.mpr ⟨lw_p4, List.forall_mem_cons.mpr ⟨lw_p5, List.forall_mem_cons.mpr ⟨lw_p6, List.forall_mem_cons.mpr ⟨lw_p7, List.forall_mem_cons.mpr ⟨lw_p8, List.forall_mem_cons.mpr ⟨lw_p9, List.forall_mem_cons.mpr ⟨lw_p10, List.forall_mem_cons.mpr ⟨lw_p11, List.forall_mem_cons.mpr ⟨lw_p12, List.forall_mem_cons.mpr ⟨lw_p13, List.forall_mem_cons.mpr ⟨lw_p14, List.forall_mem_cons.mpr ⟨lw_p15, fun _ h => absurd h List.not_mem_nil⟩⟩⟩⟩⟩⟩⟩⟩⟩⟩⟩⟩⟩⟩⟩⟩
theorem lw_p16 : lw_okq (⟨"LameClocks$Race", "go", "(III)V"⟩, 14) := ⟨⟨by decide +kernel, by decide +kernel⟩, List.mem_of_getElem? (i := 32) (by decide +kernel), List.mem_of_getElem? (i := 571) (by decide +kernel), List.mem_of_getElem? (i := 572) (by decide +kernel)⟩
theorem lw_p17 : lw_okq (⟨"LameClocks$Race", "run", "(I)V"⟩, 14) := ⟨⟨by decide +kernel, by decide +kernel⟩, List.mem_of_getElem? (i := 32) (by decide +kernel), List.mem_of_getElem? (i := 578) (by decide +kernel), List.mem_of_getElem? (i := 579) (by decide +kernel)⟩
theorem lw_p18 : lw_okq (⟨"LameClocks$Race", "isAhead", "(II)Z"⟩, 14) := ⟨⟨by decide +kernel, by decide +kernel⟩, List.mem_of_getElem? (i := 32) (by decide +kernel), List.mem_of_getElem? (i := 595) (by decide +kernel), List.mem_of_getElem? (i := 596) (by decide +kernel)⟩
theorem lw_p19 : lw_okq (⟨"LameClocks", "foresee", "(II)V"⟩, 8) := ⟨⟨by decide +kernel, by decide +kernel⟩, List.mem_of_getElem? (i := 18) (by decide +kernel), List.mem_of_getElem? (i := 638) (by decide +kernel), List.mem_of_getElem? (i := 639) (by decide +kernel)⟩
theorem lw_p20 : lw_okq (⟨"LameClocks", "hoursUntilHome", "(II)I"⟩, 8) := ⟨⟨by decide +kernel, by decide +kernel⟩, List.mem_of_getElem? (i := 18) (by decide +kernel), List.mem_of_getElem? (i := 665) (by decide +kernel), List.mem_of_getElem? (i := 666) (by decide +kernel)⟩
theorem lw_p21 : lw_okq (⟨"LameClocks", "isAim", "(III)Z"⟩, 8) := ⟨⟨by decide +kernel, by decide +kernel⟩, List.mem_of_getElem? (i := 18) (by decide +kernel), List.mem_of_getElem? (i := 678) (by decide +kernel), List.mem_of_getElem? (i := 679) (by decide +kernel)⟩
theorem lw_p22 : lw_okq (⟨"LameClocks", "usefulTurns", "(II)I"⟩, 8) := ⟨⟨by decide +kernel, by decide +kernel⟩, List.mem_of_getElem? (i := 18) (by decide +kernel), List.mem_of_getElem? (i := 682) (by decide +kernel), List.mem_of_getElem? (i := 683) (by decide +kernel)⟩
theorem lw_p23 : lw_okq (⟨"LameClocks", "comesTo", "(IIIII)Z"⟩, 8) := ⟨⟨by decide +kernel, by decide +kernel⟩, List.mem_of_getElem? (i := 18) (by decide +kernel), List.mem_of_getElem? (i := 688) (by decide +kernel), List.mem_of_getElem? (i := 689) (by decide +kernel)⟩
theorem lw_p24 : lw_okq (⟨"LameClocks", "fillGains", "(III)V"⟩, 8) := ⟨⟨by decide +kernel, by decide +kernel⟩, List.mem_of_getElem? (i := 18) (by decide +kernel), List.mem_of_getElem? (i := 704) (by decide +kernel), List.mem_of_getElem? (i := 705) (by decide +kernel)⟩
theorem lw_p25 : lw_okq (⟨"LameClocks", "isRest", "(II)Z"⟩, 8) := ⟨⟨by decide +kernel, by decide +kernel⟩, List.mem_of_getElem? (i := 18) (by decide +kernel), List.mem_of_getElem? (i := 708) (by decide +kernel), List.mem_of_getElem? (i := 709) (by decide +kernel)⟩
theorem lw_p26 : lw_okq (⟨"LameClocks", "isSet", "(I)Z"⟩, 8) := ⟨⟨by decide +kernel, by decide +kernel⟩, List.mem_of_getElem? (i := 18) (by decide +kernel), List.mem_of_getElem? (i := 733) (by decide +kernel), List.mem_of_getElem? (i := 734) (by decide +kernel)⟩
theorem lw_p27 : lw_okq (⟨"LameClocks$Bets", "wins", "(II)Z"⟩, 3) := ⟨⟨by decide +kernel, by decide +kernel⟩, List.mem_of_getElem? (i := 100) (by decide +kernel), List.mem_of_getElem? (i := 757) (by decide +kernel), List.mem_of_getElem? (i := 758) (by decide +kernel)⟩
theorem lw_p28 : lw_okq (⟨"LameClocks", "isFilmed", "(LLameClocks$Sheet;I)Z"⟩, 8) := ⟨⟨by decide +kernel, by decide +kernel⟩, List.mem_of_getElem? (i := 18) (by decide +kernel), List.mem_of_getElem? (i := 833) (by decide +kernel), List.mem_of_getElem? (i := 834) (by decide +kernel)⟩
theorem lw_p29 : lw_okq (⟨"LameClocksModel", "add", "(IIII)V"⟩, 27) := ⟨⟨by decide +kernel, by decide +kernel⟩, List.mem_of_getElem? (i := 859) (by decide +kernel), List.mem_of_getElem? (i := 959) (by decide +kernel), List.mem_of_getElem? (i := 960) (by decide +kernel)⟩
theorem lw_p30 : lw_okq (⟨"LameClocksModel", "isClock", "(I)Z"⟩, 27) := ⟨⟨by decide +kernel, by decide +kernel⟩, List.mem_of_getElem? (i := 859) (by decide +kernel), List.mem_of_getElem? (i := 971) (by decide +kernel), List.mem_of_getElem? (i := 972) (by decide +kernel)⟩
theorem lw_p31 : lw_okq (⟨"LameClocksModel", "shownBy", "(I)I"⟩, 27) := ⟨⟨by decide +kernel, by decide +kernel⟩, List.mem_of_getElem? (i := 859) (by decide +kernel), List.mem_of_getElem? (i := 975) (by decide +kernel), List.mem_of_getElem? (i := 976) (by decide +kernel)⟩
def lw_privs_2 : List (MethodName × Nat) := [(⟨"LameClocks$Race", "go", "(III)V"⟩, 14), (⟨"LameClocks$Race", "run", "(I)V"⟩, 14), (⟨"LameClocks$Race", "isAhead", "(II)Z"⟩, 14), (⟨"LameClocks", "foresee", "(II)V"⟩, 8), (⟨"LameClocks", "hoursUntilHome", "(II)I"⟩, 8), (⟨"LameClocks", "isAim", "(III)Z"⟩, 8), (⟨"LameClocks", "usefulTurns", "(II)I"⟩, 8), (⟨"LameClocks", "comesTo", "(IIIII)Z"⟩, 8), (⟨"LameClocks", "fillGains", "(III)V"⟩, 8), (⟨"LameClocks", "isRest", "(II)Z"⟩, 8), (⟨"LameClocks", "isSet", "(I)Z"⟩, 8), (⟨"LameClocks$Bets", "wins", "(II)Z"⟩, 3), (⟨"LameClocks", "isFilmed", "(LLameClocks$Sheet;I)Z"⟩, 8), (⟨"LameClocksModel", "add", "(IIII)V"⟩, 27), (⟨"LameClocksModel", "isClock", "(I)Z"⟩, 27), (⟨"LameClocksModel", "shownBy", "(I)I"⟩, 27)]
theorem lw_r2 : ∀ q ∈ lw_privs_2, lw_okq q := List.forall_mem_cons.mpr ⟨lw_p16, List.forall_mem_cons.mpr ⟨lw_p17, List.forall_mem_cons.mpr ⟨lw_p18, List.forall_mem_cons.mpr ⟨lw_p19, List.forall_mem_cons.mpr ⟨lw_p20, List.forall_mem_cons.mpr ⟨lw_p21, List.forall_mem_cons.mpr ⟨lw_p22, List.forall_mem_cons.mpr ⟨lw_p23, List.forall_mem_cons.mpr ⟨lw_p24, List.forall_mem_cons.mpr ⟨lw_p25, List.forall_mem_cons.mpr ⟨lw_p26, List.forall_mem_cons.mpr ⟨lw_p27, List.forall_mem_cons.mpr ⟨lw_p28, List.forall_mem_cons.mpr ⟨lw_p29, List.forall_mem_cons.mpr ⟨lw_p30, List.forall_mem_cons.mpr ⟨lw_p31, fun _ h => absurd h List.not_mem_nil⟩⟩⟩⟩⟩⟩⟩⟩⟩⟩⟩⟩⟩⟩⟩⟩
theorem lw_p32 : lw_okq (⟨"LameClocksModel", "truth", "()I"⟩, 27) := ⟨⟨by decide +kernel, by decide +kernel⟩, List.mem_of_getElem? (i := 859) (by decide +kernel), List.mem_of_getElem? (i := 979) (by decide +kernel), List.mem_of_getElem? (i := 980) (by decide +kernel)⟩
theorem lw_p33 : lw_okq (⟨"LameClocksModel", "strikes", "(I)I"⟩, 27) := ⟨⟨by decide +kernel, by decide +kernel⟩, List.mem_of_getElem? (i := 859) (by decide +kernel), List.mem_of_getElem? (i := 983) (by decide +kernel), List.mem_of_getElem? (i := 984) (by decide +kernel)⟩
theorem lw_p34 : lw_okq (⟨"LameClocksModel", "isWindow", "(I)Z"⟩, 27) := ⟨⟨by decide +kernel, by decide +kernel⟩, List.mem_of_getElem? (i := 859) (by decide +kernel), List.mem_of_getElem? (i := 995) (by decide +kernel), List.mem_of_getElem? (i := 996) (by decide +kernel)⟩
theorem lw_p35 : lw_okq (⟨"LameClocksModel", "readSigns", "(IIZ)Z"⟩, 27) := ⟨⟨by decide +kernel, by decide +kernel⟩, List.mem_of_getElem? (i := 859) (by decide +kernel), List.mem_of_getElem? (i := 1019) (by decide +kernel), List.mem_of_getElem? (i := 1020) (by decide +kernel)⟩
theorem lw_p36 : lw_okq (⟨"LameClocksModel", "nextLetter", "()I"⟩, 27) := ⟨⟨by decide +kernel, by decide +kernel⟩, List.mem_of_getElem? (i := 859) (by decide +kernel), List.mem_of_getElem? (i := 1023) (by decide +kernel), List.mem_of_getElem? (i := 1024) (by decide +kernel)⟩
theorem lw_p37 : lw_okq (⟨"LameClocksModel", "end", "(Z)I"⟩, 27) := ⟨⟨by decide +kernel, by decide +kernel⟩, List.mem_of_getElem? (i := 859) (by decide +kernel), List.mem_of_getElem? (i := 1035) (by decide +kernel), List.mem_of_getElem? (i := 1036) (by decide +kernel)⟩
theorem lw_p38 : lw_okq (⟨"LameClocksModel", "allBack", "()V"⟩, 27) := ⟨⟨by decide +kernel, by decide +kernel⟩, List.mem_of_getElem? (i := 859) (by decide +kernel), List.mem_of_getElem? (i := 1039) (by decide +kernel), List.mem_of_getElem? (i := 1040) (by decide +kernel)⟩
theorem lw_p39 : lw_okq (⟨"LameClocksModel", "readStreet", "()Z"⟩, 27) := ⟨⟨by decide +kernel, by decide +kernel⟩, List.mem_of_getElem? (i := 859) (by decide +kernel), List.mem_of_getElem? (i := 1051) (by decide +kernel), List.mem_of_getElem? (i := 1052) (by decide +kernel)⟩
theorem lw_p40 : lw_okq (⟨"LameClocksModel", "readClock", "(I)Z"⟩, 27) := ⟨⟨by decide +kernel, by decide +kernel⟩, List.mem_of_getElem? (i := 859) (by decide +kernel), List.mem_of_getElem? (i := 1055) (by decide +kernel), List.mem_of_getElem? (i := 1056) (by decide +kernel)⟩
theorem lw_p41 : lw_okq (⟨"LameClocksModel", "readNumber", "(II)I"⟩, 27) := ⟨⟨by decide +kernel, by decide +kernel⟩, List.mem_of_getElem? (i := 859) (by decide +kernel), List.mem_of_getElem? (i := 1062) (by decide +kernel), List.mem_of_getElem? (i := 1063) (by decide +kernel)⟩
theorem lw_p42 : lw_okq (⟨"LameClocksModel", "takes", "(I)Z"⟩, 27) := ⟨⟨by decide +kernel, by decide +kernel⟩, List.mem_of_getElem? (i := 859) (by decide +kernel), List.mem_of_getElem? (i := 1067) (by decide +kernel), List.mem_of_getElem? (i := 1068) (by decide +kernel)⟩
theorem lw_p43 : lw_okq (⟨"LameClocksModel", "readDay", "()Z"⟩, 27) := ⟨⟨by decide +kernel, by decide +kernel⟩, List.mem_of_getElem? (i := 859) (by decide +kernel), List.mem_of_getElem? (i := 1075) (by decide +kernel), List.mem_of_getElem? (i := 1076) (by decide +kernel)⟩
theorem lw_p44 : lw_okq (⟨"LameClocksModel", "readAct", "(I)Z"⟩, 27) := ⟨⟨by decide +kernel, by decide +kernel⟩, List.mem_of_getElem? (i := 859) (by decide +kernel), List.mem_of_getElem? (i := 1079) (by decide +kernel), List.mem_of_getElem? (i := 1080) (by decide +kernel)⟩
theorem lw_p45 : lw_okq (⟨"LameClocksModel", "does", "(I)Z"⟩, 27) := ⟨⟨by decide +kernel, by decide +kernel⟩, List.mem_of_getElem? (i := 859) (by decide +kernel), List.mem_of_getElem? (i := 1083) (by decide +kernel), List.mem_of_getElem? (i := 1084) (by decide +kernel)⟩
theorem lw_p46 : lw_okq (⟨"LameClocksModel", "note", "(III)V"⟩, 27) := ⟨⟨by decide +kernel, by decide +kernel⟩, List.mem_of_getElem? (i := 859) (by decide +kernel), List.mem_of_getElem? (i := 1091) (by decide +kernel), List.mem_of_getElem? (i := 1092) (by decide +kernel)⟩
theorem lw_p47 : lw_okq (⟨"LameClocksModel", "addSpring", "(II)V"⟩, 27) := ⟨⟨by decide +kernel, by decide +kernel⟩, List.mem_of_getElem? (i := 859) (by decide +kernel), List.mem_of_getElem? (i := 1095) (by decide +kernel), List.mem_of_getElem? (i := 1096) (by decide +kernel)⟩
def lw_privs_3 : List (MethodName × Nat) := [(⟨"LameClocksModel", "truth", "()I"⟩, 27), (⟨"LameClocksModel", "strikes", "(I)I"⟩, 27), (⟨"LameClocksModel", "isWindow", "(I)Z"⟩, 27), (⟨"LameClocksModel", "readSigns", "(IIZ)Z"⟩, 27), (⟨"LameClocksModel", "nextLetter", "()I"⟩, 27), (⟨"LameClocksModel", "end", "(Z)I"⟩, 27), (⟨"LameClocksModel", "allBack", "()V"⟩, 27), (⟨"LameClocksModel", "readStreet", "()Z"⟩, 27), (⟨"LameClocksModel", "readClock", "(I)Z"⟩, 27), (⟨"LameClocksModel", "readNumber", "(II)I"⟩, 27), (⟨"LameClocksModel", "takes", "(I)Z"⟩, 27), (⟨"LameClocksModel", "readDay", "()Z"⟩, 27), (⟨"LameClocksModel", "readAct", "(I)Z"⟩, 27), (⟨"LameClocksModel", "does", "(I)Z"⟩, 27), (⟨"LameClocksModel", "note", "(III)V"⟩, 27), (⟨"LameClocksModel", "addSpring", "(II)V"⟩, 27)]
theorem lw_r3 : ∀ q ∈ lw_privs_3, lw_okq q := List.forall_mem_cons.mpr ⟨lw_p32, List.forall_mem_cons.mpr ⟨lw_p33, List.forall_mem_cons.mpr ⟨lw_p34, List.forall_mem_cons.mpr ⟨lw_p35, List.forall_mem_cons.mpr ⟨lw_p36, List.forall_mem_cons.mpr ⟨lw_p37, List.forall_mem_cons.mpr ⟨lw_p38, List.forall_mem_cons.mpr ⟨lw_p39, List.forall_mem_cons.mpr ⟨lw_p40, List.forall_mem_cons.mpr ⟨lw_p41, List.forall_mem_cons.mpr ⟨lw_p42, List.forall_mem_cons.mpr ⟨lw_p43, List.forall_mem_cons.mpr ⟨lw_p44, List.forall_mem_cons.mpr ⟨lw_p45, List.forall_mem_cons.mpr ⟨lw_p46, List.forall_mem_cons.mpr ⟨lw_p47, fun _ h => absurd h List.not_mem_nil⟩⟩⟩⟩⟩⟩⟩⟩⟩⟩⟩⟩⟩⟩⟩⟩
theorem lw_p48 : lw_okq (⟨"LameClocksModel", "addHands", "(II)V"⟩, 27) := ⟨⟨by decide +kernel, by decide +kernel⟩, List.mem_of_getElem? (i := 859) (by decide +kernel), List.mem_of_getElem? (i := 1103) (by decide +kernel), List.mem_of_getElem? (i := 1104) (by decide +kernel)⟩
theorem lw_p49 : lw_okq (⟨"LameClocksModel", "skyNow", "()I"⟩, 27) := ⟨⟨by decide +kernel, by decide +kernel⟩, List.mem_of_getElem? (i := 859) (by decide +kernel), List.mem_of_getElem? (i := 1115) (by decide +kernel), List.mem_of_getElem? (i := 1116) (by decide +kernel)⟩
theorem lw_p50 : lw_okq (⟨"LameClocksModel", "goOn", "(I)I"⟩, 27) := ⟨⟨by decide +kernel, by decide +kernel⟩, List.mem_of_getElem? (i := 859) (by decide +kernel), List.mem_of_getElem? (i := 1119) (by decide +kernel), List.mem_of_getElem? (i := 1120) (by decide +kernel)⟩
theorem lw_p51 : lw_okq (⟨"LameClocksModel", "isHome", "(I)Z"⟩, 27) := ⟨⟨by decide +kernel, by decide +kernel⟩, List.mem_of_getElem? (i := 859) (by decide +kernel), List.mem_of_getElem? (i := 1123) (by decide +kernel), List.mem_of_getElem? (i := 1124) (by decide +kernel)⟩
theorem lw_p52 : lw_okq (⟨"LameClocksModel", "goes", "(II)Z"⟩, 27) := ⟨⟨by decide +kernel, by decide +kernel⟩, List.mem_of_getElem? (i := 859) (by decide +kernel), List.mem_of_getElem? (i := 1127) (by decide +kernel), List.mem_of_getElem? (i := 1128) (by decide +kernel)⟩
theorem lw_p53 : lw_okq (⟨"LameClocksModel", "run", "(I)V"⟩, 27) := ⟨⟨by decide +kernel, by decide +kernel⟩, List.mem_of_getElem? (i := 859) (by decide +kernel), List.mem_of_getElem? (i := 1134) (by decide +kernel), List.mem_of_getElem? (i := 1135) (by decide +kernel)⟩
theorem lw_p54 : lw_okq (⟨"LameClocksModel", "placeOf", "(I)I"⟩, 27) := ⟨⟨by decide +kernel, by decide +kernel⟩, List.mem_of_getElem? (i := 859) (by decide +kernel), List.mem_of_getElem? (i := 1142) (by decide +kernel), List.mem_of_getElem? (i := 1143) (by decide +kernel)⟩
theorem lw_p55 : lw_okq (⟨"LameClocksModel", "isAhead", "(II)Z"⟩, 27) := ⟨⟨by decide +kernel, by decide +kernel⟩, List.mem_of_getElem? (i := 859) (by decide +kernel), List.mem_of_getElem? (i := 1146) (by decide +kernel), List.mem_of_getElem? (i := 1147) (by decide +kernel)⟩
theorem lw_p56 : lw_okq (⟨"LameClocksModel", "homes", "()I"⟩, 27) := ⟨⟨by decide +kernel, by decide +kernel⟩, List.mem_of_getElem? (i := 859) (by decide +kernel), List.mem_of_getElem? (i := 1154) (by decide +kernel), List.mem_of_getElem? (i := 1155) (by decide +kernel)⟩
theorem lw_p57 : lw_okq (⟨"LameClocksModel", "tied", "()I"⟩, 27) := ⟨⟨by decide +kernel, by decide +kernel⟩, List.mem_of_getElem? (i := 859) (by decide +kernel), List.mem_of_getElem? (i := 1158) (by decide +kernel), List.mem_of_getElem? (i := 1159) (by decide +kernel)⟩
theorem lw_p58 : lw_okq (⟨"LameClocksModel", "keepAside", "()V"⟩, 27) := ⟨⟨by decide +kernel, by decide +kernel⟩, List.mem_of_getElem? (i := 859) (by decide +kernel), List.mem_of_getElem? (i := 1190) (by decide +kernel), List.mem_of_getElem? (i := 1191) (by decide +kernel)⟩
theorem lw_p59 : lw_okq (⟨"LameClocksModel", "goHours", "(I)V"⟩, 27) := ⟨⟨by decide +kernel, by decide +kernel⟩, List.mem_of_getElem? (i := 859) (by decide +kernel), List.mem_of_getElem? (i := 1194) (by decide +kernel), List.mem_of_getElem? (i := 1195) (by decide +kernel)⟩
theorem lw_p60 : lw_okq (⟨"LameClocksModel", "bringBack", "()V"⟩, 27) := ⟨⟨by decide +kernel, by decide +kernel⟩, List.mem_of_getElem? (i := 859) (by decide +kernel), List.mem_of_getElem? (i := 1198) (by decide +kernel), List.mem_of_getElem? (i := 1199) (by decide +kernel)⟩
theorem lw_p61 : lw_okq (⟨"LameClocksModel", "isAsked", "(III)Z"⟩, 27) := ⟨⟨by decide +kernel, by decide +kernel⟩, List.mem_of_getElem? (i := 859) (by decide +kernel), List.mem_of_getElem? (i := 1218) (by decide +kernel), List.mem_of_getElem? (i := 1219) (by decide +kernel)⟩
theorem lw_p62 : lw_okq (⟨"LameClocksModel", "placeWith", "(IIII)I"⟩, 27) := ⟨⟨by decide +kernel, by decide +kernel⟩, List.mem_of_getElem? (i := 859) (by decide +kernel), List.mem_of_getElem? (i := 1223) (by decide +kernel), List.mem_of_getElem? (i := 1224) (by decide +kernel)⟩
theorem lw_p63 : lw_okq (⟨"LameClocksModel", "doesRest", "(I)Z"⟩, 27) := ⟨⟨by decide +kernel, by decide +kernel⟩, List.mem_of_getElem? (i := 859) (by decide +kernel), List.mem_of_getElem? (i := 1239) (by decide +kernel), List.mem_of_getElem? (i := 1240) (by decide +kernel)⟩
def lw_privs_4 : List (MethodName × Nat) := [(⟨"LameClocksModel", "addHands", "(II)V"⟩, 27), (⟨"LameClocksModel", "skyNow", "()I"⟩, 27), (⟨"LameClocksModel", "goOn", "(I)I"⟩, 27), (⟨"LameClocksModel", "isHome", "(I)Z"⟩, 27), (⟨"LameClocksModel", "goes", "(II)Z"⟩, 27), (⟨"LameClocksModel", "run", "(I)V"⟩, 27), (⟨"LameClocksModel", "placeOf", "(I)I"⟩, 27), (⟨"LameClocksModel", "isAhead", "(II)Z"⟩, 27), (⟨"LameClocksModel", "homes", "()I"⟩, 27), (⟨"LameClocksModel", "tied", "()I"⟩, 27), (⟨"LameClocksModel", "keepAside", "()V"⟩, 27), (⟨"LameClocksModel", "goHours", "(I)V"⟩, 27), (⟨"LameClocksModel", "bringBack", "()V"⟩, 27), (⟨"LameClocksModel", "isAsked", "(III)Z"⟩, 27), (⟨"LameClocksModel", "placeWith", "(IIII)I"⟩, 27), (⟨"LameClocksModel", "doesRest", "(I)Z"⟩, 27)]
theorem lw_r4 : ∀ q ∈ lw_privs_4, lw_okq q := List.forall_mem_cons.mpr ⟨lw_p48, List.forall_mem_cons.mpr ⟨lw_p49, List.forall_mem_cons.mpr ⟨lw_p50, List.forall_mem_cons.mpr ⟨lw_p51, List.forall_mem_cons.mpr ⟨lw_p52, List.forall_mem_cons.mpr ⟨lw_p53, List.forall_mem_cons.mpr ⟨lw_p54, List.forall_mem_cons.mpr ⟨lw_p55, List.forall_mem_cons.mpr ⟨lw_p56, List.forall_mem_cons.mpr ⟨lw_p57, List.forall_mem_cons.mpr ⟨lw_p58, List.forall_mem_cons.mpr ⟨lw_p59, List.forall_mem_cons.mpr ⟨lw_p60, List.forall_mem_cons.mpr ⟨lw_p61, List.forall_mem_cons.mpr ⟨lw_p62, List.forall_mem_cons.mpr ⟨lw_p63, fun _ h => absurd h List.not_mem_nil⟩⟩⟩⟩⟩⟩⟩⟩⟩⟩⟩⟩⟩⟩⟩⟩
theorem lw_p64 : lw_okq (⟨"LameClocksModel", "areClocks", "(I)Z"⟩, 27) := ⟨⟨by decide +kernel, by decide +kernel⟩, List.mem_of_getElem? (i := 859) (by decide +kernel), List.mem_of_getElem? (i := 1264) (by decide +kernel), List.mem_of_getElem? (i := 1265) (by decide +kernel)⟩
theorem lw_p65 : lw_okq (⟨"LameClocksModel", "carried", "(IIZ)I"⟩, 27) := ⟨⟨by decide +kernel, by decide +kernel⟩, List.mem_of_getElem? (i := 859) (by decide +kernel), List.mem_of_getElem? (i := 1303) (by decide +kernel), List.mem_of_getElem? (i := 1304) (by decide +kernel)⟩
theorem lw_p66 : lw_okq (⟨"LameClocksModel", "lacksRow", "(IIII)I"⟩, 27) := ⟨⟨by decide +kernel, by decide +kernel⟩, List.mem_of_getElem? (i := 859) (by decide +kernel), List.mem_of_getElem? (i := 1327) (by decide +kernel), List.mem_of_getElem? (i := 1328) (by decide +kernel)⟩
theorem lw_p67 : lw_okq (⟨"LameClocksModel", "areSo", "(I)Z"⟩, 27) := ⟨⟨by decide +kernel, by decide +kernel⟩, List.mem_of_getElem? (i := 859) (by decide +kernel), List.mem_of_getElem? (i := 1346) (by decide +kernel), List.mem_of_getElem? (i := 1347) (by decide +kernel)⟩
def lw_privs_5 : List (MethodName × Nat) := [(⟨"LameClocksModel", "areClocks", "(I)Z"⟩, 27), (⟨"LameClocksModel", "carried", "(IIZ)I"⟩, 27), (⟨"LameClocksModel", "lacksRow", "(IIII)I"⟩, 27), (⟨"LameClocksModel", "areSo", "(I)Z"⟩, 27)]
theorem lw_r5 : ∀ q ∈ lw_privs_5, lw_okq q := List.forall_mem_cons.mpr ⟨lw_p64, List.forall_mem_cons.mpr ⟨lw_p65, List.forall_mem_cons.mpr ⟨lw_p66, List.forall_mem_cons.mpr ⟨lw_p67, fun _ h => absurd h List.not_mem_nil⟩⟩⟩⟩
def lw_privs : List (MethodName × Nat) := lw_privs_1 ++ (lw_privs_2 ++ (lw_privs_3 ++ (lw_privs_4 ++ (lw_privs_5))))
def lw_tbl : List Cond := k2_sels lw_privs ++ tables_1
theorem lw_privs_ok : ∀ q ∈ lw_privs, lw_okq q := by
  show ∀ q ∈ lw_privs_1 ++ (lw_privs_2 ++ (lw_privs_3 ++ (lw_privs_4 ++ (lw_privs_5)))), lw_okq q
  exact List.forall_mem_append.mpr ⟨lw_r1, List.forall_mem_append.mpr ⟨lw_r2, List.forall_mem_append.mpr ⟨lw_r3, List.forall_mem_append.mpr ⟨lw_r4, lw_r5⟩⟩⟩⟩

def RX0 : String := "LameClocks$Bets"
def TX0 : u_T := fun k => match k with
  | 0 => ("LameClocks$Bets", "size", "I", false)
  | 1 => ("LameClocks$Bets", "on", "[I", true)
  | _ => ("LameClocks$Bets", "stake", "[I", true)
def tyX0 : Nat → FieldType := fun k => match k with
  | 0 => .int
  | 1 => .array .int
  | _ => .array .int
abbrev wsX00 : List Cond := u_ws RX0 TX0 3
theorem nmX0 : ∀ a, a < 3 → ∀ b, b < 3 → a ≠ b → (TX0 a).2.1 ≠ (TX0 b).2.1 := by decide +kernel
theorem tyX0_ok : ∀ k, k < 3 → parseFieldDescriptor (TX0 k).2.2.1 = some (tyX0 k) := by decide +kernel
abbrev cX0_init : ByteArray := prog_2_method_1_code
def yX0_init : MethodName := ⟨RX0, "<init>", "()V"⟩
abbrev cX0_become : ByteArray := prog_2_method_2_code
def yX0_become : MethodName := ⟨RX0, "become", "(LLameClocks$Bets;)V"⟩
abbrev cX0_add : ByteArray := prog_2_method_3_code
def yX0_add : MethodName := ⟨RX0, "add", "(II)I"⟩
abbrev cX0_removeOn : ByteArray := prog_2_method_4_code
def yX0_removeOn : MethodName := ⟨RX0, "removeOn", "(I)V"⟩
abbrev cX0_wins : ByteArray := prog_2_method_5_code
def yX0_wins : MethodName := ⟨RX0, "wins", "(II)Z"⟩
abbrev cX0_share : ByteArray := prog_2_method_6_code
def yX0_share : MethodName := ⟨RX0, "share", "(II)I"⟩
def RX1 : String := "LameClocks$Day"
def TX1 : u_T := fun k => match k with
  | 0 => ("LameClocks$Day", "size", "I", false)
  | 1 => ("LameClocks$Day", "act", "[I", true)
  | 2 => ("LameClocks$Day", "whom", "[I", true)
  | _ => ("LameClocks$Day", "amount", "[I", true)
def tyX1 : Nat → FieldType := fun k => match k with
  | 0 => .int
  | 1 => .array .int
  | 2 => .array .int
  | _ => .array .int
abbrev wsX10 : List Cond := u_ws RX1 TX1 4
theorem nmX1 : ∀ a, a < 4 → ∀ b, b < 4 → a ≠ b → (TX1 a).2.1 ≠ (TX1 b).2.1 := by decide +kernel
theorem tyX1_ok : ∀ k, k < 4 → parseFieldDescriptor (TX1 k).2.2.1 = some (tyX1 k) := by decide +kernel
abbrev cX1_init : ByteArray := prog_3_method_1_code
def yX1_init : MethodName := ⟨RX1, "<init>", "()V"⟩
abbrev cX1_add : ByteArray := prog_3_method_2_code
def yX1_add : MethodName := ⟨RX1, "add", "(III)V"⟩
def RX2 : String := "LameClocks$Race"
def TX2 : u_T := fun k => match k with
  | 0 => ("LameClocks$Race", "windows", "I", false)
  | 1 => ("LameClocks$Race", "dials", "[I", true)
  | 2 => ("LameClocks$Race", "clocks", "I", false)
  | 3 => ("LameClocks$Race", "kind", "[I", true)
  | 4 => ("LameClocks$Race", "hands", "[I", true)
  | 5 => ("LameClocks$Race", "rate", "[I", true)
  | 6 => ("LameClocks$Race", "spring", "[I", true)
  | 7 => ("LameClocks$Race", "window", "[I", true)
  | 8 => ("LameClocks$Race", "finish", "[I", true)
  | 9 => ("LameClocks$Race", "skies", "I", false)
  | 10 => ("LameClocks$Race", "sky", "[I", true)
  | 11 => ("LameClocks$Race", "hour", "I", false)
  | 12 => ("LameClocks$Race", "heard", "I", false)
  | _ => ("LameClocks$Race", "strokes", "I", false)
def tyX2 : Nat → FieldType := fun k => match k with
  | 0 => .int
  | 1 => .array .int
  | 2 => .int
  | 3 => .array .int
  | 4 => .array .int
  | 5 => .array .int
  | 6 => .array .int
  | 7 => .array .int
  | 8 => .array .int
  | 9 => .int
  | 10 => .array .int
  | 11 => .int
  | 12 => .int
  | _ => .int
abbrev wsX20 : List Cond := u_ws RX2 TX2 14
theorem nmX2 : ∀ a, a < 14 → ∀ b, b < 14 → a ≠ b → (TX2 a).2.1 ≠ (TX2 b).2.1 := by decide +kernel
theorem tyX2_ok : ∀ k, k < 14 → parseFieldDescriptor (TX2 k).2.2.1 = some (tyX2 k) := by decide +kernel
abbrev cX2_init : ByteArray := prog_4_method_1_code
def yX2_init : MethodName := ⟨RX2, "<init>", "()V"⟩
abbrev cX2_become : ByteArray := prog_4_method_2_code
def yX2_become : MethodName := ⟨RX2, "become", "(LLameClocks$Race;)V"⟩
abbrev cX2_add : ByteArray := prog_4_method_3_code
def yX2_add : MethodName := ⟨RX2, "add", "(IIII)I"⟩
abbrev cX2_removeLast : ByteArray := prog_4_method_4_code
def yX2_removeLast : MethodName := ⟨RX2, "removeLast", "()V"⟩
abbrev cX2_toStart : ByteArray := prog_4_method_5_code
def yX2_toStart : MethodName := ⟨RX2, "toStart", "()V"⟩
abbrev cX2_hush : ByteArray := prog_4_method_6_code
def yX2_hush : MethodName := ⟨RX2, "hush", "()V"⟩
abbrev cX2_weatherAt : ByteArray := prog_4_method_7_code
def yX2_weatherAt : MethodName := ⟨RX2, "weatherAt", "(I)I"⟩
abbrev cX2_trueMinutes : ByteArray := prog_4_method_8_code
def yX2_trueMinutes : MethodName := ⟨RX2, "trueMinutes", "()I"⟩
abbrev cX2_shownBy : ByteArray := prog_4_method_9_code
def yX2_shownBy : MethodName := ⟨RX2, "shownBy", "(I)I"⟩
abbrev cX2_struckBy : ByteArray := prog_4_method_10_code
def yX2_struckBy : MethodName := ⟨RX2, "struckBy", "(I)I"⟩
abbrev cX2_strokesFor : ByteArray := prog_4_method_11_code
def yX2_strokesFor : MethodName := ⟨RX2, "strokesFor", "(I)I"⟩
abbrev cX2_strokesOfSet : ByteArray := prog_4_method_12_code
def yX2_strokesOfSet : MethodName := ⟨RX2, "strokesOfSet", "(I)I"⟩
abbrev cX2_isHome : ByteArray := prog_4_method_13_code
def yX2_isHome : MethodName := ⟨RX2, "isHome", "(I)Z"⟩
abbrev cX2_homeCount : ByteArray := prog_4_method_14_code
def yX2_homeCount : MethodName := ⟨RX2, "homeCount", "()I"⟩
abbrev cX2_allHome : ByteArray := prog_4_method_15_code
def yX2_allHome : MethodName := ⟨RX2, "allHome", "()Z"⟩
abbrev cX2_windOn : ByteArray := prog_4_method_16_code
def yX2_windOn : MethodName := ⟨RX2, "windOn", "(II)V"⟩
abbrev cX2_turnOn : ByteArray := prog_4_method_17_code
def yX2_turnOn : MethodName := ⟨RX2, "turnOn", "(II)V"⟩
abbrev cX2_pass : ByteArray := prog_4_method_18_code
def yX2_pass : MethodName := ⟨RX2, "pass", "(I)I"⟩
abbrev cX2_passMany : ByteArray := prog_4_method_19_code
def yX2_passMany : MethodName := ⟨RX2, "passMany", "(II)V"⟩
abbrev cX2_mayGo : ByteArray := prog_4_method_20_code
def yX2_mayGo : MethodName := ⟨RX2, "mayGo", "(III)Z"⟩
abbrev cX2_go : ByteArray := prog_4_method_21_code
def yX2_go : MethodName := ⟨RX2, "go", "(III)V"⟩
abbrev cX2_run : ByteArray := prog_4_method_22_code
def yX2_run : MethodName := ⟨RX2, "run", "(I)V"⟩
abbrev cX2_isAhead : ByteArray := prog_4_method_23_code
def yX2_isAhead : MethodName := ⟨RX2, "isAhead", "(II)Z"⟩
abbrev cX2_placeOf : ByteArray := prog_4_method_24_code
def yX2_placeOf : MethodName := ⟨RX2, "placeOf", "(I)I"⟩
abbrev cX2_leaders : ByteArray := prog_4_method_25_code
def yX2_leaders : MethodName := ⟨RX2, "leaders", "()I"⟩
abbrev cX2_tiedPairs : ByteArray := prog_4_method_26_code
def yX2_tiedPairs : MethodName := ⟨RX2, "tiedPairs", "()I"⟩
def RX3 : String := "LameClocks$Repairs"
def TX3 : u_T := fun k => match k with
  | 0 => ("LameClocks$Repairs", "known", "I", false)
  | 1 => ("LameClocks$Repairs", "act", "[I", true)
  | 2 => ("LameClocks$Repairs", "whom", "[I", true)
  | _ => ("LameClocks$Repairs", "was", "[I", true)
def tyX3 : Nat → FieldType := fun k => match k with
  | 0 => .int
  | 1 => .array .int
  | 2 => .array .int
  | _ => .array .int
abbrev wsX30 : List Cond := u_ws RX3 TX3 4
theorem nmX3 : ∀ a, a < 4 → ∀ b, b < 4 → a ≠ b → (TX3 a).2.1 ≠ (TX3 b).2.1 := by decide +kernel
theorem tyX3_ok : ∀ k, k < 4 → parseFieldDescriptor (TX3 k).2.2.1 = some (tyX3 k) := by decide +kernel
abbrev cX3_init : ByteArray := prog_5_method_1_code
def yX3_init : MethodName := ⟨RX3, "<init>", "()V"⟩
abbrev cX3_become : ByteArray := prog_5_method_2_code
def yX3_become : MethodName := ⟨RX3, "become", "(LLameClocks$Repairs;)V"⟩
abbrev cX3_note : ByteArray := prog_5_method_3_code
def yX3_note : MethodName := ⟨RX3, "note", "(III)V"⟩
abbrev cX3_forgetOldest : ByteArray := prog_5_method_4_code
def yX3_forgetOldest : MethodName := ⟨RX3, "forgetOldest", "()V"⟩
abbrev cX3_takeBack : ByteArray := prog_5_method_5_code
def yX3_takeBack : MethodName := ⟨RX3, "takeBack", "(LLameClocks$Race;)V"⟩
def RX4 : String := "LameClocks$Sheet"
def TX4 : u_T := fun k => match k with
  | 0 => ("LameClocks$Sheet", "isThere", "Z", false)
  | 1 => ("LameClocks$Sheet", "lane", "I", false)
  | 2 => ("LameClocks$Sheet", "size", "I", false)
  | _ => ("LameClocks$Sheet", "items", "[J", true)
def tyX4 : Nat → FieldType := fun k => match k with
  | 0 => .boolean
  | 1 => .int
  | 2 => .int
  | _ => .array .long
abbrev wsX40 : List Cond := u_ws RX4 TX4 4
theorem nmX4 : ∀ a, a < 4 → ∀ b, b < 4 → a ≠ b → (TX4 a).2.1 ≠ (TX4 b).2.1 := by decide +kernel
theorem tyX4_ok : ∀ k, k < 4 → parseFieldDescriptor (TX4 k).2.2.1 = some (tyX4 k) := by decide +kernel
abbrev cX4_init : ByteArray := prog_6_method_1_code
def yX4_init : MethodName := ⟨RX4, "<init>", "()V"⟩
abbrev cX4_renew : ByteArray := prog_6_method_2_code
def yX4_renew : MethodName := ⟨RX4, "renew", "(II)V"⟩
abbrev cX4_holds : ByteArray := prog_6_method_3_code
def yX4_holds : MethodName := ⟨RX4, "holds", "(II)Z"⟩
abbrev cX4_refusal : ByteArray := prog_6_method_4_code
def yX4_refusal : MethodName := ⟨RX4, "refusal", "(III)I"⟩
abbrev cX4_put : ByteArray := prog_6_method_5_code
def yX4_put : MethodName := ⟨RX4, "put", "(IJ)V"⟩
def RX5 : String := "LameClocks$Tape"
def TX5 : u_T := fun k => match k with
  | 0 => ("LameClocks$Tape", "letters", "[C", true)
  | 1 => ("LameClocks$Tape", "size", "I", false)
  | 2 => ("LameClocks$Tape", "at", "I", false)
  | 3 => ("LameClocks$Tape", "passed", "I", false)
  | _ => ("LameClocks$Tape", "fault", "I", false)
def tyX5 : Nat → FieldType := fun k => match k with
  | 0 => .array .char
  | 1 => .int
  | 2 => .int
  | 3 => .int
  | _ => .int
abbrev wsX50 : List Cond := u_ws RX5 TX5 5
theorem nmX5 : ∀ a, a < 5 → ∀ b, b < 5 → a ≠ b → (TX5 a).2.1 ≠ (TX5 b).2.1 := by decide +kernel
theorem tyX5_ok : ∀ k, k < 5 → parseFieldDescriptor (TX5 k).2.2.1 = some (tyX5 k) := by decide +kernel
abbrev cX5_init : ByteArray := prog_7_method_1_code
def yX5_init : MethodName := ⟨RX5, "<init>", "()V"⟩
abbrev cX5_readSigns : ByteArray := prog_7_method_2_code
def yX5_readSigns : MethodName := ⟨RX5, "readSigns", "(Ljava/lang/String;II[I)I"⟩
abbrev cX5_readStreet : ByteArray := prog_7_method_3_code
def yX5_readStreet : MethodName := ⟨RX5, "readStreet", "(LLameClocks$Race;)I"⟩
abbrev cX5_readClock : ByteArray := prog_7_method_4_code
def yX5_readClock : MethodName := ⟨RX5, "readClock", "(LLameClocks$Race;)Z"⟩
abbrev cX5_readDay : ByteArray := prog_7_method_5_code
def yX5_readDay : MethodName := ⟨RX5, "readDay", "(LLameClocks$Day;)I"⟩
abbrev cX5_readAct : ByteArray := prog_7_method_6_code
def yX5_readAct : MethodName := ⟨RX5, "readAct", "(LLameClocks$Day;)Z"⟩
abbrev cX5_readBreath : ByteArray := prog_7_method_7_code
def yX5_readBreath : MethodName := ⟨RX5, "readBreath", "(LLameClocks$Day;)Z"⟩
abbrev cX5_readByClock : ByteArray := prog_7_method_8_code
def yX5_readByClock : MethodName := ⟨RX5, "readByClock", "(LLameClocks$Day;II)Z"⟩
abbrev cX5_rewind : ByteArray := prog_7_method_9_code
def yX5_rewind : MethodName := ⟨RX5, "rewind", "()V"⟩
abbrev cX5_next : ByteArray := prog_7_method_10_code
def yX5_next : MethodName := ⟨RX5, "next", "()I"⟩
abbrev cX5_skip : ByteArray := prog_7_method_11_code
def yX5_skip : MethodName := ⟨RX5, "skip", "()V"⟩
abbrev cX5_takes : ByteArray := prog_7_method_12_code
def yX5_takes : MethodName := ⟨RX5, "takes", "(C)Z"⟩
abbrev cX5_number : ByteArray := prog_7_method_13_code
def yX5_number : MethodName := ⟨RX5, "number", "(II)I"⟩
abbrev cX5_isDigit : ByteArray := prog_7_method_14_code
def yX5_isDigit : MethodName := ⟨RX5, "isDigit", "(I)Z"⟩
abbrev cX5_here : ByteArray := prog_7_method_15_code
def yX5_here : MethodName := ⟨RX5, "here", "()I"⟩
abbrev cX5_fails : ByteArray := prog_7_method_16_code
def yX5_fails : MethodName := ⟨RX5, "fails", "(I)Z"⟩
def RX6 : String := "LameClocks$Whole"
def TX6 : u_T := fun k => match k with
  | 0 => ("LameClocks$Whole", "race", "LLameClocks$Race;", true)
  | 1 => ("LameClocks$Whole", "bets", "LLameClocks$Bets;", true)
  | 2 => ("LameClocks$Whole", "repairs", "LLameClocks$Repairs;", true)
  | _ => ("LameClocks$Whole", "draw", "I", false)
def tyX6 : Nat → FieldType := fun k => match k with
  | 0 => .object "LameClocks$Race"
  | 1 => .object "LameClocks$Bets"
  | 2 => .object "LameClocks$Repairs"
  | _ => .int
abbrev wsX60 : List Cond := u_ws RX6 TX6 4
theorem nmX6 : ∀ a, a < 4 → ∀ b, b < 4 → a ≠ b → (TX6 a).2.1 ≠ (TX6 b).2.1 := by decide +kernel
theorem tyX6_ok : ∀ k, k < 4 → parseFieldDescriptor (TX6 k).2.2.1 = some (tyX6 k) := by decide +kernel
abbrev cX6_init : ByteArray := prog_8_method_1_code
def yX6_init : MethodName := ⟨RX6, "<init>", "()V"⟩
abbrev cX6_become : ByteArray := prog_8_method_2_code
def yX6_become : MethodName := ⟨RX6, "become", "(LLameClocks$Whole;)V"⟩
abbrev cX6_drawWeather : ByteArray := prog_8_method_3_code
def yX6_drawWeather : MethodName := ⟨RX6, "drawWeather", "()I"⟩
def RX7 : String := "LameClocks"
def TX7 : u_T := fun k => match k with
  | 0 => ("LameClocks", "now", "LLameClocks$Whole;", true)
  | 1 => ("LameClocks", "kept", "LLameClocks$Whole;", true)
  | 2 => ("LameClocks", "hasImage", "Z", false)
  | 3 => ("LameClocks", "trial", "LLameClocks$Race;", true)
  | 4 => ("LameClocks", "tape", "LLameClocks$Tape;", true)
  | 5 => ("LameClocks", "plan", "LLameClocks$Day;", true)
  | 6 => ("LameClocks", "gains", "[I", true)
  | _ => ("LameClocks", "sheets", "[LLameClocks$Sheet;", true)
def tyX7 : Nat → FieldType := fun k => match k with
  | 0 => .object "LameClocks$Whole"
  | 1 => .object "LameClocks$Whole"
  | 2 => .boolean
  | 3 => .object "LameClocks$Race"
  | 4 => .object "LameClocks$Tape"
  | 5 => .object "LameClocks$Day"
  | 6 => .array .int
  | _ => .array (.object "LameClocks$Sheet")
abbrev wsX70 : List Cond := u_ws RX7 TX7 8
theorem nmX7 : ∀ a, a < 8 → ∀ b, b < 8 → a ≠ b → (TX7 a).2.1 ≠ (TX7 b).2.1 := by decide +kernel
theorem tyX7_ok : ∀ k, k < 8 → parseFieldDescriptor (TX7 k).2.2.1 = some (tyX7 k) := by decide +kernel
abbrev cX7_init : ByteArray := prog_1_method_1_code
def yX7_init : MethodName := ⟨RX7, "<init>", "()V"⟩
abbrev cX7_clock : ByteArray := prog_1_method_2_code
def yX7_clock : MethodName := ⟨RX7, "clock", "(IIII)I"⟩
abbrev cX7_strike : ByteArray := prog_1_method_3_code
def yX7_strike : MethodName := ⟨RX7, "strike", "()I"⟩
abbrev cX7_told : ByteArray := prog_1_method_4_code
def yX7_told : MethodName := ⟨RX7, "told", "(II)I"⟩
abbrev cX7_rate : ByteArray := prog_1_method_5_code
def yX7_rate : MethodName := ⟨RX7, "rate", "(I)I"⟩
abbrev cX7_dial : ByteArray := prog_1_method_6_code
def yX7_dial : MethodName := ⟨RX7, "dial", "(I)I"⟩
abbrev cX7_paint : ByteArray := prog_1_method_7_code
def yX7_paint : MethodName := ⟨RX7, "paint", "(II)I"⟩
abbrev cX7_weather : ByteArray := prog_1_method_8_code
def yX7_weather : MethodName := ⟨RX7, "weather", "(I)I"⟩
abbrev cX7_type : ByteArray := prog_1_method_9_code
def yX7_type : MethodName := ⟨RX7, "type", "(I)I"⟩
abbrev cX7_course : ByteArray := prog_1_method_10_code
def yX7_course : MethodName := ⟨RX7, "course", "()I"⟩
abbrev cX7_skies : ByteArray := prog_1_method_11_code
def yX7_skies : MethodName := ⟨RX7, "skies", "()I"⟩
abbrev cX7_street : ByteArray := prog_1_method_12_code
def yX7_street : MethodName := ⟨RX7, "street", "()I"⟩
abbrev cX7_day : ByteArray := prog_1_method_13_code
def yX7_day : MethodName := ⟨RX7, "day", "()I"⟩
abbrev cX7_count : ByteArray := prog_1_method_14_code
def yX7_count : MethodName := ⟨RX7, "count", "(I)I"⟩
abbrev cX7_heard : ByteArray := prog_1_method_15_code
def yX7_heard : MethodName := ⟨RX7, "heard", "()I"⟩
abbrev cX7_place : ByteArray := prog_1_method_16_code
def yX7_place : MethodName := ⟨RX7, "place", "(I)I"⟩
abbrev cX7_hour : ByteArray := prog_1_method_17_code
def yX7_hour : MethodName := ⟨RX7, "hour", "()I"⟩
abbrev cX7_wind : ByteArray := prog_1_method_18_code
def yX7_wind : MethodName := ⟨RX7, "wind", "(II)I"⟩
abbrev cX7_turn : ByteArray := prog_1_method_19_code
def yX7_turn : MethodName := ⟨RX7, "turn", "(II)I"⟩
abbrev cX7_tune : ByteArray := prog_1_method_20_code
def yX7_tune : MethodName := ⟨RX7, "tune", "(II)I"⟩
abbrev cX7_breathe : ByteArray := prog_1_method_21_code
def yX7_breathe : MethodName := ⟨RX7, "breathe", "(I)I"⟩
abbrev cX7_undo : ByteArray := prog_1_method_22_code
def yX7_undo : MethodName := ⟨RX7, "undo", "()I"⟩
abbrev cX7_restart : ByteArray := prog_1_method_23_code
def yX7_restart : MethodName := ⟨RX7, "restart", "()I"⟩
abbrev cX7_behind : ByteArray := prog_1_method_24_code
def yX7_behind : MethodName := ⟨RX7, "behind", "(III)I"⟩
abbrev cX7_leads : ByteArray := prog_1_method_25_code
def yX7_leads : MethodName := ⟨RX7, "leads", "(I)I"⟩
abbrev cX7_finish : ByteArray := prog_1_method_26_code
def yX7_finish : MethodName := ⟨RX7, "finish", "(I)I"⟩
abbrev cX7_over : ByteArray := prog_1_method_27_code
def yX7_over : MethodName := ⟨RX7, "over", "()I"⟩
abbrev cX7_turns : ByteArray := prog_1_method_28_code
def yX7_turns : MethodName := ⟨RX7, "turns", "(III)I"⟩
abbrev cX7_hands : ByteArray := prog_1_method_29_code
def yX7_hands : MethodName := ⟨RX7, "hands", "(III)I"⟩
abbrev cX7_both : ByteArray := prog_1_method_30_code
def yX7_both : MethodName := ⟨RX7, "both", "(IIII)I"⟩
abbrev cX7_duel : ByteArray := prog_1_method_31_code
def yX7_duel : MethodName := ⟨RX7, "duel", "(IIII)I"⟩
abbrev cX7_breath : ByteArray := prog_1_method_32_code
def yX7_breath : MethodName := ⟨RX7, "breath", "(II)I"⟩
abbrev cX7_right : ByteArray := prog_1_method_33_code
def yX7_right : MethodName := ⟨RX7, "right", "(II)I"⟩
abbrev cX7_appeal : ByteArray := prog_1_method_34_code
def yX7_appeal : MethodName := ⟨RX7, "appeal", "(II)I"⟩
abbrev cX7_spans : ByteArray := prog_1_method_35_code
def yX7_spans : MethodName := ⟨RX7, "spans", "(II)I"⟩
abbrev cX7_struck : ByteArray := prog_1_method_36_code
def yX7_struck : MethodName := ⟨RX7, "struck", "(III)I"⟩
abbrev cX7_bet : ByteArray := prog_1_method_37_code
def yX7_bet : MethodName := ⟨RX7, "bet", "(II)I"⟩
abbrev cX7_pays : ByteArray := prog_1_method_38_code
def yX7_pays : MethodName := ⟨RX7, "pays", "(II)I"⟩
abbrev cX7_settle : ByteArray := prog_1_method_39_code
def yX7_settle : MethodName := ⟨RX7, "settle", "()I"⟩
abbrev cX7_lots : ByteArray := prog_1_method_40_code
def yX7_lots : MethodName := ⟨RX7, "lots", "(I)I"⟩
abbrev cX7_seed : ByteArray := prog_1_method_41_code
def yX7_seed : MethodName := ⟨RX7, "seed", "(I)I"⟩
abbrev cX7_image : ByteArray := prog_1_method_42_code
def yX7_image : MethodName := ⟨RX7, "image", "()I"⟩
abbrev cX7_restore : ByteArray := prog_1_method_43_code
def yX7_restore : MethodName := ⟨RX7, "restore", "()I"⟩
abbrev cX7_dress : ByteArray := prog_1_method_44_code
def yX7_dress : MethodName := ⟨RX7, "dress", "(IIII)I"⟩
abbrev cX7_film : ByteArray := prog_1_method_45_code
def yX7_film : MethodName := ⟨RX7, "film", "(III)I"⟩
abbrev cX7_seen : ByteArray := prog_1_method_46_code
def yX7_seen : MethodName := ⟨RX7, "seen", "(III)I"⟩
abbrev cX7_sheet : ByteArray := prog_1_method_47_code
def yX7_sheet : MethodName := ⟨RX7, "sheet", "(III)I"⟩
abbrev cX7_drop : ByteArray := prog_1_method_48_code
def yX7_drop : MethodName := ⟨RX7, "drop", "(I)I"⟩
abbrev cX7_item : ByteArray := prog_1_method_49_code
def yX7_item : MethodName := ⟨RX7, "item", "(IIIJ)I"⟩
abbrev cX7_copy : ByteArray := prog_1_method_50_code
def yX7_copy : MethodName := ⟨RX7, "copy", "(IIIII)I"⟩
abbrev cX7_isIn : ByteArray := prog_1_method_51_code
def yX7_isIn : MethodName := ⟨RX7, "isIn", "(III)Z"⟩
abbrev cX7_isRate : ByteArray := prog_1_method_52_code
def yX7_isRate : MethodName := ⟨RX7, "isRate", "(I)Z"⟩
abbrev cX7_isSpan : ByteArray := prog_1_method_53_code
def yX7_isSpan : MethodName := ⟨RX7, "isSpan", "(I)Z"⟩
abbrev cX7_isSheet : ByteArray := prog_1_method_54_code
def yX7_isSheet : MethodName := ⟨RX7, "isSheet", "(I)Z"⟩
abbrev cX7_isLane : ByteArray := prog_1_method_55_code
def yX7_isLane : MethodName := ⟨RX7, "isLane", "(I)Z"⟩
abbrev cX7_isClock : ByteArray := prog_1_method_56_code
def yX7_isClock : MethodName := ⟨RX7, "isClock", "(I)Z"⟩
abbrev cX7_isWindow : ByteArray := prog_1_method_57_code
def yX7_isWindow : MethodName := ⟨RX7, "isWindow", "(I)Z"⟩
abbrev cX7_isSet : ByteArray := prog_1_method_58_code
def yX7_isSet : MethodName := ⟨RX7, "isSet", "(I)Z"⟩
abbrev cX7_isAim : ByteArray := prog_1_method_59_code
def yX7_isAim : MethodName := ⟨RX7, "isAim", "(III)Z"⟩
abbrev cX7_perform : ByteArray := prog_1_method_60_code
def yX7_perform : MethodName := ⟨RX7, "perform", "(III)I"⟩
abbrev cX7_foresee : ByteArray := prog_1_method_61_code
def yX7_foresee : MethodName := ⟨RX7, "foresee", "(II)V"⟩
abbrev cX7_hoursUntilHome : ByteArray := prog_1_method_62_code
def yX7_hoursUntilHome : MethodName := ⟨RX7, "hoursUntilHome", "(II)I"⟩
abbrev cX7_usefulTurns : ByteArray := prog_1_method_63_code
def yX7_usefulTurns : MethodName := ⟨RX7, "usefulTurns", "(II)I"⟩
abbrev cX7_comesTo : ByteArray := prog_1_method_64_code
def yX7_comesTo : MethodName := ⟨RX7, "comesTo", "(IIIII)Z"⟩
abbrev cX7_fillGains : ByteArray := prog_1_method_65_code
def yX7_fillGains : MethodName := ⟨RX7, "fillGains", "(III)V"⟩
abbrev cX7_isRest : ByteArray := prog_1_method_66_code
def yX7_isRest : MethodName := ⟨RX7, "isRest", "(II)Z"⟩
abbrev cX7_isFilmed : ByteArray := prog_1_method_67_code
def yX7_isFilmed : MethodName := ⟨RX7, "isFilmed", "(LLameClocks$Sheet;I)Z"⟩
def RX8 : String := "LameClocksModel"
def TX8 : u_T := fun k => match k with
  | 0 => ("LameClocksModel", "st", "[I", true)
  | 1 => ("LameClocksModel", "kinds", "[I", true)
  | 2 => ("LameClocksModel", "rates", "[I", true)
  | 3 => ("LameClocksModel", "clocks", "I", false)
  | 4 => ("LameClocksModel", "windows", "I", false)
  | 5 => ("LameClocksModel", "skyRow", "[I", true)
  | 6 => ("LameClocksModel", "skyMany", "I", false)
  | 7 => ("LameClocksModel", "sky", "I", false)
  | 8 => ("LameClocksModel", "betOn", "[I", true)
  | 9 => ("LameClocksModel", "stakes", "[I", true)
  | 10 => ("LameClocksModel", "bets", "I", false)
  | 11 => ("LameClocksModel", "undos", "[I", true)
  | 12 => ("LameClocksModel", "undoMany", "I", false)
  | 13 => ("LameClocksModel", "drawn", "I", false)
  | 14 => ("LameClocksModel", "tape", "[I", true)
  | 15 => ("LameClocksModel", "taped", "I", false)
  | 16 => ("LameClocksModel", "place", "I", false)
  | 17 => ("LameClocksModel", "reads", "I", false)
  | 18 => ("LameClocksModel", "read", "[I", true)
  | 19 => ("LameClocksModel", "aside", "[I", true)
  | 20 => ("LameClocksModel", "duels", "[I", true)
  | 21 => ("LameClocksModel", "isKept", "Z", false)
  | 22 => ("LameClocksModel", "kept", "[I", true)
  | 23 => ("LameClocksModel", "lanes", "[I", true)
  | 24 => ("LameClocksModel", "rowSizes", "[I", true)
  | 25 => ("LameClocksModel", "items", "[J", true)
  | _ => ("LameClocksModel", "moved", "[J", true)
def tyX8 : Nat → FieldType := fun k => match k with
  | 0 => .array .int
  | 1 => .array .int
  | 2 => .array .int
  | 3 => .int
  | 4 => .int
  | 5 => .array .int
  | 6 => .int
  | 7 => .int
  | 8 => .array .int
  | 9 => .array .int
  | 10 => .int
  | 11 => .array .int
  | 12 => .int
  | 13 => .int
  | 14 => .array .int
  | 15 => .int
  | 16 => .int
  | 17 => .int
  | 18 => .array .int
  | 19 => .array .int
  | 20 => .array .int
  | 21 => .boolean
  | 22 => .array .int
  | 23 => .array .int
  | 24 => .array .int
  | 25 => .array .long
  | _ => .array .long
abbrev wsX80 : List Cond := u_ws RX8 TX8 27
theorem nmX8 : ∀ a, a < 27 → ∀ b, b < 27 → a ≠ b → (TX8 a).2.1 ≠ (TX8 b).2.1 := by decide +kernel
theorem tyX8_ok : ∀ k, k < 27 → parseFieldDescriptor (TX8 k).2.2.1 = some (tyX8 k) := by decide +kernel
abbrev cX8_init : ByteArray := prog_10_method_1_code
def yX8_init : MethodName := ⟨RX8, "<init>", "()V"⟩
abbrev cX8_in : ByteArray := prog_10_method_2_code
def yX8_in : MethodName := ⟨RX8, "in", "(JJJ)Z"⟩
abbrev cX8_has : ByteArray := prog_10_method_3_code
def yX8_has : MethodName := ⟨RX8, "has", "(II)Z"⟩
abbrev cX8_isClock : ByteArray := prog_10_method_4_code
def yX8_isClock : MethodName := ⟨RX8, "isClock", "(I)Z"⟩
abbrev cX8_isWindow : ByteArray := prog_10_method_5_code
def yX8_isWindow : MethodName := ⟨RX8, "isWindow", "(I)Z"⟩
abbrev cX8_isHome : ByteArray := prog_10_method_6_code
def yX8_isHome : MethodName := ⟨RX8, "isHome", "(I)Z"⟩
abbrev cX8_add : ByteArray := prog_10_method_7_code
def yX8_add : MethodName := ⟨RX8, "add", "(IIII)V"⟩
abbrev cX8_clock : ByteArray := prog_10_method_8_code
def yX8_clock : MethodName := ⟨RX8, "clock", "(IIII)I"⟩
abbrev cX8_strike : ByteArray := prog_10_method_9_code
def yX8_strike : MethodName := ⟨RX8, "strike", "()I"⟩
abbrev cX8_truth : ByteArray := prog_10_method_10_code
def yX8_truth : MethodName := ⟨RX8, "truth", "()I"⟩
abbrev cX8_shownBy : ByteArray := prog_10_method_11_code
def yX8_shownBy : MethodName := ⟨RX8, "shownBy", "(I)I"⟩
abbrev cX8_strikes : ByteArray := prog_10_method_12_code
def yX8_strikes : MethodName := ⟨RX8, "strikes", "(I)I"⟩
abbrev cX8_strokesOf : ByteArray := prog_10_method_13_code
def yX8_strokesOf : MethodName := ⟨RX8, "strokesOf", "(I)I"⟩
abbrev cX8_told : ByteArray := prog_10_method_14_code
def yX8_told : MethodName := ⟨RX8, "told", "(II)I"⟩
abbrev cX8_rate : ByteArray := prog_10_method_15_code
def yX8_rate : MethodName := ⟨RX8, "rate", "(I)I"⟩
abbrev cX8_dial : ByteArray := prog_10_method_16_code
def yX8_dial : MethodName := ⟨RX8, "dial", "(I)I"⟩
abbrev cX8_paint : ByteArray := prog_10_method_17_code
def yX8_paint : MethodName := ⟨RX8, "paint", "(II)I"⟩
abbrev cX8_weather : ByteArray := prog_10_method_18_code
def yX8_weather : MethodName := ⟨RX8, "weather", "(I)I"⟩
abbrev cX8_type : ByteArray := prog_10_method_19_code
def yX8_type : MethodName := ⟨RX8, "type", "(I)I"⟩
abbrev cX8_nextLetter : ByteArray := prog_10_method_20_code
def yX8_nextLetter : MethodName := ⟨RX8, "nextLetter", "()I"⟩
abbrev cX8_takes : ByteArray := prog_10_method_21_code
def yX8_takes : MethodName := ⟨RX8, "takes", "(I)Z"⟩
abbrev cX8_readNumber : ByteArray := prog_10_method_22_code
def yX8_readNumber : MethodName := ⟨RX8, "readNumber", "(II)I"⟩
abbrev cX8_end : ByteArray := prog_10_method_23_code
def yX8_end : MethodName := ⟨RX8, "end", "(Z)I"⟩
abbrev cX8_dialOf : ByteArray := prog_10_method_24_code
def yX8_dialOf : MethodName := ⟨RX8, "dialOf", "(I)I"⟩
abbrev cX8_skyOf : ByteArray := prog_10_method_25_code
def yX8_skyOf : MethodName := ⟨RX8, "skyOf", "(I)I"⟩
abbrev cX8_readSigns : ByteArray := prog_10_method_26_code
def yX8_readSigns : MethodName := ⟨RX8, "readSigns", "(IIZ)Z"⟩
abbrev cX8_allBack : ByteArray := prog_10_method_27_code
def yX8_allBack : MethodName := ⟨RX8, "allBack", "()V"⟩
abbrev cX8_course : ByteArray := prog_10_method_28_code
def yX8_course : MethodName := ⟨RX8, "course", "()I"⟩
abbrev cX8_skies : ByteArray := prog_10_method_29_code
def yX8_skies : MethodName := ⟨RX8, "skies", "()I"⟩
abbrev cX8_kindOf : ByteArray := prog_10_method_30_code
def yX8_kindOf : MethodName := ⟨RX8, "kindOf", "(I)I"⟩
abbrev cX8_readClock : ByteArray := prog_10_method_31_code
def yX8_readClock : MethodName := ⟨RX8, "readClock", "(I)Z"⟩
abbrev cX8_readStreet : ByteArray := prog_10_method_32_code
def yX8_readStreet : MethodName := ⟨RX8, "readStreet", "()Z"⟩
abbrev cX8_street : ByteArray := prog_10_method_33_code
def yX8_street : MethodName := ⟨RX8, "street", "()I"⟩
abbrev cX8_readAct : ByteArray := prog_10_method_34_code
def yX8_readAct : MethodName := ⟨RX8, "readAct", "(I)Z"⟩
abbrev cX8_readDay : ByteArray := prog_10_method_35_code
def yX8_readDay : MethodName := ⟨RX8, "readDay", "()Z"⟩
abbrev cX8_does : ByteArray := prog_10_method_36_code
def yX8_does : MethodName := ⟨RX8, "does", "(I)Z"⟩
abbrev cX8_day : ByteArray := prog_10_method_37_code
def yX8_day : MethodName := ⟨RX8, "day", "()I"⟩
abbrev cX8_isAhead : ByteArray := prog_10_method_38_code
def yX8_isAhead : MethodName := ⟨RX8, "isAhead", "(II)Z"⟩
abbrev cX8_placeOf : ByteArray := prog_10_method_39_code
def yX8_placeOf : MethodName := ⟨RX8, "placeOf", "(I)I"⟩
abbrev cX8_place : ByteArray := prog_10_method_40_code
def yX8_place : MethodName := ⟨RX8, "place", "(I)I"⟩
abbrev cX8_homes : ByteArray := prog_10_method_41_code
def yX8_homes : MethodName := ⟨RX8, "homes", "()I"⟩
abbrev cX8_tied : ByteArray := prog_10_method_42_code
def yX8_tied : MethodName := ⟨RX8, "tied", "()I"⟩
abbrev cX8_count : ByteArray := prog_10_method_43_code
def yX8_count : MethodName := ⟨RX8, "count", "(I)I"⟩
abbrev cX8_heard : ByteArray := prog_10_method_44_code
def yX8_heard : MethodName := ⟨RX8, "heard", "()I"⟩
abbrev cX8_goes : ByteArray := prog_10_method_45_code
def yX8_goes : MethodName := ⟨RX8, "goes", "(II)Z"⟩
abbrev cX8_run : ByteArray := prog_10_method_46_code
def yX8_run : MethodName := ⟨RX8, "run", "(I)V"⟩
abbrev cX8_goOn : ByteArray := prog_10_method_47_code
def yX8_goOn : MethodName := ⟨RX8, "goOn", "(I)I"⟩
abbrev cX8_skyNow : ByteArray := prog_10_method_48_code
def yX8_skyNow : MethodName := ⟨RX8, "skyNow", "()I"⟩
abbrev cX8_hour : ByteArray := prog_10_method_49_code
def yX8_hour : MethodName := ⟨RX8, "hour", "()I"⟩
abbrev cX8_note : ByteArray := prog_10_method_50_code
def yX8_note : MethodName := ⟨RX8, "note", "(III)V"⟩
abbrev cX8_wind : ByteArray := prog_10_method_51_code
def yX8_wind : MethodName := ⟨RX8, "wind", "(II)I"⟩
abbrev cX8_addSpring : ByteArray := prog_10_method_52_code
def yX8_addSpring : MethodName := ⟨RX8, "addSpring", "(II)V"⟩
abbrev cX8_addHands : ByteArray := prog_10_method_53_code
def yX8_addHands : MethodName := ⟨RX8, "addHands", "(II)V"⟩
abbrev cX8_turn : ByteArray := prog_10_method_54_code
def yX8_turn : MethodName := ⟨RX8, "turn", "(II)I"⟩
abbrev cX8_tune : ByteArray := prog_10_method_55_code
def yX8_tune : MethodName := ⟨RX8, "tune", "(II)I"⟩
abbrev cX8_breathe : ByteArray := prog_10_method_56_code
def yX8_breathe : MethodName := ⟨RX8, "breathe", "(I)I"⟩
abbrev cX8_undo : ByteArray := prog_10_method_57_code
def yX8_undo : MethodName := ⟨RX8, "undo", "()I"⟩
abbrev cX8_restart : ByteArray := prog_10_method_58_code
def yX8_restart : MethodName := ⟨RX8, "restart", "()I"⟩
abbrev cX8_keepAside : ByteArray := prog_10_method_59_code
def yX8_keepAside : MethodName := ⟨RX8, "keepAside", "()V"⟩
abbrev cX8_bringBack : ByteArray := prog_10_method_60_code
def yX8_bringBack : MethodName := ⟨RX8, "bringBack", "()V"⟩
abbrev cX8_goHours : ByteArray := prog_10_method_61_code
def yX8_goHours : MethodName := ⟨RX8, "goHours", "(I)V"⟩
abbrev cX8_isLong : ByteArray := prog_10_method_62_code
def yX8_isLong : MethodName := ⟨RX8, "isLong", "(I)Z"⟩
abbrev cX8_behind : ByteArray := prog_10_method_63_code
def yX8_behind : MethodName := ⟨RX8, "behind", "(III)I"⟩
abbrev cX8_leads : ByteArray := prog_10_method_64_code
def yX8_leads : MethodName := ⟨RX8, "leads", "(I)I"⟩
abbrev cX8_finish : ByteArray := prog_10_method_65_code
def yX8_finish : MethodName := ⟨RX8, "finish", "(I)I"⟩
abbrev cX8_over : ByteArray := prog_10_method_66_code
def yX8_over : MethodName := ⟨RX8, "over", "()I"⟩
abbrev cX8_placeWith : ByteArray := prog_10_method_67_code
def yX8_placeWith : MethodName := ⟨RX8, "placeWith", "(IIII)I"⟩
abbrev cX8_isAsked : ByteArray := prog_10_method_68_code
def yX8_isAsked : MethodName := ⟨RX8, "isAsked", "(III)Z"⟩
abbrev cX8_turns : ByteArray := prog_10_method_69_code
def yX8_turns : MethodName := ⟨RX8, "turns", "(III)I"⟩
abbrev cX8_hands : ByteArray := prog_10_method_70_code
def yX8_hands : MethodName := ⟨RX8, "hands", "(III)I"⟩
abbrev cX8_both : ByteArray := prog_10_method_71_code
def yX8_both : MethodName := ⟨RX8, "both", "(IIII)I"⟩
abbrev cX8_doesRest : ByteArray := prog_10_method_72_code
def yX8_doesRest : MethodName := ⟨RX8, "doesRest", "(I)Z"⟩
abbrev cX8_duel : ByteArray := prog_10_method_73_code
def yX8_duel : MethodName := ⟨RX8, "duel", "(IIII)I"⟩
abbrev cX8_breath : ByteArray := prog_10_method_74_code
def yX8_breath : MethodName := ⟨RX8, "breath", "(II)I"⟩
abbrev cX8_right : ByteArray := prog_10_method_75_code
def yX8_right : MethodName := ⟨RX8, "right", "(II)I"⟩
abbrev cX8_appeal : ByteArray := prog_10_method_76_code
def yX8_appeal : MethodName := ⟨RX8, "appeal", "(II)I"⟩
abbrev cX8_spans : ByteArray := prog_10_method_77_code
def yX8_spans : MethodName := ⟨RX8, "spans", "(II)I"⟩
abbrev cX8_areClocks : ByteArray := prog_10_method_78_code
def yX8_areClocks : MethodName := ⟨RX8, "areClocks", "(I)Z"⟩
abbrev cX8_struck : ByteArray := prog_10_method_79_code
def yX8_struck : MethodName := ⟨RX8, "struck", "(III)I"⟩
abbrev cX8_bet : ByteArray := prog_10_method_80_code
def yX8_bet : MethodName := ⟨RX8, "bet", "(II)I"⟩
abbrev cX8_pays : ByteArray := prog_10_method_81_code
def yX8_pays : MethodName := ⟨RX8, "pays", "(II)I"⟩
abbrev cX8_settle : ByteArray := prog_10_method_82_code
def yX8_settle : MethodName := ⟨RX8, "settle", "()I"⟩
abbrev cX8_lots : ByteArray := prog_10_method_83_code
def yX8_lots : MethodName := ⟨RX8, "lots", "(I)I"⟩
abbrev cX8_seed : ByteArray := prog_10_method_84_code
def yX8_seed : MethodName := ⟨RX8, "seed", "(I)I"⟩
abbrev cX8_carried : ByteArray := prog_10_method_85_code
def yX8_carried : MethodName := ⟨RX8, "carried", "(IIZ)I"⟩
abbrev cX8_image : ByteArray := prog_10_method_86_code
def yX8_image : MethodName := ⟨RX8, "image", "()I"⟩
abbrev cX8_restore : ByteArray := prog_10_method_87_code
def yX8_restore : MethodName := ⟨RX8, "restore", "()I"⟩
abbrev cX8_isSheet : ByteArray := prog_10_method_88_code
def yX8_isSheet : MethodName := ⟨RX8, "isSheet", "(II)Z"⟩
abbrev cX8_asLane : ByteArray := prog_10_method_89_code
def yX8_asLane : MethodName := ⟨RX8, "asLane", "(IJ)J"⟩
abbrev cX8_sheet : ByteArray := prog_10_method_90_code
def yX8_sheet : MethodName := ⟨RX8, "sheet", "(III)I"⟩
abbrev cX8_drop : ByteArray := prog_10_method_91_code
def yX8_drop : MethodName := ⟨RX8, "drop", "(I)I"⟩
abbrev cX8_lacksRow : ByteArray := prog_10_method_92_code
def yX8_lacksRow : MethodName := ⟨RX8, "lacksRow", "(IIII)I"⟩
abbrev cX8_item : ByteArray := prog_10_method_93_code
def yX8_item : MethodName := ⟨RX8, "item", "(IIIJ)I"⟩
abbrev cX8_dress : ByteArray := prog_10_method_94_code
def yX8_dress : MethodName := ⟨RX8, "dress", "(IIII)I"⟩
abbrev cX8_film : ByteArray := prog_10_method_95_code
def yX8_film : MethodName := ⟨RX8, "film", "(III)I"⟩
abbrev cX8_areSo : ByteArray := prog_10_method_96_code
def yX8_areSo : MethodName := ⟨RX8, "areSo", "(I)Z"⟩
abbrev cX8_seen : ByteArray := prog_10_method_97_code
def yX8_seen : MethodName := ⟨RX8, "seen", "(III)I"⟩
abbrev cX8_copy : ByteArray := prog_10_method_98_code
def yX8_copy : MethodName := ⟨RX8, "copy", "(IIIII)I"⟩
def RJ11 : String := "java/lang/Character"
def TJ11 : u_T := fun k => match k with
  | _ => ("", "", "", false)
def tyJ11 : Nat → FieldType := fun k => match k with
  | _ => .int
abbrev wsJ110 : List Cond := u_ws RJ11 TJ11 0
theorem nmJ11 : ∀ a, a < 0 → ∀ b, b < 0 → a ≠ b → (TJ11 a).2.1 ≠ (TJ11 b).2.1 := by decide +kernel
theorem tyJ11_ok : ∀ k, k < 0 → parseFieldDescriptor (TJ11 k).2.2.1 = some (tyJ11 k) := by decide +kernel
abbrev cJ11_isValidCodePoint_9a6ad : ByteArray := prog_11_method_11_code
def yJ11_isValidCodePoint_9a6ad : MethodName := ⟨RJ11, "isValidCodePoint", "(I)Z"⟩
abbrev cJ11_highSurrogate_5068e : ByteArray := prog_11_method_28_code
def yJ11_highSurrogate_5068e : MethodName := ⟨RJ11, "highSurrogate", "(I)C"⟩
abbrev cJ11_lowSurrogate_5068e : ByteArray := prog_11_method_29_code
def yJ11_lowSurrogate_5068e : MethodName := ⟨RJ11, "lowSurrogate", "(I)C"⟩
def RJ9 : String := "java/lang/Math"
def TJ9 : u_T := fun k => match k with
  | _ => ("", "", "", false)
def tyJ9 : Nat → FieldType := fun k => match k with
  | _ => .int
abbrev wsJ90 : List Cond := u_ws RJ9 TJ9 0
theorem nmJ9 : ∀ a, a < 0 → ∀ b, b < 0 → a ≠ b → (TJ9 a).2.1 ≠ (TJ9 b).2.1 := by decide +kernel
theorem tyJ9_ok : ∀ k, k < 0 → parseFieldDescriptor (TJ9 k).2.2.1 = some (tyJ9 k) := by decide +kernel
abbrev cJ9_max_7cf53 : ByteArray := prog_12_method_65_code
def yJ9_max_7cf53 : MethodName := ⟨RJ9, "max", "(II)I"⟩
abbrev cJ9_min_7cf53 : ByteArray := prog_12_method_69_code
def yJ9_min_7cf53 : MethodName := ⟨RJ9, "min", "(II)I"⟩
def RJ0 : String := "java/lang/String"
def TJ0 : u_T := fun k => match k with
  | _ => ("", "", "", false)
def tyJ0 : Nat → FieldType := fun k => match k with
  | _ => .int
abbrev wsJ00 : List Cond := u_ws RJ0 TJ0 0
theorem nmJ0 : ∀ a, a < 0 → ∀ b, b < 0 → a ≠ b → (TJ0 a).2.1 ≠ (TJ0 b).2.1 := by decide +kernel
theorem tyJ0_ok : ∀ k, k < 0 → parseFieldDescriptor (TJ0 k).2.2.1 = some (tyJ0 k) := by decide +kernel
abbrev cJ0_length_8abf5 : ByteArray := prog_13_method_54_code
def yJ0_length_8abf5 : MethodName := ⟨RJ0, "length", "()I"⟩
abbrev cJ0_indexOf_0f7a4 : ByteArray := prog_13_method_79_code
def yJ0_indexOf_0f7a4 : MethodName := ⟨RJ0, "indexOf", "(I)I"⟩
abbrev cJ0_indexOf_7cf53 : ByteArray := prog_13_method_80_code
def yJ0_indexOf_7cf53 : MethodName := ⟨RJ0, "indexOf", "(II)I"⟩
abbrev cJ0_coder_7d493 : ByteArray := prog_13_method_152_code
def yJ0_coder_7d493 : MethodName := ⟨RJ0, "coder", "()B"⟩
abbrev cJ0_isLatin1_aae02 : ByteArray := prog_13_method_154_code
def yJ0_isLatin1_aae02 : MethodName := ⟨RJ0, "isLatin1", "()Z"⟩
abbrev cJ0_checkBoundsBeginEnd_23922 : ByteArray := prog_13_method_158_code
def yJ0_checkBoundsBeginEnd_23922 : MethodName := ⟨RJ0, "checkBoundsBeginEnd", "(III)V"⟩
def RJ1 : String := "java/lang/StringLatin1"
def TJ1 : u_T := fun k => match k with
  | _ => ("", "", "", false)
def tyJ1 : Nat → FieldType := fun k => match k with
  | _ => .int
abbrev wsJ10 : List Cond := u_ws RJ1 TJ1 0
theorem nmJ1 : ∀ a, a < 0 → ∀ b, b < 0 → a ≠ b → (TJ1 a).2.1 ≠ (TJ1 b).2.1 := by decide +kernel
theorem tyJ1_ok : ∀ k, k < 0 → parseFieldDescriptor (TJ1 k).2.2.1 = some (tyJ1 k) := by decide +kernel
abbrev cJ1_canEncode_9a6ad : ByteArray := prog_14_method_4_code
def yJ1_canEncode_9a6ad : MethodName := ⟨RJ1, "canEncode", "(I)Z"⟩
abbrev cJ1_indexOf_4cfef : ByteArray := prog_14_method_22_code
def yJ1_indexOf_4cfef : MethodName := ⟨RJ1, "indexOf", "([BIII)I"⟩
abbrev cJ1_indexOfChar_4cfef : ByteArray := prog_14_method_23_code
def yJ1_indexOfChar_4cfef : MethodName := ⟨RJ1, "indexOfChar", "([BIII)I"⟩
def RJ2 : String := "java/lang/StringUTF16"
def TJ2 : u_T := fun k => match k with
  | _ => ("", "", "", false)
def tyJ2 : Nat → FieldType := fun k => match k with
  | _ => .int
abbrev wsJ20 : List Cond := u_ws RJ2 TJ2 0
theorem nmJ2 : ∀ a, a < 0 → ∀ b, b < 0 → a ≠ b → (TJ2 a).2.1 ≠ (TJ2 b).2.1 := by decide +kernel
theorem tyJ2_ok : ∀ k, k < 0 → parseFieldDescriptor (TJ2 k).2.2.1 = some (tyJ2 k) := by decide +kernel
abbrev cJ2_getChar_3b067 : ByteArray := prog_15_method_5_code
def yJ2_getChar_3b067 : MethodName := ⟨RJ2, "getChar", "([BI)C"⟩
abbrev cJ2_length_9d52b : ByteArray := prog_15_method_6_code
def yJ2_length_9d52b : MethodName := ⟨RJ2, "length", "([B)I"⟩
abbrev cJ2_indexOf_4cfef : ByteArray := prog_15_method_40_code
def yJ2_indexOf_4cfef : MethodName := ⟨RJ2, "indexOf", "([BIII)I"⟩
abbrev cJ2_indexOfChar_4cfef : ByteArray := prog_15_method_47_code
def yJ2_indexOfChar_4cfef : MethodName := ⟨RJ2, "indexOfChar", "([BIII)I"⟩
abbrev cJ2_indexOfCharUnsafe_4cfef : ByteArray := prog_15_method_48_code
def yJ2_indexOfCharUnsafe_4cfef : MethodName := ⟨RJ2, "indexOfCharUnsafe", "([BIII)I"⟩
abbrev cJ2_indexOfSupplementary_4cfef : ByteArray := prog_15_method_49_code
def yJ2_indexOfSupplementary_4cfef : MethodName := ⟨RJ2, "indexOfSupplementary", "([BIII)I"⟩
abbrev cJ2_checkBoundsBeginEnd_d044e : ByteArray := prog_15_method_93_code
def yJ2_checkBoundsBeginEnd_d044e : MethodName := ⟨RJ2, "checkBoundsBeginEnd", "(II[B)V"⟩
def RJ10 : String := "java/lang/System"
def TJ10 : u_T := fun k => match k with
  | _ => ("", "", "", false)
def tyJ10 : Nat → FieldType := fun k => match k with
  | _ => .int
abbrev wsJ100 : List Cond := u_ws RJ10 TJ10 0
theorem nmJ10 : ∀ a, a < 0 → ∀ b, b < 0 → a ≠ b → (TJ10 a).2.1 ≠ (TJ10 b).2.1 := by decide +kernel
theorem tyJ10_ok : ∀ k, k < 0 → parseFieldDescriptor (TJ10 k).2.2.1 = some (tyJ10 k) := by decide +kernel
def RJ3 : String := "jdk/internal/util/Preconditions"
def TJ3 : u_T := fun k => match k with
  | _ => ("", "", "", false)
def tyJ3 : Nat → FieldType := fun k => match k with
  | _ => .int
abbrev wsJ30 : List Cond := u_ws RJ3 TJ3 0
theorem nmJ3 : ∀ a, a < 0 → ∀ b, b < 0 → a ≠ b → (TJ3 a).2.1 ≠ (TJ3 b).2.1 := by decide +kernel
theorem tyJ3_ok : ∀ k, k < 0 → parseFieldDescriptor (TJ3 k).2.2.1 = some (tyJ3 k) := by decide +kernel
abbrev cJ3_checkFromToIndex_8c36e : ByteArray := prog_17_method_12_code
def yJ3_checkFromToIndex_8c36e : MethodName := ⟨RJ3, "checkFromToIndex", "(IIILjava/util/function/BiFunction;)I"⟩
def RL : String := "LameClocksLaw"
abbrev cL_law : ByteArray := code
def yL_law : MethodName := ⟨RL, "law", "([I)Z"⟩
abbrev vwCl : List vw_C := [(RX0, TX0, 3), (RX1, TX1, 4), (RX2, TX2, 14), (RX3, TX3, 4), (RX4, TX4, 4), (RX5, TX5, 5), (RX6, TX6, 4), (RX7, TX7, 8), (RX8, TX8, 27)]
