section
-- ===== PART A: goes FIRST, ahead of the names: the tables' words, and 'selects' of the private methods out of them =====
/-- a private method of a class that the tables say can be made, by its rows of tables_1 -/
def lw_okq (q : MethodName × Nat) : Prop := (q.1.cls ≠ "java/lang/invoke/MethodHandle" ∧ q.1.cls ≠ "java/lang/invoke/VarHandle") ∧ Cond.instantiable q.1.cls q.2 ∈ tables_1 ∧ Cond.privateMethod q.1 ∈ tables_1 ∧ Cond.instanceMethod q.1 ∈ tables_1
theorem lw_p0 : lw_okq (⟨"IdleMoney", "putOnTape", "(I)V"⟩, 12) := ⟨⟨by decide +kernel, by decide +kernel⟩, List.mem_of_getElem? (i := 25) (by decide +kernel), List.mem_of_getElem? (i := 397) (by decide +kernel), List.mem_of_getElem? (i := 398) (by decide +kernel)⟩
theorem lw_p1 : lw_okq (⟨"IdleMoney", "refuseArgument", "(Z)V"⟩, 12) := ⟨⟨by decide +kernel, by decide +kernel⟩, List.mem_of_getElem? (i := 25) (by decide +kernel), List.mem_of_getElem? (i := 426) (by decide +kernel), List.mem_of_getElem? (i := 427) (by decide +kernel)⟩
theorem lw_p2 : lw_okq (⟨"java/lang/Throwable", "fillInStackTrace", "(I)Ljava/lang/Throwable;"⟩, 6) := ⟨⟨by decide +kernel, by decide +kernel⟩, List.mem_of_getElem? (i := 468) (by decide +kernel), List.mem_of_getElem? (i := 466) (by decide +kernel), List.mem_of_getElem? (i := 467) (by decide +kernel)⟩
theorem lw_p3 : lw_okq (⟨"IdleMoney$Reader", "scan", "(I)V"⟩, 10) := ⟨⟨by decide +kernel, by decide +kernel⟩, List.mem_of_getElem? (i := 33) (by decide +kernel), List.mem_of_getElem? (i := 509) (by decide +kernel), List.mem_of_getElem? (i := 510) (by decide +kernel)⟩
theorem lw_p4 : lw_okq (⟨"IdleMoney$Word", "stands", "([III)Z"⟩, 5) := ⟨⟨by decide +kernel, by decide +kernel⟩, List.mem_of_getElem? (i := 523) (by decide +kernel), List.mem_of_getElem? (i := 521) (by decide +kernel), List.mem_of_getElem? (i := 522) (by decide +kernel)⟩
theorem lw_p5 : lw_okq (⟨"IdleMoney$Reader", "readLine", "()Z"⟩, 10) := ⟨⟨by decide +kernel, by decide +kernel⟩, List.mem_of_getElem? (i := 33) (by decide +kernel), List.mem_of_getElem? (i := 574) (by decide +kernel), List.mem_of_getElem? (i := 575) (by decide +kernel)⟩
theorem lw_p6 : lw_okq (⟨"IdleMoney$Reader", "readLand", "()Z"⟩, 10) := ⟨⟨by decide +kernel, by decide +kernel⟩, List.mem_of_getElem? (i := 33) (by decide +kernel), List.mem_of_getElem? (i := 580) (by decide +kernel), List.mem_of_getElem? (i := 581) (by decide +kernel)⟩
theorem lw_p7 : lw_okq (⟨"IdleMoney$Reader", "fail", "(I)Z"⟩, 10) := ⟨⟨by decide +kernel, by decide +kernel⟩, List.mem_of_getElem? (i := 33) (by decide +kernel), List.mem_of_getElem? (i := 584) (by decide +kernel), List.mem_of_getElem? (i := 585) (by decide +kernel)⟩
theorem lw_p8 : lw_okq (⟨"IdleMoney$Reader", "isName", "()Z"⟩, 10) := ⟨⟨by decide +kernel, by decide +kernel⟩, List.mem_of_getElem? (i := 33) (by decide +kernel), List.mem_of_getElem? (i := 588) (by decide +kernel), List.mem_of_getElem? (i := 589) (by decide +kernel)⟩
theorem lw_p9 : lw_okq (⟨"IdleMoney$Reader", "takeNumber", "(II)Z"⟩, 10) := ⟨⟨by decide +kernel, by decide +kernel⟩, List.mem_of_getElem? (i := 33) (by decide +kernel), List.mem_of_getElem? (i := 604) (by decide +kernel), List.mem_of_getElem? (i := 605) (by decide +kernel)⟩
theorem lw_p10 : lw_okq (⟨"IdleMoney$Reader", "takeWord", "(LIdleMoney$Word;)Z"⟩, 10) := ⟨⟨by decide +kernel, by decide +kernel⟩, List.mem_of_getElem? (i := 33) (by decide +kernel), List.mem_of_getElem? (i := 611) (by decide +kernel), List.mem_of_getElem? (i := 612) (by decide +kernel)⟩
theorem lw_p11 : lw_okq (⟨"IdleMoney$Reader", "readLaw", "()Z"⟩, 10) := ⟨⟨by decide +kernel, by decide +kernel⟩, List.mem_of_getElem? (i := 33) (by decide +kernel), List.mem_of_getElem? (i := 615) (by decide +kernel), List.mem_of_getElem? (i := 616) (by decide +kernel)⟩
theorem lw_p12 : lw_okq (⟨"IdleMoney$Reader", "kindInHand", "()I"⟩, 10) := ⟨⟨by decide +kernel, by decide +kernel⟩, List.mem_of_getElem? (i := 33) (by decide +kernel), List.mem_of_getElem? (i := 619) (by decide +kernel), List.mem_of_getElem? (i := 620) (by decide +kernel)⟩
theorem lw_p13 : lw_okq (⟨"IdleMoney$Reader", "toldLandInHand", "()I"⟩, 10) := ⟨⟨by decide +kernel, by decide +kernel⟩, List.mem_of_getElem? (i := 33) (by decide +kernel), List.mem_of_getElem? (i := 623) (by decide +kernel), List.mem_of_getElem? (i := 624) (by decide +kernel)⟩
theorem lw_p14 : lw_okq (⟨"IdleMoney$Reader", "readSum", "(I)Z"⟩, 10) := ⟨⟨by decide +kernel, by decide +kernel⟩, List.mem_of_getElem? (i := 33) (by decide +kernel), List.mem_of_getElem? (i := 635) (by decide +kernel), List.mem_of_getElem? (i := 636) (by decide +kernel)⟩
theorem lw_p15 : lw_okq (⟨"IdleMoney$Reader", "readFactor", "(I)Z"⟩, 10) := ⟨⟨by decide +kernel, by decide +kernel⟩, List.mem_of_getElem? (i := 33) (by decide +kernel), List.mem_of_getElem? (i := 639) (by decide +kernel), List.mem_of_getElem? (i := 640) (by decide +kernel)⟩
def lw_privs_1 : List (MethodName × Nat) := [(⟨"IdleMoney", "putOnTape", "(I)V"⟩, 12), (⟨"IdleMoney", "refuseArgument", "(Z)V"⟩, 12), (⟨"java/lang/Throwable", "fillInStackTrace", "(I)Ljava/lang/Throwable;"⟩, 6), (⟨"IdleMoney$Reader", "scan", "(I)V"⟩, 10), (⟨"IdleMoney$Word", "stands", "([III)Z"⟩, 5), (⟨"IdleMoney$Reader", "readLine", "()Z"⟩, 10), (⟨"IdleMoney$Reader", "readLand", "()Z"⟩, 10), (⟨"IdleMoney$Reader", "fail", "(I)Z"⟩, 10), (⟨"IdleMoney$Reader", "isName", "()Z"⟩, 10), (⟨"IdleMoney$Reader", "takeNumber", "(II)Z"⟩, 10), (⟨"IdleMoney$Reader", "takeWord", "(LIdleMoney$Word;)Z"⟩, 10), (⟨"IdleMoney$Reader", "readLaw", "()Z"⟩, 10), (⟨"IdleMoney$Reader", "kindInHand", "()I"⟩, 10), (⟨"IdleMoney$Reader", "toldLandInHand", "()I"⟩, 10), (⟨"IdleMoney$Reader", "readSum", "(I)Z"⟩, 10), (⟨"IdleMoney$Reader", "readFactor", "(I)Z"⟩, 10)]
theorem lw_r1 : ∀ q ∈ lw_privs_1, lw_okq q := List.forall_mem_cons.mpr ⟨lw_p0, List.forall_mem_cons.mpr ⟨lw_p1, List.forall_mem_cons.mpr ⟨lw_p2, List.forall_mem_cons.mpr ⟨lw_p3, List.forall_mem_cons.mpr ⟨lw_p4, List.forall_mem_cons.mpr ⟨lw_p5, List.forall_mem_cons.mpr ⟨lw_p6, List.forall_mem_cons.mpr ⟨lw_p7, List.forall_mem_cons.mpr ⟨lw_p8, List.forall_mem_cons.mpr ⟨lw_p9, List.forall_mem_cons.mpr ⟨lw_p10, List.forall_mem_cons.mpr ⟨lw_p11, List.forall_mem_cons.mpr ⟨lw_p12, List.forall_mem_cons.mpr ⟨lw_p13, List.forall_mem_cons.mpr ⟨lw_p14, List.forall_mem_cons.mpr ⟨lw_p15, fun _ h => absurd h List.not_mem_nil⟩⟩⟩⟩⟩⟩⟩⟩⟩⟩⟩⟩⟩⟩⟩⟩
theorem lw_p16 : lw_okq (⟨"IdleMoney$Reader", "readIf", "(I)Z"⟩, 10) := ⟨⟨by decide +kernel, by decide +kernel⟩, List.mem_of_getElem? (i := 33) (by decide +kernel), List.mem_of_getElem? (i := 645) (by decide +kernel), List.mem_of_getElem? (i := 646) (by decide +kernel)⟩
theorem lw_p17 : lw_okq (⟨"IdleMoney$Reader", "readBracket", "(IZ)Z"⟩, 10) := ⟨⟨by decide +kernel, by decide +kernel⟩, List.mem_of_getElem? (i := 33) (by decide +kernel), List.mem_of_getElem? (i := 661) (by decide +kernel), List.mem_of_getElem? (i := 662) (by decide +kernel)⟩
theorem lw_p18 : lw_okq (⟨"IdleMoney$Reader", "takeSign", "(I)Z"⟩, 10) := ⟨⟨by decide +kernel, by decide +kernel⟩, List.mem_of_getElem? (i := 33) (by decide +kernel), List.mem_of_getElem? (i := 665) (by decide +kernel), List.mem_of_getElem? (i := 666) (by decide +kernel)⟩
theorem lw_p19 : lw_okq (⟨"IdleMoney$Reader", "pushInHand", "()I"⟩, 10) := ⟨⟨by decide +kernel, by decide +kernel⟩, List.mem_of_getElem? (i := 33) (by decide +kernel), List.mem_of_getElem? (i := 669) (by decide +kernel), List.mem_of_getElem? (i := 670) (by decide +kernel)⟩
theorem lw_p20 : lw_okq (⟨"IdleMoney$Reader", "signInHand", "()I"⟩, 10) := ⟨⟨by decide +kernel, by decide +kernel⟩, List.mem_of_getElem? (i := 33) (by decide +kernel), List.mem_of_getElem? (i := 682) (by decide +kernel), List.mem_of_getElem? (i := 683) (by decide +kernel)⟩
theorem lw_p21 : lw_okq (⟨"IdleMoney$Reader", "readPays", "()Z"⟩, 10) := ⟨⟨by decide +kernel, by decide +kernel⟩, List.mem_of_getElem? (i := 33) (by decide +kernel), List.mem_of_getElem? (i := 697) (by decide +kernel), List.mem_of_getElem? (i := 698) (by decide +kernel)⟩
theorem lw_p22 : lw_okq (⟨"IdleMoney$Reader", "readWait", "()Z"⟩, 10) := ⟨⟨by decide +kernel, by decide +kernel⟩, List.mem_of_getElem? (i := 33) (by decide +kernel), List.mem_of_getElem? (i := 703) (by decide +kernel), List.mem_of_getElem? (i := 704) (by decide +kernel)⟩
theorem lw_p23 : lw_okq (⟨"IdleMoney$Reader", "readLetter", "()Z"⟩, 10) := ⟨⟨by decide +kernel, by decide +kernel⟩, List.mem_of_getElem? (i := 33) (by decide +kernel), List.mem_of_getElem? (i := 709) (by decide +kernel), List.mem_of_getElem? (i := 710) (by decide +kernel)⟩
theorem lw_p24 : lw_okq (⟨"IdleMoney$Reader", "readHome", "()Z"⟩, 10) := ⟨⟨by decide +kernel, by decide +kernel⟩, List.mem_of_getElem? (i := 33) (by decide +kernel), List.mem_of_getElem? (i := 715) (by decide +kernel), List.mem_of_getElem? (i := 716) (by decide +kernel)⟩
theorem lw_p25 : lw_okq (⟨"IdleMoney$Reader", "readOrder", "()Z"⟩, 10) := ⟨⟨by decide +kernel, by decide +kernel⟩, List.mem_of_getElem? (i := 33) (by decide +kernel), List.mem_of_getElem? (i := 721) (by decide +kernel), List.mem_of_getElem? (i := 722) (by decide +kernel)⟩
theorem lw_p26 : lw_okq (⟨"IdleMoney$Reader", "orderInHand", "()I"⟩, 10) := ⟨⟨by decide +kernel, by decide +kernel⟩, List.mem_of_getElem? (i := 33) (by decide +kernel), List.mem_of_getElem? (i := 725) (by decide +kernel), List.mem_of_getElem? (i := 726) (by decide +kernel)⟩
theorem lw_p27 : lw_okq (⟨"IdleMoney", "remember", "()V"⟩, 12) := ⟨⟨by decide +kernel, by decide +kernel⟩, List.mem_of_getElem? (i := 25) (by decide +kernel), List.mem_of_getElem? (i := 739) (by decide +kernel), List.mem_of_getElem? (i := 740) (by decide +kernel)⟩
theorem lw_p28 : lw_okq (⟨"IdleMoney", "refuseNoSuch", "(Z)V"⟩, 12) := ⟨⟨by decide +kernel, by decide +kernel⟩, List.mem_of_getElem? (i := 25) (by decide +kernel), List.mem_of_getElem? (i := 782) (by decide +kernel), List.mem_of_getElem? (i := 783) (by decide +kernel)⟩
theorem lw_p29 : lw_okq (⟨"IdleMoney", "refuseState", "(Z)V"⟩, 12) := ⟨⟨by decide +kernel, by decide +kernel⟩, List.mem_of_getElem? (i := 25) (by decide +kernel), List.mem_of_getElem? (i := 806) (by decide +kernel), List.mem_of_getElem? (i := 807) (by decide +kernel)⟩
theorem lw_p30 : lw_okq (⟨"IdleMoney$Account", "credit", "(I)V"⟩, 16) := ⟨⟨by decide +kernel, by decide +kernel⟩, List.mem_of_getElem? (i := 197) (by decide +kernel), List.mem_of_getElem? (i := 902) (by decide +kernel), List.mem_of_getElem? (i := 903) (by decide +kernel)⟩
theorem lw_p31 : lw_okq (⟨"IdleMoney$Rules", "result", "(IILIdleMoney$Account;)J"⟩, 13) := ⟨⟨by decide +kernel, by decide +kernel⟩, List.mem_of_getElem? (i := 74) (by decide +kernel), List.mem_of_getElem? (i := 923) (by decide +kernel), List.mem_of_getElem? (i := 924) (by decide +kernel)⟩
def lw_privs_2 : List (MethodName × Nat) := [(⟨"IdleMoney$Reader", "readIf", "(I)Z"⟩, 10), (⟨"IdleMoney$Reader", "readBracket", "(IZ)Z"⟩, 10), (⟨"IdleMoney$Reader", "takeSign", "(I)Z"⟩, 10), (⟨"IdleMoney$Reader", "pushInHand", "()I"⟩, 10), (⟨"IdleMoney$Reader", "signInHand", "()I"⟩, 10), (⟨"IdleMoney$Reader", "readPays", "()Z"⟩, 10), (⟨"IdleMoney$Reader", "readWait", "()Z"⟩, 10), (⟨"IdleMoney$Reader", "readLetter", "()Z"⟩, 10), (⟨"IdleMoney$Reader", "readHome", "()Z"⟩, 10), (⟨"IdleMoney$Reader", "readOrder", "()Z"⟩, 10), (⟨"IdleMoney$Reader", "orderInHand", "()I"⟩, 10), (⟨"IdleMoney", "remember", "()V"⟩, 12), (⟨"IdleMoney", "refuseNoSuch", "(Z)V"⟩, 12), (⟨"IdleMoney", "refuseState", "(Z)V"⟩, 12), (⟨"IdleMoney$Account", "credit", "(I)V"⟩, 16), (⟨"IdleMoney$Rules", "result", "(IILIdleMoney$Account;)J"⟩, 13)]
theorem lw_r2 : ∀ q ∈ lw_privs_2, lw_okq q := List.forall_mem_cons.mpr ⟨lw_p16, List.forall_mem_cons.mpr ⟨lw_p17, List.forall_mem_cons.mpr ⟨lw_p18, List.forall_mem_cons.mpr ⟨lw_p19, List.forall_mem_cons.mpr ⟨lw_p20, List.forall_mem_cons.mpr ⟨lw_p21, List.forall_mem_cons.mpr ⟨lw_p22, List.forall_mem_cons.mpr ⟨lw_p23, List.forall_mem_cons.mpr ⟨lw_p24, List.forall_mem_cons.mpr ⟨lw_p25, List.forall_mem_cons.mpr ⟨lw_p26, List.forall_mem_cons.mpr ⟨lw_p27, List.forall_mem_cons.mpr ⟨lw_p28, List.forall_mem_cons.mpr ⟨lw_p29, List.forall_mem_cons.mpr ⟨lw_p30, List.forall_mem_cons.mpr ⟨lw_p31, fun _ h => absurd h List.not_mem_nil⟩⟩⟩⟩⟩⟩⟩⟩⟩⟩⟩⟩⟩⟩⟩⟩
theorem lw_p32 : lw_okq (⟨"IdleMoney$Account", "receiveLetter", "(II)V"⟩, 16) := ⟨⟨by decide +kernel, by decide +kernel⟩, List.mem_of_getElem? (i := 197) (by decide +kernel), List.mem_of_getElem? (i := 949) (by decide +kernel), List.mem_of_getElem? (i := 950) (by decide +kernel)⟩
theorem lw_p33 : lw_okq (⟨"IdleMoney$Account", "handOver", "(III)V"⟩, 16) := ⟨⟨by decide +kernel, by decide +kernel⟩, List.mem_of_getElem? (i := 197) (by decide +kernel), List.mem_of_getElem? (i := 954) (by decide +kernel), List.mem_of_getElem? (i := 955) (by decide +kernel)⟩
theorem lw_p34 : lw_okq (⟨"IdleMoney$World", "writeRow", "(ILIdleMoney$Account;)V"⟩, 9) := ⟨⟨by decide +kernel, by decide +kernel⟩, List.mem_of_getElem? (i := 301) (by decide +kernel), List.mem_of_getElem? (i := 958) (by decide +kernel), List.mem_of_getElem? (i := 959) (by decide +kernel)⟩
theorem lw_p35 : lw_okq (⟨"IdleMoney$Forecast", "runProbe", "(LIdleMoney$World;I)I"⟩, 4) := ⟨⟨by decide +kernel, by decide +kernel⟩, List.mem_of_getElem? (i := 191) (by decide +kernel), List.mem_of_getElem? (i := 1087) (by decide +kernel), List.mem_of_getElem? (i := 1088) (by decide +kernel)⟩
theorem lw_p36 : lw_okq (⟨"IdleMoney$Forecast", "chooseSet", "(IIJ)V"⟩, 4) := ⟨⟨by decide +kernel, by decide +kernel⟩, List.mem_of_getElem? (i := 191) (by decide +kernel), List.mem_of_getElem? (i := 1150) (by decide +kernel), List.mem_of_getElem? (i := 1151) (by decide +kernel)⟩
theorem lw_p37 : lw_okq (⟨"IdleMoney$Forecast", "changeBy", "(I)J"⟩, 4) := ⟨⟨by decide +kernel, by decide +kernel⟩, List.mem_of_getElem? (i := 191) (by decide +kernel), List.mem_of_getElem? (i := 1154) (by decide +kernel), List.mem_of_getElem? (i := 1155) (by decide +kernel)⟩
theorem lw_p38 : lw_okq (⟨"IdleMoneyModel", "bad", "(ZII)Z"⟩, 21) := ⟨⟨by decide +kernel, by decide +kernel⟩, List.mem_of_getElem? (i := 1189) (by decide +kernel), List.mem_of_getElem? (i := 1281) (by decide +kernel), List.mem_of_getElem? (i := 1282) (by decide +kernel)⟩
theorem lw_p39 : lw_okq (⟨"IdleMoneyModel", "fine", "()Z"⟩, 21) := ⟨⟨by decide +kernel, by decide +kernel⟩, List.mem_of_getElem? (i := 1189) (by decide +kernel), List.mem_of_getElem? (i := 1285) (by decide +kernel), List.mem_of_getElem? (i := 1286) (by decide +kernel)⟩
theorem lw_p40 : lw_okq (⟨"IdleMoneyModel", "here", "()I"⟩, 21) := ⟨⟨by decide +kernel, by decide +kernel⟩, List.mem_of_getElem? (i := 1189) (by decide +kernel), List.mem_of_getElem? (i := 1289) (by decide +kernel), List.mem_of_getElem? (i := 1290) (by decide +kernel)⟩
theorem lw_p41 : lw_okq (⟨"IdleMoneyModel", "byteAt", "(I)I"⟩, 21) := ⟨⟨by decide +kernel, by decide +kernel⟩, List.mem_of_getElem? (i := 1189) (by decide +kernel), List.mem_of_getElem? (i := 1293) (by decide +kernel), List.mem_of_getElem? (i := 1294) (by decide +kernel)⟩
theorem lw_p42 : lw_okq (⟨"IdleMoneyModel", "readsLine", "()V"⟩, 21) := ⟨⟨by decide +kernel, by decide +kernel⟩, List.mem_of_getElem? (i := 1189) (by decide +kernel), List.mem_of_getElem? (i := 1297) (by decide +kernel), List.mem_of_getElem? (i := 1298) (by decide +kernel)⟩
theorem lw_p43 : lw_okq (⟨"IdleMoneyModel", "takes", "(Ljava/lang/String;)Z"⟩, 21) := ⟨⟨by decide +kernel, by decide +kernel⟩, List.mem_of_getElem? (i := 1189) (by decide +kernel), List.mem_of_getElem? (i := 1302) (by decide +kernel), List.mem_of_getElem? (i := 1303) (by decide +kernel)⟩
theorem lw_p44 : lw_okq (⟨"IdleMoneyModel", "isWord", "(Ljava/lang/String;)Z"⟩, 21) := ⟨⟨by decide +kernel, by decide +kernel⟩, List.mem_of_getElem? (i := 1189) (by decide +kernel), List.mem_of_getElem? (i := 1306) (by decide +kernel), List.mem_of_getElem? (i := 1307) (by decide +kernel)⟩
theorem lw_p45 : lw_okq (⟨"IdleMoneyModel", "readsLand", "(I)V"⟩, 21) := ⟨⟨by decide +kernel, by decide +kernel⟩, List.mem_of_getElem? (i := 1189) (by decide +kernel), List.mem_of_getElem? (i := 1315) (by decide +kernel), List.mem_of_getElem? (i := 1316) (by decide +kernel)⟩
theorem lw_p46 : lw_okq (⟨"IdleMoneyModel", "wrong", "(II)V"⟩, 21) := ⟨⟨by decide +kernel, by decide +kernel⟩, List.mem_of_getElem? (i := 1189) (by decide +kernel), List.mem_of_getElem? (i := 1320) (by decide +kernel), List.mem_of_getElem? (i := 1321) (by decide +kernel)⟩
theorem lw_p47 : lw_okq (⟨"IdleMoneyModel", "name", "()I"⟩, 21) := ⟨⟨by decide +kernel, by decide +kernel⟩, List.mem_of_getElem? (i := 1189) (by decide +kernel), List.mem_of_getElem? (i := 1324) (by decide +kernel), List.mem_of_getElem? (i := 1325) (by decide +kernel)⟩
def lw_privs_3 : List (MethodName × Nat) := [(⟨"IdleMoney$Account", "receiveLetter", "(II)V"⟩, 16), (⟨"IdleMoney$Account", "handOver", "(III)V"⟩, 16), (⟨"IdleMoney$World", "writeRow", "(ILIdleMoney$Account;)V"⟩, 9), (⟨"IdleMoney$Forecast", "runProbe", "(LIdleMoney$World;I)I"⟩, 4), (⟨"IdleMoney$Forecast", "chooseSet", "(IIJ)V"⟩, 4), (⟨"IdleMoney$Forecast", "changeBy", "(I)J"⟩, 4), (⟨"IdleMoneyModel", "bad", "(ZII)Z"⟩, 21), (⟨"IdleMoneyModel", "fine", "()Z"⟩, 21), (⟨"IdleMoneyModel", "here", "()I"⟩, 21), (⟨"IdleMoneyModel", "byteAt", "(I)I"⟩, 21), (⟨"IdleMoneyModel", "readsLine", "()V"⟩, 21), (⟨"IdleMoneyModel", "takes", "(Ljava/lang/String;)Z"⟩, 21), (⟨"IdleMoneyModel", "isWord", "(Ljava/lang/String;)Z"⟩, 21), (⟨"IdleMoneyModel", "readsLand", "(I)V"⟩, 21), (⟨"IdleMoneyModel", "wrong", "(II)V"⟩, 21), (⟨"IdleMoneyModel", "name", "()I"⟩, 21)]
theorem lw_r3 : ∀ q ∈ lw_privs_3, lw_okq q := List.forall_mem_cons.mpr ⟨lw_p32, List.forall_mem_cons.mpr ⟨lw_p33, List.forall_mem_cons.mpr ⟨lw_p34, List.forall_mem_cons.mpr ⟨lw_p35, List.forall_mem_cons.mpr ⟨lw_p36, List.forall_mem_cons.mpr ⟨lw_p37, List.forall_mem_cons.mpr ⟨lw_p38, List.forall_mem_cons.mpr ⟨lw_p39, List.forall_mem_cons.mpr ⟨lw_p40, List.forall_mem_cons.mpr ⟨lw_p41, List.forall_mem_cons.mpr ⟨lw_p42, List.forall_mem_cons.mpr ⟨lw_p43, List.forall_mem_cons.mpr ⟨lw_p44, List.forall_mem_cons.mpr ⟨lw_p45, List.forall_mem_cons.mpr ⟨lw_p46, List.forall_mem_cons.mpr ⟨lw_p47, fun _ h => absurd h List.not_mem_nil⟩⟩⟩⟩⟩⟩⟩⟩⟩⟩⟩⟩⟩⟩⟩⟩
theorem lw_p48 : lw_okq (⟨"IdleMoneyModel", "landOf", "(I)I"⟩, 21) := ⟨⟨by decide +kernel, by decide +kernel⟩, List.mem_of_getElem? (i := 1189) (by decide +kernel), List.mem_of_getElem? (i := 1353) (by decide +kernel), List.mem_of_getElem? (i := 1354) (by decide +kernel)⟩
theorem lw_p49 : lw_okq (⟨"IdleMoneyModel", "number", "(II)I"⟩, 21) := ⟨⟨by decide +kernel, by decide +kernel⟩, List.mem_of_getElem? (i := 1189) (by decide +kernel), List.mem_of_getElem? (i := 1360) (by decide +kernel), List.mem_of_getElem? (i := 1361) (by decide +kernel)⟩
theorem lw_p50 : lw_okq (⟨"IdleMoneyModel", "readsSleep", "()V"⟩, 21) := ⟨⟨by decide +kernel, by decide +kernel⟩, List.mem_of_getElem? (i := 1189) (by decide +kernel), List.mem_of_getElem? (i := 1373) (by decide +kernel), List.mem_of_getElem? (i := 1374) (by decide +kernel)⟩
theorem lw_p51 : lw_okq (⟨"IdleMoneyModel", "one", "(II)I"⟩, 21) := ⟨⟨by decide +kernel, by decide +kernel⟩, List.mem_of_getElem? (i := 1189) (by decide +kernel), List.mem_of_getElem? (i := 1377) (by decide +kernel), List.mem_of_getElem? (i := 1378) (by decide +kernel)⟩
theorem lw_p52 : lw_okq (⟨"IdleMoneyModel", "landHere", "()I"⟩, 21) := ⟨⟨by decide +kernel, by decide +kernel⟩, List.mem_of_getElem? (i := 1189) (by decide +kernel), List.mem_of_getElem? (i := 1381) (by decide +kernel), List.mem_of_getElem? (i := 1382) (by decide +kernel)⟩
theorem lw_p53 : lw_okq (⟨"IdleMoneyModel", "sum", "()V"⟩, 21) := ⟨⟨by decide +kernel, by decide +kernel⟩, List.mem_of_getElem? (i := 1189) (by decide +kernel), List.mem_of_getElem? (i := 1388) (by decide +kernel), List.mem_of_getElem? (i := 1389) (by decide +kernel)⟩
theorem lw_p54 : lw_okq (⟨"IdleMoneyModel", "product", "()V"⟩, 21) := ⟨⟨by decide +kernel, by decide +kernel⟩, List.mem_of_getElem? (i := 1189) (by decide +kernel), List.mem_of_getElem? (i := 1392) (by decide +kernel), List.mem_of_getElem? (i := 1393) (by decide +kernel)⟩
theorem lw_p55 : lw_okq (⟨"IdleMoneyModel", "factor", "()V"⟩, 21) := ⟨⟨by decide +kernel, by decide +kernel⟩, List.mem_of_getElem? (i := 1189) (by decide +kernel), List.mem_of_getElem? (i := 1396) (by decide +kernel), List.mem_of_getElem? (i := 1397) (by decide +kernel)⟩
theorem lw_p56 : lw_okq (⟨"IdleMoneyModel", "tells", "(I)V"⟩, 21) := ⟨⟨by decide +kernel, by decide +kernel⟩, List.mem_of_getElem? (i := 1189) (by decide +kernel), List.mem_of_getElem? (i := 1401) (by decide +kernel), List.mem_of_getElem? (i := 1402) (by decide +kernel)⟩
theorem lw_p57 : lw_okq (⟨"IdleMoneyModel", "opens", "(I)V"⟩, 21) := ⟨⟨by decide +kernel, by decide +kernel⟩, List.mem_of_getElem? (i := 1189) (by decide +kernel), List.mem_of_getElem? (i := 1405) (by decide +kernel), List.mem_of_getElem? (i := 1406) (by decide +kernel)⟩
theorem lw_p58 : lw_okq (⟨"IdleMoneyModel", "sign", "(I)V"⟩, 21) := ⟨⟨by decide +kernel, by decide +kernel⟩, List.mem_of_getElem? (i := 1189) (by decide +kernel), List.mem_of_getElem? (i := 1409) (by decide +kernel), List.mem_of_getElem? (i := 1410) (by decide +kernel)⟩
theorem lw_p59 : lw_okq (⟨"IdleMoneyModel", "must", "(Ljava/lang/String;)V"⟩, 21) := ⟨⟨by decide +kernel, by decide +kernel⟩, List.mem_of_getElem? (i := 1189) (by decide +kernel), List.mem_of_getElem? (i := 1413) (by decide +kernel), List.mem_of_getElem? (i := 1414) (by decide +kernel)⟩
theorem lw_p60 : lw_okq (⟨"IdleMoneyModel", "readsPays", "()V"⟩, 21) := ⟨⟨by decide +kernel, by decide +kernel⟩, List.mem_of_getElem? (i := 1189) (by decide +kernel), List.mem_of_getElem? (i := 1417) (by decide +kernel), List.mem_of_getElem? (i := 1418) (by decide +kernel)⟩
theorem lw_p61 : lw_okq (⟨"IdleMoneyModel", "isOnce", "(Ljava/lang/String;I)Z"⟩, 21) := ⟨⟨by decide +kernel, by decide +kernel⟩, List.mem_of_getElem? (i := 1189) (by decide +kernel), List.mem_of_getElem? (i := 1421) (by decide +kernel), List.mem_of_getElem? (i := 1422) (by decide +kernel)⟩
theorem lw_p62 : lw_okq (⟨"IdleMoneyModel", "readsOrder", "()V"⟩, 21) := ⟨⟨by decide +kernel, by decide +kernel⟩, List.mem_of_getElem? (i := 1189) (by decide +kernel), List.mem_of_getElem? (i := 1425) (by decide +kernel), List.mem_of_getElem? (i := 1426) (by decide +kernel)⟩
theorem lw_p63 : lw_okq (⟨"IdleMoneyModel", "remembers", "()V"⟩, 21) := ⟨⟨by decide +kernel, by decide +kernel⟩, List.mem_of_getElem? (i := 1189) (by decide +kernel), List.mem_of_getElem? (i := 1429) (by decide +kernel), List.mem_of_getElem? (i := 1430) (by decide +kernel)⟩
def lw_privs_4 : List (MethodName × Nat) := [(⟨"IdleMoneyModel", "landOf", "(I)I"⟩, 21), (⟨"IdleMoneyModel", "number", "(II)I"⟩, 21), (⟨"IdleMoneyModel", "readsSleep", "()V"⟩, 21), (⟨"IdleMoneyModel", "one", "(II)I"⟩, 21), (⟨"IdleMoneyModel", "landHere", "()I"⟩, 21), (⟨"IdleMoneyModel", "sum", "()V"⟩, 21), (⟨"IdleMoneyModel", "product", "()V"⟩, 21), (⟨"IdleMoneyModel", "factor", "()V"⟩, 21), (⟨"IdleMoneyModel", "tells", "(I)V"⟩, 21), (⟨"IdleMoneyModel", "opens", "(I)V"⟩, 21), (⟨"IdleMoneyModel", "sign", "(I)V"⟩, 21), (⟨"IdleMoneyModel", "must", "(Ljava/lang/String;)V"⟩, 21), (⟨"IdleMoneyModel", "readsPays", "()V"⟩, 21), (⟨"IdleMoneyModel", "isOnce", "(Ljava/lang/String;I)Z"⟩, 21), (⟨"IdleMoneyModel", "readsOrder", "()V"⟩, 21), (⟨"IdleMoneyModel", "remembers", "()V"⟩, 21)]
theorem lw_r4 : ∀ q ∈ lw_privs_4, lw_okq q := List.forall_mem_cons.mpr ⟨lw_p48, List.forall_mem_cons.mpr ⟨lw_p49, List.forall_mem_cons.mpr ⟨lw_p50, List.forall_mem_cons.mpr ⟨lw_p51, List.forall_mem_cons.mpr ⟨lw_p52, List.forall_mem_cons.mpr ⟨lw_p53, List.forall_mem_cons.mpr ⟨lw_p54, List.forall_mem_cons.mpr ⟨lw_p55, List.forall_mem_cons.mpr ⟨lw_p56, List.forall_mem_cons.mpr ⟨lw_p57, List.forall_mem_cons.mpr ⟨lw_p58, List.forall_mem_cons.mpr ⟨lw_p59, List.forall_mem_cons.mpr ⟨lw_p60, List.forall_mem_cons.mpr ⟨lw_p61, List.forall_mem_cons.mpr ⟨lw_p62, List.forall_mem_cons.mpr ⟨lw_p63, fun _ h => absurd h List.not_mem_nil⟩⟩⟩⟩⟩⟩⟩⟩⟩⟩⟩⟩⟩⟩⟩⟩
theorem lw_p64 : lw_okq (⟨"IdleMoneyModel", "lands", "()I"⟩, 21) := ⟨⟨by decide +kernel, by decide +kernel⟩, List.mem_of_getElem? (i := 1189) (by decide +kernel), List.mem_of_getElem? (i := 1436) (by decide +kernel), List.mem_of_getElem? (i := 1437) (by decide +kernel)⟩
theorem lw_p65 : lw_okq (⟨"IdleMoneyModel", "isLand", "(I)Z"⟩, 21) := ⟨⟨by decide +kernel, by decide +kernel⟩, List.mem_of_getElem? (i := 1189) (by decide +kernel), List.mem_of_getElem? (i := 1452) (by decide +kernel), List.mem_of_getElem? (i := 1453) (by decide +kernel)⟩
theorem lw_p66 : lw_okq (⟨"IdleMoneyModel", "many", "()I"⟩, 21) := ⟨⟨by decide +kernel, by decide +kernel⟩, List.mem_of_getElem? (i := 1189) (by decide +kernel), List.mem_of_getElem? (i := 1458) (by decide +kernel), List.mem_of_getElem? (i := 1459) (by decide +kernel)⟩
theorem lw_p67 : lw_okq (⟨"IdleMoneyModel", "isAccount", "(I)Z"⟩, 21) := ⟨⟨by decide +kernel, by decide +kernel⟩, List.mem_of_getElem? (i := 1189) (by decide +kernel), List.mem_of_getElem? (i := 1472) (by decide +kernel), List.mem_of_getElem? (i := 1473) (by decide +kernel)⟩
theorem lw_p68 : lw_okq (⟨"IdleMoneyModel", "isLive", "(I)Z"⟩, 21) := ⟨⟨by decide +kernel, by decide +kernel⟩, List.mem_of_getElem? (i := 1189) (by decide +kernel), List.mem_of_getElem? (i := 1476) (by decide +kernel), List.mem_of_getElem? (i := 1477) (by decide +kernel)⟩
theorem lw_p69 : lw_okq (⟨"IdleMoneyModel", "monthsGo", "([JI)I"⟩, 21) := ⟨⟨by decide +kernel, by decide +kernel⟩, List.mem_of_getElem? (i := 1189) (by decide +kernel), List.mem_of_getElem? (i := 1515) (by decide +kernel), List.mem_of_getElem? (i := 1516) (by decide +kernel)⟩
theorem lw_p70 : lw_okq (⟨"IdleMoneyModel", "goes", "([JIJ)Z"⟩, 21) := ⟨⟨by decide +kernel, by decide +kernel⟩, List.mem_of_getElem? (i := 1189) (by decide +kernel), List.mem_of_getElem? (i := 1519) (by decide +kernel), List.mem_of_getElem? (i := 1520) (by decide +kernel)⟩
theorem lw_p71 : lw_okq (⟨"IdleMoneyModel", "sleepOf", "([JII)J"⟩, 21) := ⟨⟨by decide +kernel, by decide +kernel⟩, List.mem_of_getElem? (i := 1189) (by decide +kernel), List.mem_of_getElem? (i := 1530) (by decide +kernel), List.mem_of_getElem? (i := 1531) (by decide +kernel)⟩
theorem lw_p72 : lw_okq (⟨"IdleMoneyModel", "writesTo", "([JIJ)V"⟩, 21) := ⟨⟨by decide +kernel, by decide +kernel⟩, List.mem_of_getElem? (i := 1189) (by decide +kernel), List.mem_of_getElem? (i := 1549) (by decide +kernel), List.mem_of_getElem? (i := 1550) (by decide +kernel)⟩
theorem lw_p73 : lw_okq (⟨"IdleMoneyModel", "hands", "([JIIJ)V"⟩, 21) := ⟨⟨by decide +kernel, by decide +kernel⟩, List.mem_of_getElem? (i := 1189) (by decide +kernel), List.mem_of_getElem? (i := 1554) (by decide +kernel), List.mem_of_getElem? (i := 1555) (by decide +kernel)⟩
theorem lw_p74 : lw_okq (⟨"IdleMoneyModel", "canClaim", "(I)Z"⟩, 21) := ⟨⟨by decide +kernel, by decide +kernel⟩, List.mem_of_getElem? (i := 1189) (by decide +kernel), List.mem_of_getElem? (i := 1563) (by decide +kernel), List.mem_of_getElem? (i := 1564) (by decide +kernel)⟩
theorem lw_p75 : lw_okq (⟨"IdleMoneyModel", "interestOf", "(II)J"⟩, 21) := ⟨⟨by decide +kernel, by decide +kernel⟩, List.mem_of_getElem? (i := 1189) (by decide +kernel), List.mem_of_getElem? (i := 1567) (by decide +kernel), List.mem_of_getElem? (i := 1568) (by decide +kernel)⟩
theorem lw_p76 : lw_okq (⟨"IdleMoneyModel", "isHeldBy", "(II)Z"⟩, 21) := ⟨⟨by decide +kernel, by decide +kernel⟩, List.mem_of_getElem? (i := 1189) (by decide +kernel), List.mem_of_getElem? (i := 1584) (by decide +kernel), List.mem_of_getElem? (i := 1585) (by decide +kernel)⟩
theorem lw_p77 : lw_okq (⟨"IdleMoneyModel", "handedBy", "(IIZ)J"⟩, 21) := ⟨⟨by decide +kernel, by decide +kernel⟩, List.mem_of_getElem? (i := 1189) (by decide +kernel), List.mem_of_getElem? (i := 1632) (by decide +kernel), List.mem_of_getElem? (i := 1633) (by decide +kernel)⟩
def lw_privs_5 : List (MethodName × Nat) := [(⟨"IdleMoneyModel", "lands", "()I"⟩, 21), (⟨"IdleMoneyModel", "isLand", "(I)Z"⟩, 21), (⟨"IdleMoneyModel", "many", "()I"⟩, 21), (⟨"IdleMoneyModel", "isAccount", "(I)Z"⟩, 21), (⟨"IdleMoneyModel", "isLive", "(I)Z"⟩, 21), (⟨"IdleMoneyModel", "monthsGo", "([JI)I"⟩, 21), (⟨"IdleMoneyModel", "goes", "([JIJ)Z"⟩, 21), (⟨"IdleMoneyModel", "sleepOf", "([JII)J"⟩, 21), (⟨"IdleMoneyModel", "writesTo", "([JIJ)V"⟩, 21), (⟨"IdleMoneyModel", "hands", "([JIIJ)V"⟩, 21), (⟨"IdleMoneyModel", "canClaim", "(I)Z"⟩, 21), (⟨"IdleMoneyModel", "interestOf", "(II)J"⟩, 21), (⟨"IdleMoneyModel", "isHeldBy", "(II)Z"⟩, 21), (⟨"IdleMoneyModel", "handedBy", "(IIZ)J"⟩, 21)]
theorem lw_r5 : ∀ q ∈ lw_privs_5, lw_okq q := List.forall_mem_cons.mpr ⟨lw_p64, List.forall_mem_cons.mpr ⟨lw_p65, List.forall_mem_cons.mpr ⟨lw_p66, List.forall_mem_cons.mpr ⟨lw_p67, List.forall_mem_cons.mpr ⟨lw_p68, List.forall_mem_cons.mpr ⟨lw_p69, List.forall_mem_cons.mpr ⟨lw_p70, List.forall_mem_cons.mpr ⟨lw_p71, List.forall_mem_cons.mpr ⟨lw_p72, List.forall_mem_cons.mpr ⟨lw_p73, List.forall_mem_cons.mpr ⟨lw_p74, List.forall_mem_cons.mpr ⟨lw_p75, List.forall_mem_cons.mpr ⟨lw_p76, List.forall_mem_cons.mpr ⟨lw_p77, fun _ h => absurd h List.not_mem_nil⟩⟩⟩⟩⟩⟩⟩⟩⟩⟩⟩⟩⟩⟩
def lw_privs : List (MethodName × Nat) := lw_privs_1 ++ (lw_privs_2 ++ (lw_privs_3 ++ (lw_privs_4 ++ (lw_privs_5))))
def lw_tbl : List Cond := k2_sels lw_privs ++ tables_1
theorem lw_privs_ok : ∀ q ∈ lw_privs, lw_okq q := by
  show ∀ q ∈ lw_privs_1 ++ (lw_privs_2 ++ (lw_privs_3 ++ (lw_privs_4 ++ (lw_privs_5)))), lw_okq q
  exact List.forall_mem_append.mpr ⟨lw_r1, List.forall_mem_append.mpr ⟨lw_r2, List.forall_mem_append.mpr ⟨lw_r3, List.forall_mem_append.mpr ⟨lw_r4, lw_r5⟩⟩⟩⟩
-- ===== end of PART A; then your names; then what follows =====
/-! ===== BEGIN words of one list among another's, by their places ===== -/
theorem goodIn_r {big : List Cond} (ws : List Cond) (ps : List Nat) (hp : ws = ps.filterMap (fun i => big[i]?)) (h : ws.all goodWord = true) : GoodIn big ws := by
  intro w hw
  have h1 := List.all_eq_true.mp h w hw
  rw [hp] at hw
  obtain ⟨i, -, hi⟩ := List.mem_filterMap.mp hw
  have hm : w ∈ big := by first | exact List.mem_of_getElem? hi | exact List.getElem?_mem hi
  exact ⟨hm, good_of_word h1⟩
theorem goodIn_app {big a b : List Cond} (ha : GoodIn big a) (hb : GoodIn big b) : GoodIn big (a ++ b) := fun w h => (List.mem_append.mp h).elim (ha w) (hb w)
theorem goodIn_ca {big a b : List Cond} {c : Cond} (ha : GoodIn big (c :: a)) (hb : GoodIn big b) : GoodIn big (c :: (a ++ b)) := fun w h => (List.mem_cons.mp h).elim (fun e => ha w (List.mem_cons.mpr (Or.inl e))) (fun h => (List.mem_append.mp h).elim (fun h => ha w (List.mem_cons.mpr (Or.inr h))) (hb w))
theorem goodIn_sub {big ws : List Cond} (hm : ∀ w ∈ ws, w ∈ big) (h : ws.all goodWord = true) : GoodIn big ws := fun w hw => ⟨hm w hw, good_of_word (List.all_eq_true.mp h w hw)⟩
/-! ===== END ===== -/


/-! ===== BEGIN exceptions that leave a method, and their catching by the caller (launches without stack traces) ===== -/
section VXA
/-! The laws vx_back, vx_callV, vx_callS, vx_callSW, vx_throw0, vx_throwS follow proofs of the library, with one case more: JvmDerived/Free/Laws.lean (Back.of_free), Shelf42/LK1.lean (callV, callS), Shelf/KitTraced.lean (throwNew0V, throwNewS). -/
/-- where a method has thrown q: the class by its name, the cell, what was written, the world -/
def vx_T (XC : String → State → State → Prop) (st : State) (q : Addr) (t : State) (mc ms : Nat) (free : Addr → Prop) : Prop :=
  ∃ (E : String) (ce : Cell) (L : List Loc), XC E st t ∧ t.heap[q]? = some ce ∧ ce.vm = .none ∧ st.vm.findClass E = some ce.cls ∧ st.WarmedH t.vm ∧ st.sameButNew ({ t with vm := st.vm } : State) L mc ms ∧ ∀ z ∈ L, free z.base
def vx_Q (Qc : Array Value → State → Outcome → State → Prop) (XC : String → State → State → Prop) (mc ms : Nat) (free : Addr → Prop) : Array Value → State → Outcome → State → Prop := fun a st o t =>
  (Qc a st o t ∧ ∃ L, FrameEnd st o t L mc ms ∧ ∀ q ∈ L, free q.base) ∨ ∃ q, o = .threw q ∧ vx_T XC st q t mc ms free
/-- a callee that returns or throws -/
def vx_Met (l : Launch) (y : MethodName) (ws : List Cond) (rm : Room) (Pc : Array Value → State → Prop) (Qc : Array Value → State → Outcome → State → Prop) (XC : String → State → State → Prop) (mc ms : Nat) (free : Addr → Prop) : Prop :=
  MetFree l y (headSpec ws rm) Pc (fun _ _ _ _ _ => True) (vx_Q Qc XC mc ms free)
def vx_Post (XC : String → State → State → Prop) (mc ms : Nat) (free : Addr → Prop) : Pt → Array Value → Addr → Pt → Prop := fun A a q B =>
  ∃ (g : JFrame) (mk : MethodId) (t : State) (L : List Loc) (E : String) (ce : Cell), B.U.heap = t.heap ∧ B.U.vm = t.vm ∧ XC E (A.U.calling g mk a) t ∧ t.heap[q]? = some ce ∧ ce.vm = .none ∧ A.U.vm.findClass E = some ce.cls ∧ B.locs = A.locs ++ L ∧ (∀ z ∈ L, free z.base) ∧ B.cells = A.cells + mc ∧ B.slots = A.slots + ms
def vx_Back (l : Launch) (R : Room) (p : Program) (e : Env) (below : List Frame) (s : State) (sargs : Array Value) (y : MethodName) (len W9 : Nat)
    (Pre : Pt → Array Value → Prop) (Post : Pt → Array Value → Option Value → Pt → Prop) (PostX : Pt → Array Value → Addr → Pt → Prop) : Prop :=
  ∀ (m : MethodId) (meth : Method) (c : Code) (A : Pt) (g : JFrame) (ig : Instr) (mk : MethodId) (a : Array Value),
    Stand p l e R s m sargs below meth c A.U A.locs A.cells A.slots → g.method = m → g.locals.size = c.maxLocals → decode c.code g.pc = .ok (ig, len) →
    2 * g.monitorRoom + (g.stack.map fun v => v.category).sum ≤ W9 → A.U.methodNamed? y = some mk → Pre A a →
    (∃ (v : Option Value) (B : Pt), Stand p l e R s m sargs below meth c B.U B.locs B.cells B.slots ∧ Post A a v B ∧
      Steps p.tables e below (doInvoke e (A.U.setTop g) [] mk a).1 (B.U.setTop { g with pc := g.pc + len, stack := v.toList ++ g.stack })) ∨
    (∃ (q : Addr) (B : Pt), Stand p l e R s m sargs below meth c B.U B.locs B.cells B.slots ∧ PostX A a q B ∧
      Steps p.tables e below (doInvoke e (A.U.setTop g) [] mk a).1 ((B.U.setTop g).pushFrame (.throwing q)))
section Payer
variable {l : Launch} {R : Room} {p : Program} {e : Env} {below : List Frame} {s : State} {sargs : Array Value} {y : MethodName} {len W9 : Nat}
theorem vx_back {ws : List Cond} {rm : Room} {Pc : Array Value → State → Prop} {Qc : Array Value → State → Outcome → State → Prop} {XC : String → State → State → Prop} {mc ms : Nat} {free : Addr → Prop} {bytes : ByteArray} {maxL : Nat} {ret : Option FieldType}
    (hM : vx_Met l y ws rm Pc Qc XC mc ms free) (hblind : FrameBlind Pc) (hrc : rm.cells = mc) (hrs : rm.slots = ms)
    (hframes : rm.frames + 1 ≤ R.frames) (hlocals : W9 + (maxL + 11) + rm.locals ≤ R.locals)
    (hws : ∀ w ∈ ws, ∀ a' U, s.WarmedH U.vm → w.before a' U = true) (hcode : Cond.code y bytes maxL ret ∈ ws) (hinit : ∀ a' U, s.WarmedH U.vm → (Cond.initialized y.cls).before a' U = true) :
    vx_Back l R p e below s sargs y len W9 (PreOf R mc ms Pc) (PostOf Qc mc ms free) (vx_Post XC mc ms free) := by
  intro m meth c A g ig mk a X hg hsize hdg hW hn hp
  have h1 : (headSpec ws rm).pre.before a A.U = true := atoms_intro fun w hw => hws w hw _ _ X.warmed
  have h2 : (Cond.code y bytes maxL ret).before a A.U = true := hws _ hcode _ _ X.warmed
  have h3 : (Cond.initialized y.cls).before a A.U = true := hinit _ _ X.warmed
  have h4 : A.cells + (headSpec ws rm).room.cells ≤ R.cells := by rw [show (headSpec ws rm).room.cells = mc from hrc]; exact hp.1
  have h5 : A.slots + (headSpec ws rm).room.slots ≤ R.slots := by rw [show (headSpec ws rm).room.slots = ms from hrs]; exact hp.2.1
  have hPc : Pc a (A.U.calling g mk a) := hblind _ _ _ _ hp.2.2
  obtain ⟨U, Ls, c0, s0⟩ := A
  dsimp only [Pt.U, Pt.locs, Pt.cells, Pt.slots] at h1 h2 h3 h4 h5 X hn hPc ⊢
  obtain ⟨methY, cY, hmY, hcY, -, hlY, -, -, -, -⟩ := Cond.code_spec hn h2
  obtain ⟨kY, hkY, -⟩ := className_of_methodNamed hn
  have hinitY : kY.init = .initialized := Cond.initialized_spec (findClass_of_methodNamed hn) hkY h3
  have h : At U g.method c below := by rw [hg]; exact X.here
  have hlocals9 : W9 + (maxL + 11) + (headSpec ws rm).room.locals ≤ R.locals := hlocals
  have happ : (headSpec ws rm).appliesLoose y e.platform (U.calling g mk a) = true :=
    Spec.appliesLoose_calling (g := g) h hdg hn hkY hinitY
      (X.room_calling (g := g) (R' := (headSpec ws rm).room) hsize hmY hcY hframes (by rw [hlY]; omega) h4 h5) h1
  obtain ⟨mid, hmid⟩ := h.above
  have hfr : (U.setTop g).frames = (.java g :: mid) ++ below := by rw [State.frames_setTop' g h.top, hmid]; rfl
  obtain ⟨o, s₂, hsteps, -, hend, hq⟩ := Steps.callFree hM p X.admits X.cas X.clock (acts := []) hfr happ hPc trivial
  have hq' : vx_Q Qc XC mc ms free a (U.calling g mk a) o s₂ := hq
  rw [State.frames_setTop' g h.top] at hend
  obtain ⟨g₀, hg0⟩ := Option.isSome_iff_exists.mp h.top
  obtain ⟨r, hr⟩ := State.topJava?_eq_some.mp hg0
  have hr' : (({ U with heap := s₂.heap, slotsUsed := s₂.slotsUsed } : State).setVm s₂.vm).frames = .java g₀ :: r := hr
  rcases hq' with ⟨hqc, L, hfe, hL⟩ | ⟨q, rfl, E, ce, L, hx, hce, hcv, hcl, hW₂, hsm, hL⟩
  · obtain ⟨⟨v, rfl⟩, hW₂, e2, q2, q3, q4, q5, q6⟩ := id hfe
    have e3 : s₂ = ({ (U.calling g mk a).setFrames s₂.frames with heap := s₂.heap, slotsUsed := s₂.slotsUsed } : State).setVm s₂.vm := by
      have : s₂ = ({ s₂ with vm := (U.calling g mk a).vm } : State).setVm s₂.vm := rfl
      rw [e2] at this
      exact this
    obtain ⟨c₂, i₂, len₂, hc₂, hd₂, hf₂⟩ := hend
    have hW' : U.WarmedH s₂.vm := hW₂
    have hcc : c₂ = c := by
      have h1 : s₂.code? g.method = U.code? g.method := by
        rw [State.code?_eq, State.code?_eq, hW'.alike.method?]
      exact Option.some.inj (hc₂.symm.trans (h1.trans h.code))
    subst hcc
    have hlen : len₂ = len := by rw [hdg] at hd₂; cases hd₂; rfl
    subst hlen
    have hs₂ : s₂ = (({ U with heap := s₂.heap, slotsUsed := s₂.slotsUsed } : State).setVm s₂.vm).setTop { g with pc := g.pc + len₂, stack := v.toList ++ g.stack } := by
      refine e3.trans ?_
      rw [hf₂, State.calling_eq h.top, State.setFrames_setFrames, State.setTop_of_frames _ hr', hr]
      rfl
    have hsame : U.sameButNew ({ U with heap := s₂.heap, slotsUsed := s₂.slotsUsed } : State) L mc ms := by
      refine ⟨?_, q2, q3, q4, q5, q6⟩
      obtain ⟨t, ht, -⟩ := State.frames_cons hr
      show ({ U with heap := s₂.heap, slotsUsed := s₂.slotsUsed } : State) = { U.setFrames U.frames with heap := s₂.heap, slotsUsed := s₂.slotsUsed }
      rw [State.setFrames_self ht]
    subst hg
    refine Or.inl ⟨v, ⟨(({ U with heap := s₂.heap, slotsUsed := s₂.slotsUsed } : State).setVm s₂.vm), Ls ++ L, c0 + mc, s0 + ms⟩,
      ⟨X.admits, X.cas, X.clock, X.frames, X.room, X.hears, X.method, X.code, (X.here.setHeapUsed s₂.heap s₂.slotsUsed).setVm hW'.alike, X.tail, State.WarmedH.trans X.warmed hW', X.limits, X.bytes, X.same.trans (hsame.setVm s.vm)⟩,
      ⟨g, mk, s₂, L, rfl, rfl, hqc, rfl, hL, rfl, rfl⟩, ?_⟩
    show Steps p.tables e below _ ((({ U with heap := s₂.heap, slotsUsed := s₂.slotsUsed } : State).setVm s₂.vm).setTop { g with pc := g.pc + len₂, stack := v.toList ++ g.stack })
    rw [← hs₂]
    exact hsteps
  · obtain ⟨e2, q2, q3, q4, q5, q6⟩ := id hsm
    have e3 : s₂ = ({ (U.calling g mk a).setFrames s₂.frames with heap := s₂.heap, slotsUsed := s₂.slotsUsed } : State).setVm s₂.vm := by
      have : s₂ = ({ s₂ with vm := (U.calling g mk a).vm } : State).setVm s₂.vm := rfl
      rw [e2] at this
      exact this
    have hf₂ : s₂.frames = .throwing q :: .java g :: U.frames.tail := hend
    have hW' : U.WarmedH s₂.vm := hW₂
    have hs₂ : s₂ = ((({ U with heap := s₂.heap, slotsUsed := s₂.slotsUsed } : State).setVm s₂.vm).setTop g).pushFrame (.throwing q) := by
      refine e3.trans ?_
      rw [hf₂, State.calling_eq h.top, State.setFrames_setFrames, State.pushFrame, State.frames_setTop _ hr', State.setTop_of_frames _ hr', State.setFrames_setFrames, hr]
      rfl
    have hsame : U.sameButNew ({ U with heap := s₂.heap, slotsUsed := s₂.slotsUsed } : State) L mc ms := by
      refine ⟨?_, q2, q3, q4, q5, q6⟩
      obtain ⟨t, ht, -⟩ := State.frames_cons hr
      show ({ U with heap := s₂.heap, slotsUsed := s₂.slotsUsed } : State) = { U.setFrames U.frames with heap := s₂.heap, slotsUsed := s₂.slotsUsed }
      rw [State.setFrames_self ht]
    subst hg
    refine Or.inr ⟨q, ⟨(({ U with heap := s₂.heap, slotsUsed := s₂.slotsUsed } : State).setVm s₂.vm), Ls ++ L, c0 + mc, s0 + ms⟩,
      ⟨X.admits, X.cas, X.clock, X.frames, X.room, X.hears, X.method, X.code, (X.here.setHeapUsed s₂.heap s₂.slotsUsed).setVm hW'.alike, X.tail, State.WarmedH.trans X.warmed hW', X.limits, X.bytes, X.same.trans (hsame.setVm s.vm)⟩,
      ⟨g, mk, s₂, L, E, ce, rfl, rfl, hx, hce, hcv, hcl, rfl, hL, rfl, rfl⟩, ?_⟩
    show Steps p.tables e below _ (((({ U with heap := s₂.heap, slotsUsed := s₂.slotsUsed } : State).setVm s₂.vm).setTop g).pushFrame (.throwing q))
    rw [← hs₂]
    exact hsteps
end Payer
section Calls
variable {p : Program} {l : Launch} {e : Env} {R : Room} {s : State} {m : MethodId} {args : Array Value} {below : List Frame} {meth : Method} {c : Code} {T : State} {locs : List Loc} {cells slots : Nat}
theorem vx_callV (X : Stand p l e R s m args below meth c T locs cells slots) (hexec : p.tables.exec = Jvm.exec) {own C : String} {index : Nat} {y : MethodName} {bytes : ByteArray} {maxL : Nat} {ret : Option FieldType}
    (hown : s.vm.findClass own = some m.cls) (hlink : (Cond.methodLink own index y).before args s = true) (hinst : (Cond.instanceMethod y).before args s = true) (hsel : (Cond.selects C y y).before args s = true)
    (hcode : (Cond.code y bytes maxL ret).before args s = true) (hy : y.cls ≠ "java/lang/invoke/MethodHandle" ∧ y.cls ≠ "java/lang/invoke/VarHandle")
    {W9 : Nat} {Pre : Pt → Array Value → Prop} {Post : Pt → Array Value → Option Value → Pt → Prop} {PostX : Pt → Array Value → Addr → Pt → Prop} (hK : vx_Back l R p e below s args y 3 W9 Pre Post PostX)
    {b : Addr} {cellB : Cell} (hcell : T.heap[b]? = some cellB) (hobj : cellB.vm.isStatics = false) (hcls : s.vm.findClass C = some cellB.cls)
    {g : JFrame} (hg : g.method = m) (hsize : g.locals.size = c.maxLocals) {argsL rest : List Value} (hlen : ∀ sig, parseMethodDescriptor y.desc = some sig → argsL.length = sig.parameters.length)
    (hstack : g.stack = argsL.reverse ++ .ref b :: rest) (hW : 2 * g.monitorRoom + (rest.map fun v => v.category).sum ≤ W9) (hdg : decode c.code g.pc = .ok (.invokevirtual index, 3))
    (hpre : ∀ vm₁, s.WarmedH vm₁ → Pre ⟨T.setVm vm₁, locs, cells, slots⟩ (Value.ref b :: argsL).toArray) :
    (∃ (v : Option Value) (vm₁ : Vm) (B : Pt), s.WarmedH vm₁ ∧ Stand p l e R s m args below meth c B.U B.locs B.cells B.slots ∧ Post ⟨T.setVm vm₁, locs, cells, slots⟩ (Value.ref b :: argsL).toArray v B ∧
      ∀ target, Steps p.tables e below (B.U.setTop { g with pc := g.pc + 3, stack := v.toList ++ rest }) target → Steps p.tables e below (T.setTop g) target) ∨
    (∃ (q : Addr) (vm₁ : Vm) (B : Pt), s.WarmedH vm₁ ∧ Stand p l e R s m args below meth c B.U B.locs B.cells B.slots ∧ PostX ⟨T.setVm vm₁, locs, cells, slots⟩ (Value.ref b :: argsL).toArray q B ∧
      Steps p.tables e below (T.setTop g) ((B.U.setTop { g with stack := rest }).pushFrame (.throwing q))) := by
  obtain ⟨mk, methM, hnamed, hmethM, hstM, habM⟩ := Cond.instanceMethod_spec hinst
  obtain ⟨methM', cM, hmethM', -, -, -, -, -, -, hsigM⟩ := Cond.code_spec hnamed hcode
  cases hmethM.symm.trans hmethM'
  obtain ⟨c2, r2, m2, q1, q2, q3, q4, kP, hkP, hkPi⟩ := Cond.selects_spec hsel
  cases hcls.symm.trans q1
  cases (State.methodFound?_of_named hnamed hy).symm.trans q2
  cases hnamed.symm.trans q3
  have hselP : selectMethod e.platform s.vm cellB.cls mk = .method mk := by rw [Launch.admits_selectMethod X.admits]; exact q4
  obtain ⟨vm₁, X₁, hstep₁⟩ := X.invokevirtual hexec hown hlink hnamed hmethM hstM hkP hkPi hy (a := b) (cell := cellB) hcell
    (fun z h => by rw [h] at hobj; cases hobj) hselP hmethM habM hkP hkPi (g := g) hg (argsL := argsL) (rest := rest) (hlen _ hsigM) hstack hdg
  rcases hK m meth c ⟨T.setVm vm₁, locs, cells, slots⟩ { g with stack := rest } (.invokevirtual index) mk (Value.ref b :: argsL).toArray X₁ hg hsize hdg hW (X₁.named hnamed) (hpre vm₁ X₁.warmed) with ⟨v, B, X', hpost, hsteps⟩ | ⟨q, B, X', hpost, hsteps⟩
  · exact Or.inl ⟨v, vm₁, B, X₁.warmed, X', hpost, fun target h => hstep₁ _ fun acts => by rw [doInvoke_state]; exact hsteps.trans h⟩
  · exact Or.inr ⟨q, vm₁, B, X₁.warmed, X', hpost, hstep₁ _ fun acts => by rw [doInvoke_state]; exact hsteps⟩
theorem vx_callS (X : Stand p l e R s m args below meth c T locs cells slots) (hexec : p.tables.exec = Jvm.exec) {own : String} {index : Nat} {y : MethodName} {bytes : ByteArray} {maxL : Nat} {ret : Option FieldType}
    (hown : s.vm.findClass own = some m.cls) (hlink : (Cond.methodLink own index y).before args s = true) (hstat : (Cond.static y).before args s = true) (hinit : (Cond.initialized y.cls).before args s = true)
    (hcode : (Cond.code y bytes maxL ret).before args s = true) (hy : y.cls ≠ "java/lang/invoke/MethodHandle" ∧ y.cls ≠ "java/lang/invoke/VarHandle")
    {W9 : Nat} {Pre : Pt → Array Value → Prop} {Post : Pt → Array Value → Option Value → Pt → Prop} {PostX : Pt → Array Value → Addr → Pt → Prop} (hK : vx_Back l R p e below s args y 3 W9 Pre Post PostX)
    {g : JFrame} (hg : g.method = m) (hsize : g.locals.size = c.maxLocals) {argsL rest : List Value} (hlen : ∀ sig, parseMethodDescriptor y.desc = some sig → argsL.length = sig.parameters.length)
    (hstack : g.stack = argsL.reverse ++ rest) (hW : 2 * g.monitorRoom + (rest.map fun v => v.category).sum ≤ W9) (hdg : decode c.code g.pc = .ok (.invokestatic index, 3))
    (hpre : ∀ vm₁, s.WarmedH vm₁ → Pre ⟨T.setVm vm₁, locs, cells, slots⟩ argsL.toArray) :
    (∃ (v : Option Value) (vm₁ : Vm) (B : Pt), s.WarmedH vm₁ ∧ Stand p l e R s m args below meth c B.U B.locs B.cells B.slots ∧ Post ⟨T.setVm vm₁, locs, cells, slots⟩ argsL.toArray v B ∧
      ∀ target, Steps p.tables e below (B.U.setTop { g with pc := g.pc + 3, stack := v.toList ++ rest }) target → Steps p.tables e below (T.setTop g) target) ∨
    (∃ (q : Addr) (vm₁ : Vm) (B : Pt), s.WarmedH vm₁ ∧ Stand p l e R s m args below meth c B.U B.locs B.cells B.slots ∧ PostX ⟨T.setVm vm₁, locs, cells, slots⟩ argsL.toArray q B ∧
      Steps p.tables e below (T.setTop g) ((B.U.setTop { g with stack := rest }).pushFrame (.throwing q))) := by
  obtain ⟨mk, hnamed⟩ := Cond.code_named hcode
  obtain ⟨methM, cM, hmethM, -, -, -, -, -, -, hsigM⟩ := Cond.code_spec hnamed hcode
  have hstatic : methM.isStatic = true := Cond.static_spec hnamed hmethM hstat
  obtain ⟨kP, hkP, -⟩ := className_of_methodNamed hnamed
  have hinitP : kP.init = .initialized := Cond.initialized_spec (findClass_of_methodNamed hnamed) hkP hinit
  obtain ⟨vm₁, X₁, hstep₁⟩ := X.invokestatic hexec hown hlink hnamed hmethM hstatic hkP hinitP hy (g := g) hg (argsL := argsL) (rest := rest) (hlen _ hsigM) hstack hdg
  rcases hK m meth c ⟨T.setVm vm₁, locs, cells, slots⟩ { g with stack := rest } (.invokestatic index) mk argsL.toArray X₁ hg hsize hdg hW (X₁.named hnamed) (hpre vm₁ X₁.warmed) with ⟨v, B, X', hpost, hsteps⟩ | ⟨q, B, X', hpost, hsteps⟩
  · exact Or.inl ⟨v, vm₁, B, X₁.warmed, X', hpost, fun target h => hstep₁ _ fun acts => by rw [doInvoke_state]; exact hsteps.trans h⟩
  · exact Or.inr ⟨q, vm₁, B, X₁.warmed, X', hpost, hstep₁ _ fun acts => by rw [doInvoke_state]; exact hsteps⟩
end Calls
theorem vx_cls {s : State} {T : State} {vm₁ : Vm} {E : String} {k : ClassId} (hW : s.WarmedH vm₁) (h : (T.setVm vm₁).vm.findClass E = some k) : s.vm.findClass E = some k := by
  have h1 : vm₁.findClass E = some k := h
  rw [hW.alike.findClass] at h1
  exact h1
/-- the method's frame g, with q thrown over it -/
def vx_W (p : Program) (l : Launch) (e : Env) (R : Room) (s : State) (m : MethodId) (args : Array Value) (below : List Frame) (meth : Method) (c : Code) (H : Heap) (locs : List Loc) (cells slots : Nat) (Q : State → Prop) (g : JFrame) (q : Addr) : Prop :=
  ∀ T : State, T.heap = H → Stand p l e R s m args below meth c T locs cells slots → ∃ t, Steps p.tables e below ((T.setTop g).pushFrame (.throwing q)) t ∧ Q t
def vx_Run (p : Program) (l : Launch) (e : Env) (R : Room) (s : State) (m : MethodId) (args : Array Value) (below : List Frame) (meth : Method) (c : Code) (H : Heap) (locs : List Loc) (cells slots mc ms : Nat) (g : JFrame) (rest : List Value) (Qa : State → Outcome → State → Prop) (XC : String → State → State → Prop) (free : Addr → Prop) : Prop :=
  ∀ T : State, T.heap = H → Stand p l e R s m args below meth c T locs cells slots →
    (∃ (v : Option Value) (st₀ t T' : State) (L : List Loc), st₀.heap = H ∧ Stand p l e R s m args below meth c T' (locs ++ L) (cells + mc) (slots + ms) ∧ (∀ q ∈ L, free q.base) ∧ T'.heap = t.heap ∧ T'.vm = t.vm ∧ Qa st₀ (.returned v) t ∧
      Goes p e below T g T' { g with pc := g.pc + 3, stack := v.toList ++ rest }) ∨
    (∃ (q : Addr) (st₀ t T' : State) (L : List Loc) (E : String) (ce : Cell), st₀.heap = H ∧ Stand p l e R s m args below meth c T' (locs ++ L) (cells + mc) (slots + ms) ∧ (∀ z ∈ L, free z.base) ∧ T'.heap = t.heap ∧ T'.vm = t.vm ∧ XC E st₀ t ∧ t.heap[q]? = some ce ∧ ce.vm = .none ∧ s.vm.findClass E = some ce.cls ∧
      Steps p.tables e below (T.setTop g) ((T'.setTop { g with stack := rest }).pushFrame (.throwing q)))
def vx_X {S : Type} (px : S → Prop) (B : String → S → State → Prop) (A : Nat → Prop) : String → State → State → Prop := fun E st t => ∃ u : S, px u ∧ B E u t ∧ va_F A st t
section Runs
variable {p : Program} {l : Launch} {e : Env} {R : Room} {s : State} {m : MethodId} {args : Array Value} {below : List Frame} {meth : Method} {c : Code} {H : Heap} {locs : List Loc} {cells slots : Nat}
variable {y : MethodName} {bytes cc : ByteArray} {maxL nL mc ms n index : Nat} {ret : Option FieldType} {ws : List Cond} {rm : Room} {Pc : Array Value → State → Prop} {Qc : Array Value → State → Outcome → State → Prop} {XC : String → State → State → Prop} {free : Addr → Prop} {Ts : List Cond} {own C : String} {b : Addr} {As rest : List Value} {g : JFrame}
theorem vx_callBack (cb : CallB R s args own index y bytes maxL ret ws rm mc ms n) (hM : vx_Met l y ws rm Pc Qc XC mc ms free) (hbl : FrameBlind Pc) : vx_Back l R p e below s args y 3 8 (PreOf R mc ms Pc) (PostOf Qc mc ms free) (vx_Post XC mc ms free) := by
  obtain ⟨hrc, hrs, hfr, hlo, hws, hcw, -, hini, -⟩ := cb
  exact vx_back (bytes := bytes) (maxL := maxL) (ret := ret) hM hbl hrc hrs hfr hlo hws hcw (fun a' U hW => word_at hW (Or.inl (by first | rfl | simp [Cond.onTables, Cond.keeps, Cond.steady])) hini)
theorem vx_runV (S : CallFix p m c cc nL s args Ts own) (hM : vx_Met l y ws rm Pc Qc XC mc ms free) (cw : CallW R s args own C index y bytes maxL ret ws rm mc ms n) (hp : PreV s H C b Pc As)
    (hg : g.method = m) (hn : As.length = n) (hsize : g.locals.size = nL) (hstack : g.stack = As.reverse ++ .ref b :: rest) (hW : 2 * g.monitorRoom + (rest.map fun v => v.category).sum ≤ 8) (hdg : decode cc g.pc = .ok (.invokevirtual index, 3)) (hf : cells + mc ≤ R.cells ∧ slots + ms ≤ R.slots) :
    vx_Run p l e R s m args below meth c H locs cells slots mc ms g rest (Qc (Value.ref b :: As).toArray) XC free := by
  have hK : vx_Back l R p e below s args y 3 8 (PreOf R mc ms Pc) (PostOf Qc mc ms free) (vx_Post XC mc ms free) := vx_callBack cw.1 hM hp.1
  obtain ⟨⟨-, -, -, -, -, -, hcode, -, hy, hlen, hl⟩, hin, hse⟩ := cw
  obtain ⟨hx, hb, hml, ho, -⟩ := S
  obtain ⟨-, ⟨cellB, hcB, hoB, hclB⟩, hPc⟩ := hp
  intro T hT X
  rcases vx_callV X hx (C := C) (bytes := bytes) (maxL := maxL) (ret := ret) ho hl hin hse hcode hy hK (by rw [hT]; exact hcB) hoB hclB hg (hsize.trans hml.symm) (argsL := As) (rest := rest) (fun sig h => hn.trans (hlen sig h)) hstack hW (by rw [hb]; exact hdg)
    (fun vm₁ hW₁ => ⟨hf.1, hf.2, hPc (T.setVm vm₁) hT hW₁⟩) with ⟨v, vm₁, ⟨U', l2, c2, s2⟩, hW₁, X', ⟨g', mk, t, L, e1, e2, hq, h1, hL, h2, h3⟩, st⟩ | ⟨q, vm₁, ⟨U', l2, c2, s2⟩, hW₁, X', ⟨g', mk, t, L, E, ce, e1, e2, hq, hce, hcv, hcl, h1, hL, h2, h3⟩, st⟩
  · dsimp only [Pt.U, Pt.locs, Pt.cells, Pt.slots] at X' e1 e2 h1 h2 h3 st
    subst h1; subst h2; subst h3
    exact Or.inl ⟨v, (T.setVm vm₁).calling g' mk (Value.ref b :: As).toArray, t, U', L, hT, X', hL, e1, e2, hq, st⟩
  · dsimp only [Pt.U, Pt.locs, Pt.cells, Pt.slots] at X' e1 e2 h1 h2 h3 st hcl
    subst h1; subst h2; subst h3
    exact Or.inr ⟨q, (T.setVm vm₁).calling g' mk (Value.ref b :: As).toArray, t, U', L, E, ce, hT, X', hL, e1, e2, hq, hce, hcv, vx_cls hW₁ hcl, st⟩
theorem vx_runS (S : CallFix p m c cc nL s args Ts own) (hM : vx_Met l y ws rm Pc Qc XC mc ms free) (cw : CallB R s args own index y bytes maxL ret ws rm mc ms n ∧ (Cond.static y).before args s = true) (hp : PreS s H Pc As)
    (hg : g.method = m) (hn : As.length = n) (hsize : g.locals.size = nL) (hstack : g.stack = As.reverse ++ rest) (hW : 2 * g.monitorRoom + (rest.map fun v => v.category).sum ≤ 8) (hdg : decode cc g.pc = .ok (.invokestatic index, 3)) (hf : cells + mc ≤ R.cells ∧ slots + ms ≤ R.slots) :
    vx_Run p l e R s m args below meth c H locs cells slots mc ms g rest (Qc As.toArray) XC free := by
  have hK : vx_Back l R p e below s args y 3 8 (PreOf R mc ms Pc) (PostOf Qc mc ms free) (vx_Post XC mc ms free) := vx_callBack cw.1 hM hp.1
  obtain ⟨⟨-, -, -, -, -, -, hcode, hini, hy, hlen, hl⟩, hstt⟩ := cw
  obtain ⟨hx, hb, hml, ho, -⟩ := S
  intro T hT X
  rcases vx_callS X hx (bytes := bytes) (maxL := maxL) (ret := ret) ho hl hstt hini hcode hy hK hg (hsize.trans hml.symm) (argsL := As) (rest := rest) (fun sig h => hn.trans (hlen sig h)) hstack hW (by rw [hb]; exact hdg)
    (fun vm₁ hW₁ => ⟨hf.1, hf.2, hp.2 (T.setVm vm₁) hT hW₁⟩) with ⟨v, vm₁, ⟨U', l2, c2, s2⟩, hW₁, X', ⟨g', mk, t, L, e1, e2, hq, h1, hL, h2, h3⟩, st⟩ | ⟨q, vm₁, ⟨U', l2, c2, s2⟩, hW₁, X', ⟨g', mk, t, L, E, ce, e1, e2, hq, hce, hcv, hcl, h1, hL, h2, h3⟩, st⟩
  · dsimp only [Pt.U, Pt.locs, Pt.cells, Pt.slots] at X' e1 e2 h1 h2 h3 st
    subst h1; subst h2; subst h3
    exact Or.inl ⟨v, (T.setVm vm₁).calling g' mk As.toArray, t, U', L, hT, X', hL, e1, e2, hq, st⟩
  · dsimp only [Pt.U, Pt.locs, Pt.cells, Pt.slots] at X' e1 e2 h1 h2 h3 st hcl
    subst h1; subst h2; subst h3
    exact Or.inr ⟨q, (T.setVm vm₁).calling g' mk As.toArray, t, U', L, E, ce, hT, X', hL, e1, e2, hq, hce, hcv, vx_cls hW₁ hcl, st⟩
end Runs
section Rows
variable {p : Program} {l : Launch} {e : Env} {R : Room} {s : State} {m : MethodId} {args : Array Value} {below : List Frame} {meth : Method} {c : Code} {H : Heap} {locs : List Loc} {cells slots : Nat} {Q : State → Prop}
variable {mc ms : Nat} {free : Addr → Prop} {A0 A1 : Nat → Prop} {H0 : Heap} {a : Array Value} {pc : Nat} {ls : Array Slot} {st0 rest : List Value}
theorem vx_keep {st₀ t T' : State} {L : List Loc} (h0 : st₀.heap = H) (e1 : T'.heap = t.heap) (hS : va_S A0 H0 H locs) (hA : ∀ q, q < H.size → A1 q → A0 q) (hf : ∀ q, free q → A0 q) (hL : ∀ q ∈ L, free q.base) (hF : va_F A1 st₀ t) :
    H.size ≤ T'.heap.size ∧ (∀ q : Nat, q < H.size → ¬ A1 q → T'.heap[q]? = H[q]?) ∧ va_S A0 H0 T'.heap (locs ++ L) := by
  obtain ⟨hz, hk⟩ := hF
  rw [h0] at hz hk
  exact ⟨by rw [e1]; exact hz, fun q h1 h2 => by rw [e1]; exact hk q h1 h2,
    ⟨Nat.le_trans hS.1 (by rw [e1]; exact hz), fun q h1 h2 => by rw [e1, hk q (Nat.lt_of_lt_of_le h1 hS.1) (fun z => h2 (hA q (Nat.lt_of_lt_of_le h1 hS.1) z))]; exact hS.2.1 q h1 h2, fun q hq => by
      rcases List.mem_append.mp hq with h | h
      · exact hS.2.2 q h
      · exact hf _ (hL q h)⟩⟩
theorem vx_calli {S SX : Type} {post : Int32 → S → Prop} {px : SX → Prop} {B : S → State → Prop} {BX : String → SX → State → Prop} {AX : Nat → Prop} (hr : vx_Run p l e R s m args below meth c H locs cells slots mc ms (F0 m pc ls st0) rest (va_Qi post B A1 a) (vx_X px BX AX) free) (hS : va_S A0 H0 H locs) (hA : ∀ q, q < H.size → A1 q → A0 q) (hf : ∀ q, free q → A0 q) (hAX : ∀ q, q < H.size → AX q → A0 q)
    (kx : ∀ (E : String) (ce : Cell) (q9 : Addr) (u : SX) (t : State) (H1 : Heap) (locs1 : List Loc), t.heap = H1 → s.vm.Alike t.vm → px u → BX E u t → H.size ≤ H1.size → (∀ q : Nat, q < H.size → ¬ AX q → H1[q]? = H[q]?) → va_S A0 H0 H1 locs1 → H1[q9]? = some ce → ce.vm = .none → s.vm.findClass E = some ce.cls → vx_W p l e R s m args below meth c H1 locs1 (cells + mc) (slots + ms) Q (F0 m pc ls rest) q9)
    (kk : ∀ (r : Int32) (u : S) (t : State) (H1 : Heap) (locs1 : List Loc), t.heap = H1 → s.vm.Alike t.vm → post r u → B u t → H.size ≤ H1.size → (∀ q : Nat, q < H.size → ¬ A1 q → H1[q]? = H[q]?) → va_S A0 H0 H1 locs1 → W p l e R s m args below meth c H1 locs1 (cells + mc) (slots + ms) Q (F0 m (pc + 3) ls (.int r :: rest))) : W p l e R s m args below meth c H locs cells slots Q (F0 m pc ls st0) := by
  intro T hT X
  rcases hr T hT X with ⟨v, st₀, t, T', L, h0, X', hL, e1, e2, ⟨⟨r, u, hv, hp, hb⟩, hF⟩, st⟩ | ⟨q, st₀, t, T', L, E, ce, h0, X', hL, e1, e2, ⟨u, hp, hb, hF⟩, hce, hcv, hcl, st⟩
  · cases hv
    obtain ⟨k1, k2, k3⟩ := vx_keep h0 e1 hS hA hf hL hF
    obtain ⟨t2, a1, b1⟩ := kk r u t T'.heap (locs ++ L) e1.symm (by rw [← e2]; exact X'.warmed.alike) hp hb k1 k2 k3 T' rfl X'
    exact ⟨t2, st t2 a1, b1⟩
  · obtain ⟨k1, k2, k3⟩ := vx_keep h0 e1 hS hAX hf hL hF
    obtain ⟨t2, a1, b1⟩ := kx E ce q u t T'.heap (locs ++ L) e1.symm (by rw [← e2]; exact X'.warmed.alike) hp hb k1 k2 k3 (by rw [e1]; exact hce) hcv hcl T' rfl X'
    exact ⟨t2, st.trans a1, b1⟩
theorem vx_calll {S SX : Type} {post : Int64 → S → Prop} {px : SX → Prop} {B : S → State → Prop} {BX : String → SX → State → Prop} {AX : Nat → Prop} (hr : vx_Run p l e R s m args below meth c H locs cells slots mc ms (F0 m pc ls st0) rest (va_Ql post B A1 a) (vx_X px BX AX) free) (hS : va_S A0 H0 H locs) (hA : ∀ q, q < H.size → A1 q → A0 q) (hf : ∀ q, free q → A0 q) (hAX : ∀ q, q < H.size → AX q → A0 q)
    (kx : ∀ (E : String) (ce : Cell) (q9 : Addr) (u : SX) (t : State) (H1 : Heap) (locs1 : List Loc), t.heap = H1 → s.vm.Alike t.vm → px u → BX E u t → H.size ≤ H1.size → (∀ q : Nat, q < H.size → ¬ AX q → H1[q]? = H[q]?) → va_S A0 H0 H1 locs1 → H1[q9]? = some ce → ce.vm = .none → s.vm.findClass E = some ce.cls → vx_W p l e R s m args below meth c H1 locs1 (cells + mc) (slots + ms) Q (F0 m pc ls rest) q9)
    (kk : ∀ (r : Int64) (u : S) (t : State) (H1 : Heap) (locs1 : List Loc), t.heap = H1 → s.vm.Alike t.vm → post r u → B u t → H.size ≤ H1.size → (∀ q : Nat, q < H.size → ¬ A1 q → H1[q]? = H[q]?) → va_S A0 H0 H1 locs1 → W p l e R s m args below meth c H1 locs1 (cells + mc) (slots + ms) Q (F0 m (pc + 3) ls (.long r :: rest))) : W p l e R s m args below meth c H locs cells slots Q (F0 m pc ls st0) := by
  intro T hT X
  rcases hr T hT X with ⟨v, st₀, t, T', L, h0, X', hL, e1, e2, ⟨⟨r, u, hv, hp, hb⟩, hF⟩, st⟩ | ⟨q, st₀, t, T', L, E, ce, h0, X', hL, e1, e2, ⟨u, hp, hb, hF⟩, hce, hcv, hcl, st⟩
  · cases hv
    obtain ⟨k1, k2, k3⟩ := vx_keep h0 e1 hS hA hf hL hF
    obtain ⟨t2, a1, b1⟩ := kk r u t T'.heap (locs ++ L) e1.symm (by rw [← e2]; exact X'.warmed.alike) hp hb k1 k2 k3 T' rfl X'
    exact ⟨t2, st t2 a1, b1⟩
  · obtain ⟨k1, k2, k3⟩ := vx_keep h0 e1 hS hAX hf hL hF
    obtain ⟨t2, a1, b1⟩ := kx E ce q u t T'.heap (locs ++ L) e1.symm (by rw [← e2]; exact X'.warmed.alike) hp hb k1 k2 k3 (by rw [e1]; exact hce) hcv hcl T' rfl X'
    exact ⟨t2, st.trans a1, b1⟩
theorem vx_callf {S SX : Type} {post : UInt32 → S → Prop} {px : SX → Prop} {B : S → State → Prop} {BX : String → SX → State → Prop} {AX : Nat → Prop} (hr : vx_Run p l e R s m args below meth c H locs cells slots mc ms (F0 m pc ls st0) rest (va_Qf post B A1 a) (vx_X px BX AX) free) (hS : va_S A0 H0 H locs) (hA : ∀ q, q < H.size → A1 q → A0 q) (hf : ∀ q, free q → A0 q) (hAX : ∀ q, q < H.size → AX q → A0 q)
    (kx : ∀ (E : String) (ce : Cell) (q9 : Addr) (u : SX) (t : State) (H1 : Heap) (locs1 : List Loc), t.heap = H1 → s.vm.Alike t.vm → px u → BX E u t → H.size ≤ H1.size → (∀ q : Nat, q < H.size → ¬ AX q → H1[q]? = H[q]?) → va_S A0 H0 H1 locs1 → H1[q9]? = some ce → ce.vm = .none → s.vm.findClass E = some ce.cls → vx_W p l e R s m args below meth c H1 locs1 (cells + mc) (slots + ms) Q (F0 m pc ls rest) q9)
    (kk : ∀ (r : UInt32) (u : S) (t : State) (H1 : Heap) (locs1 : List Loc), t.heap = H1 → s.vm.Alike t.vm → post r u → B u t → H.size ≤ H1.size → (∀ q : Nat, q < H.size → ¬ A1 q → H1[q]? = H[q]?) → va_S A0 H0 H1 locs1 → W p l e R s m args below meth c H1 locs1 (cells + mc) (slots + ms) Q (F0 m (pc + 3) ls (.float r :: rest))) : W p l e R s m args below meth c H locs cells slots Q (F0 m pc ls st0) := by
  intro T hT X
  rcases hr T hT X with ⟨v, st₀, t, T', L, h0, X', hL, e1, e2, ⟨⟨r, u, hv, hp, hb⟩, hF⟩, st⟩ | ⟨q, st₀, t, T', L, E, ce, h0, X', hL, e1, e2, ⟨u, hp, hb, hF⟩, hce, hcv, hcl, st⟩
  · cases hv
    obtain ⟨k1, k2, k3⟩ := vx_keep h0 e1 hS hA hf hL hF
    obtain ⟨t2, a1, b1⟩ := kk r u t T'.heap (locs ++ L) e1.symm (by rw [← e2]; exact X'.warmed.alike) hp hb k1 k2 k3 T' rfl X'
    exact ⟨t2, st t2 a1, b1⟩
  · obtain ⟨k1, k2, k3⟩ := vx_keep h0 e1 hS hAX hf hL hF
    obtain ⟨t2, a1, b1⟩ := kx E ce q u t T'.heap (locs ++ L) e1.symm (by rw [← e2]; exact X'.warmed.alike) hp hb k1 k2 k3 (by rw [e1]; exact hce) hcv hcl T' rfl X'
    exact ⟨t2, st.trans a1, b1⟩
theorem vx_calld {S SX : Type} {post : UInt64 → S → Prop} {px : SX → Prop} {B : S → State → Prop} {BX : String → SX → State → Prop} {AX : Nat → Prop} (hr : vx_Run p l e R s m args below meth c H locs cells slots mc ms (F0 m pc ls st0) rest (va_Qd post B A1 a) (vx_X px BX AX) free) (hS : va_S A0 H0 H locs) (hA : ∀ q, q < H.size → A1 q → A0 q) (hf : ∀ q, free q → A0 q) (hAX : ∀ q, q < H.size → AX q → A0 q)
    (kx : ∀ (E : String) (ce : Cell) (q9 : Addr) (u : SX) (t : State) (H1 : Heap) (locs1 : List Loc), t.heap = H1 → s.vm.Alike t.vm → px u → BX E u t → H.size ≤ H1.size → (∀ q : Nat, q < H.size → ¬ AX q → H1[q]? = H[q]?) → va_S A0 H0 H1 locs1 → H1[q9]? = some ce → ce.vm = .none → s.vm.findClass E = some ce.cls → vx_W p l e R s m args below meth c H1 locs1 (cells + mc) (slots + ms) Q (F0 m pc ls rest) q9)
    (kk : ∀ (r : UInt64) (u : S) (t : State) (H1 : Heap) (locs1 : List Loc), t.heap = H1 → s.vm.Alike t.vm → post r u → B u t → H.size ≤ H1.size → (∀ q : Nat, q < H.size → ¬ A1 q → H1[q]? = H[q]?) → va_S A0 H0 H1 locs1 → W p l e R s m args below meth c H1 locs1 (cells + mc) (slots + ms) Q (F0 m (pc + 3) ls (.double r :: rest))) : W p l e R s m args below meth c H locs cells slots Q (F0 m pc ls st0) := by
  intro T hT X
  rcases hr T hT X with ⟨v, st₀, t, T', L, h0, X', hL, e1, e2, ⟨⟨r, u, hv, hp, hb⟩, hF⟩, st⟩ | ⟨q, st₀, t, T', L, E, ce, h0, X', hL, e1, e2, ⟨u, hp, hb, hF⟩, hce, hcv, hcl, st⟩
  · cases hv
    obtain ⟨k1, k2, k3⟩ := vx_keep h0 e1 hS hA hf hL hF
    obtain ⟨t2, a1, b1⟩ := kk r u t T'.heap (locs ++ L) e1.symm (by rw [← e2]; exact X'.warmed.alike) hp hb k1 k2 k3 T' rfl X'
    exact ⟨t2, st t2 a1, b1⟩
  · obtain ⟨k1, k2, k3⟩ := vx_keep h0 e1 hS hAX hf hL hF
    obtain ⟨t2, a1, b1⟩ := kx E ce q u t T'.heap (locs ++ L) e1.symm (by rw [← e2]; exact X'.warmed.alike) hp hb k1 k2 k3 (by rw [e1]; exact hce) hcv hcl T' rfl X'
    exact ⟨t2, st.trans a1, b1⟩
theorem vx_callv {S SX : Type} {post : S → Prop} {px : SX → Prop} {B : S → State → Prop} {BX : String → SX → State → Prop} {AX : Nat → Prop} (hr : vx_Run p l e R s m args below meth c H locs cells slots mc ms (F0 m pc ls st0) rest (va_Qv post B A1 a) (vx_X px BX AX) free) (hS : va_S A0 H0 H locs) (hA : ∀ q, q < H.size → A1 q → A0 q) (hf : ∀ q, free q → A0 q) (hAX : ∀ q, q < H.size → AX q → A0 q)
    (kx : ∀ (E : String) (ce : Cell) (q9 : Addr) (u : SX) (t : State) (H1 : Heap) (locs1 : List Loc), t.heap = H1 → s.vm.Alike t.vm → px u → BX E u t → H.size ≤ H1.size → (∀ q : Nat, q < H.size → ¬ AX q → H1[q]? = H[q]?) → va_S A0 H0 H1 locs1 → H1[q9]? = some ce → ce.vm = .none → s.vm.findClass E = some ce.cls → vx_W p l e R s m args below meth c H1 locs1 (cells + mc) (slots + ms) Q (F0 m pc ls rest) q9)
    (kk : ∀ (u : S) (t : State) (H1 : Heap) (locs1 : List Loc), t.heap = H1 → s.vm.Alike t.vm → post u → B u t → H.size ≤ H1.size → (∀ q : Nat, q < H.size → ¬ A1 q → H1[q]? = H[q]?) → va_S A0 H0 H1 locs1 → W p l e R s m args below meth c H1 locs1 (cells + mc) (slots + ms) Q (F0 m (pc + 3) ls (rest))) : W p l e R s m args below meth c H locs cells slots Q (F0 m pc ls st0) := by
  intro T hT X
  rcases hr T hT X with ⟨v, st₀, t, T', L, h0, X', hL, e1, e2, ⟨⟨u, hv, hp, hb⟩, hF⟩, st⟩ | ⟨q, st₀, t, T', L, E, ce, h0, X', hL, e1, e2, ⟨u, hp, hb, hF⟩, hce, hcv, hcl, st⟩
  · cases hv
    obtain ⟨k1, k2, k3⟩ := vx_keep h0 e1 hS hA hf hL hF
    obtain ⟨t2, a1, b1⟩ := kk u t T'.heap (locs ++ L) e1.symm (by rw [← e2]; exact X'.warmed.alike) hp hb k1 k2 k3 T' rfl X'
    exact ⟨t2, st t2 a1, b1⟩
  · obtain ⟨k1, k2, k3⟩ := vx_keep h0 e1 hS hAX hf hL hF
    obtain ⟨t2, a1, b1⟩ := kx E ce q u t T'.heap (locs ++ L) e1.symm (by rw [← e2]; exact X'.warmed.alike) hp hb k1 k2 k3 (by rw [e1]; exact hce) hcv hcl T' rfl X'
    exact ⟨t2, st.trans a1, b1⟩
/-- caught by the row x of this method's table; the rows ahead don't take it -/
theorem vx_catch {own name : String} {E : String} {ce : Cell} {q : Addr} (hown : s.vm.findClass own = some m.cls) (pre : List ExceptionTableEntry) (x : ExceptionTableEntry) (suf : List ExceptionTableEntry) (hsplit : c.exceptionTable.toList = pre ++ x :: suf)
    (hpass : ∀ z ∈ pre, covers z pc = false ∨ (z.catchType ≠ 0 ∧ ∃ nm : String, (Cond.classLink own z.catchType nm).before args s = true ∧ va_Nc E nm s)) (hx : covers x pc = true) (h0 : x.catchType ≠ 0)
    (hlink : (Cond.classLink own x.catchType name).before args s = true) (hcast : (Cond.castable E name).before args s = true) (hcell : H[q]? = some ce) (hv : ce.vm = .none) (hcl : s.vm.findClass E = some ce.cls)
    (kk : W p l e R s m args below meth c H locs cells slots Q (F0 m x.handlerPc ls [.ref q])) : vx_W p l e R s m args below meth c H locs cells slots Q (F0 m pc ls rest) q := by
  intro T hT X
  have hpl : e.platform.magicAccessors = ({} : Platform).magicAccessors := by rw [X.admits.platform]
  obtain ⟨c3, c4, hc3, hc4, hasg⟩ := Cond.castable_spec hcast
  cases Option.some.inj (hc3.symm.trans hcl)
  obtain ⟨c5, hc5, hcl5⟩ := Cond.classLink_spec hown hlink e.platform hpl
  cases Option.some.inj (hc4.symm.trans hc5)
  obtain ⟨vm', X', st⟩ := X.thenCaughtThrough q (g := F0 m pc ls rest) rfl (Steps.refl _) (by rw [hT]; exact hcell) (by rw [hv]; rfl) (by obtain ⟨k9, h9, -⟩ := Vm.findClass_spec hcl; exact ⟨k9, h9⟩) pre x suf hsplit
    (fun z hz => by
      rcases hpass z hz with h | ⟨hz0, nm, hl1, hn1⟩
      · exact Or.inl h
      · obtain ⟨c6, hc6, hcl6⟩ := Cond.classLink_spec hown hl1 e.platform hpl
        obtain ⟨a8, b8, h1, h2, h3⟩ := hn1
        cases Option.some.inj (h1.symm.trans hcl)
        cases Option.some.inj (h2.symm.trans hc6)
        exact Or.inr ⟨hz0, _, hcl6, h3⟩) hx (Or.inr ⟨h0, c4, hcl5, hasg⟩)
  obtain ⟨t, a1, b1⟩ := kk (T.setVm vm') hT X'
  exact ⟨t, st.trans a1, b1⟩
end Rows
section Ends
variable {p : Program} {l : Launch} {e : Env} {R : Room} {s : State} {m : MethodId} {args : Array Value} {below : List Frame} {meth : Method} {c : Code} {H : Heap} {locs : List Loc} {cells slots : Nat} {Q : State → Prop}
variable {mc ms : Nat} {free : Addr → Prop} {A0 A1 : Nat → Prop} {H0 : Heap} {a : Array Value} {ls : Array Slot} {st0 rest : List Value}
variable {Qc : Array Value → State → Outcome → State → Prop} {XC : String → State → State → Prop}
/-- what a body that may throw owes at its end -/
def vx_MQ (below : List Frame) (Qc : Array Value → State → Outcome → State → Prop) (XC : String → State → State → Prop) (a : Array Value) (s : State) (mc ms : Nat) (free : Addr → Prop) : State → Prop := fun t =>
  ∃ o, t.status = .running ∧ Ended t below o ∧ vx_Q Qc XC mc ms free a s o t
theorem vx_ret {g : JFrame} {mc ms : Nat} (k : W p l e R s m args below meth c H locs cells slots (MQ below Qc args s mc ms free) g) : W p l e R s m args below meth c H locs cells slots (vx_MQ below Qc XC args s mc ms free) g := by
  intro T hT X
  obtain ⟨t, a1, o, b1, b2, b3, b4⟩ := k T hT X
  exact ⟨t, a1, o, b1, b2, Or.inl ⟨b3, b4⟩⟩
/-- not caught here: it goes on to the caller -/
theorem vx_widen {g : JFrame} {q : Addr} {k n : Nat} (h1 : cells ≤ k) (h2 : slots ≤ n) (kk : vx_W p l e R s m args below meth c H locs k n Q g q) : vx_W p l e R s m args below meth c H locs cells slots Q g q := fun T hT X => kk T hT (stand_widen X h1 h2)
theorem vx_out {pc : Nat} {E : String} {ce : Cell} {q : Addr} {mc ms : Nat} (hout : ∀ x ∈ c.exceptionTable.toList, covers x pc = false) (hlocks : meth.locks = false) (hcell : H[q]? = some ce) (hv : ce.vm = .none) (hcl : s.vm.findClass E = some ce.cls)
    (hx : ∀ t : State, t.heap = H → s.vm.Alike t.vm → XC E s t) (hf : ∀ z ∈ locs, free z.base) (hc : cells ≤ mc) (hs : slots ≤ ms) :
    vx_W p l e R s m args below meth c H locs cells slots (vx_MQ below Qc XC args s mc ms free) (F0 m pc ls rest) q := by
  intro T hT X
  obtain ⟨st1, hrun, hend, hW, hsm⟩ := X.leaveThrown q (g := F0 m pc ls rest) rfl rfl rfl hout hlocks
  have hcell9 : (T.setFrames (.throwing q :: below)).heap[q]? = some ce := by
    show T.heap[q]? = some ce
    rw [hT]; exact hcell
  exact ⟨_, st1, .threw q, hrun, hend, Or.inr ⟨q, rfl, E, ce, locs, hx _ hT hW.alike, hcell9, hv, hcl, hW, hsm.mono hc hs, hf⟩⟩
theorem vx_frame {U : State} {k n : Nat} (h : s.sameButNew ({ U with vm := s.vm } : State) locs k n) : s.heap.size ≤ U.heap.size ∧ ∀ q : Nat, q < s.heap.size → (∀ z ∈ locs, z.base ≠ q) → U.heap[q]? = s.heap[q]? := by
  obtain ⟨-, h2, -, -, -, h6⟩ := h
  refine ⟨h2, fun q hq hz => ?_⟩
  obtain ⟨c9, e1, e2, e3, e4⟩ := h6 q _ (Array.getElem?_eq_getElem hq)
  have hs : c9.slots = (s.heap[q]).slots := Array.ext_getElem? fun i => e4 i fun hm => hz _ hm rfl
  have h9 : c9 = s.heap[q] := by
    rw [hs] at e2
    exact e2
  have e5 : U.heap[q]? = some c9 := e1
  rw [e5, h9, Array.getElem?_eq_getElem hq]
/-- the words of a throw but the four that speak of the heap -/
def vx_no (w : Cond) : Bool := decide (w ≠ .isRef (.static Bundle.tN "UNASSIGNED_STACK" Bundle.steD)) && decide (w ≠ .isRef (.static Bundle.tN "SUPPRESSED_SENTINEL" Bundle.listD)) && decide (w ≠ .laysStatic Bundle.tN "UNASSIGNED_STACK" Bundle.steD) && decide (w ≠ .laysStatic Bundle.tN "SUPPRESSED_SENTINEL" Bundle.listD)
def vx_at0 (own : String) (ic : Nat) (X : String) (names : List String) : List Cond := (Bundle.ownAtoms0 own ic X names).filter vx_no
def vx_atS (own : String) (ic : Nat) (X : String) (names : List String) : List Cond := (Bundle.ownAtoms own ic X names).filter vx_no
/-- a word that the tables alone decide, or a good one -/
def vx_ot (w : Cond) : Bool := w.onTables || goodWord w
theorem vx_ot_at {args a' : Array Value} {s U : State} {w : Cond} (hW : s.WarmedH U.vm) (hvm : s.vm = U.vm) (hg : vx_ot w = true) (h : w.before args s = true) : w.before a' U = true := by
  simp only [vx_ot, Bool.or_eq_true] at hg
  rcases hg with hg | hg
  · exact va_tabs hg hvm h
  · exact word_at hW (good_of_word hg) h
/-- a list's words: the good ones out of the method's own list, the others by premises of their own -/
theorem vx_hat {args : Array Value} {s : State} {L B : List Cond} (h1 : ∀ w ∈ L.filter goodWord, w.before args s = true) (h2 : ∀ w ∈ L.filter (fun w => !goodWord w), w ∈ B) (h3 : ∀ w ∈ B, w.before args s = true) : ∀ w ∈ L, w.before args s = true := by
  intro w hw
  by_cases g : goodWord w = true
  · exact h1 w (List.mem_filter.mpr ⟨hw, g⟩)
  · refine h3 w (h2 w (List.mem_filter.mpr ⟨hw, ?_⟩))
    show (!goodWord w) = true
    cases hgw : goodWord w
    · rfl
    · exact absurd hgw g
theorem vx_c {args : Array Value} {s : State} {w : Cond} {B : List Cond} (h : w.before args s = true) (t : ∀ w ∈ B, w.before args s = true) : ∀ w' ∈ w :: B, w'.before args s = true := fun w' h' => (List.mem_cons.mp h').elim (fun e => by rw [e]; exact h) (t w')
theorem vx_n {args : Array Value} {s : State} : ∀ w ∈ ([] : List Cond), w.before args s = true := fun _ h => nomatch h
theorem vx_own {args : Array Value} {s : State} {L : List Cond} (h1 : ∀ w ∈ L.filter vx_no, w.before args s = true)
    (hU : (Cond.isRef (.static Bundle.tN "UNASSIGNED_STACK" Bundle.steD)).before args s = true) (hN : (Cond.isRef (.static Bundle.tN "SUPPRESSED_SENTINEL" Bundle.listD)).before args s = true)
    (lU : (Cond.laysStatic Bundle.tN "UNASSIGNED_STACK" Bundle.steD).before args s = true) (lN : (Cond.laysStatic Bundle.tN "SUPPRESSED_SENTINEL" Bundle.listD).before args s = true) : ∀ w ∈ L, w.before args s = true := by
  intro w hw
  by_cases e1 : w = .isRef (.static Bundle.tN "UNASSIGNED_STACK" Bundle.steD)
  · rw [e1]; exact hU
  · by_cases e2 : w = .isRef (.static Bundle.tN "SUPPRESSED_SENTINEL" Bundle.listD)
    · rw [e2]; exact hN
    · by_cases e3 : w = .laysStatic Bundle.tN "UNASSIGNED_STACK" Bundle.steD
      · rw [e3]; exact lU
      · by_cases e4 : w = .laysStatic Bundle.tN "SUPPRESSED_SENTINEL" Bundle.listD
        · rw [e4]; exact lN
        · exact h1 w (List.mem_filter.mpr ⟨hw, by unfold vx_no; rw [decide_eq_true e1, decide_eq_true e2, decide_eq_true e3, decide_eq_true e4]; rfl⟩)
/-- where a static field lies, its class's statics cell in H -/
def vx_L (C n d : String) (A : Nat → Prop) (U : State) (H : Heap) : Prop := ∃ (c : ClassId) (k : Class) (i : Nat) (f : Field) (a : Nat) (cell : Cell), U.vm.findClass C = some c ∧ U.fieldFound? C n d = some (c, k, i, f) ∧ f.isStatic = true ∧ k.statics = some a ∧ H[a]? = some cell ∧ cell.vm.isStatics = true ∧ cell.cls = c ∧ f.slot < cell.slots.size ∧ k.staticTypes[f.slot]? = some f.type ∧ ¬ A a
theorem vx_L.moved {C n d : String} {A : Nat → Prop} {u U : State} {H : Heap} (hvm : u.vm.Alike U.vm) (h : vx_L C n d A u H) : vx_L C n d A U H := by
  obtain ⟨c, k, i, f, a, cell, h1, h2, h3, h4, h5, h6, h7, h8, h9, h10⟩ := h
  obtain ⟨k', hi', he⟩ := State.fieldFound?_setVm hvm h2
  exact ⟨c, k', i, f, a, cell, by rw [hvm.findClass]; exact h1, hi', h3, by rw [he]; exact h4, h5, h6, h7, h8, by rw [he]; exact h9, h10⟩
theorem vx_L.kept {C n d : String} {A : Nat → Prop} {U : State} {H H1 : Heap} (h : vx_L C n d A U H) (hq : ∀ a : Nat, a < H.size → ¬ A a → H1[a]? = H[a]?) : vx_L C n d A U H1 := by
  obtain ⟨c, k, i, f, a, cell, h1, h2, h3, h4, h5, h6, h7, h8, h9, h10⟩ := h
  exact ⟨c, k, i, f, a, cell, h1, h2, h3, h4, by rw [hq a (Array.getElem?_eq_some_iff.mp h5).1 h10]; exact h5, h6, h7, h8, h9, h10⟩
theorem vx_L.narrow {C n d : String} {A B : Nat → Prop} {U : State} {H : Heap} (h : vx_L C n d A U H) (hAB : ∀ q, B q → A q) : vx_L C n d B U H := by
  obtain ⟨c, k, i, f, a, cell, h1, h2, h3, h4, h5, h6, h7, h8, h9, h10⟩ := h
  exact ⟨c, k, i, f, a, cell, h1, h2, h3, h4, h5, h6, h7, h8, h9, fun z => h10 (hAB _ z)⟩
theorem vx_L.word {C n d : String} {A : Nat → Prop} {s : State} {args : Array Value} (h : vx_L C n d A s s.heap) : (Cond.laysStatic C n d).before args s = true := by
  obtain ⟨c, k, i, f, a, cell, h1, h2, h3, h4, h5, h6, h7, h8, h9, -⟩ := h
  show (Cond.laysStatic C n d).holds args s none s [] = true
  exact Cond.laysStatic_of h1 h2 h3 h4 h5 h6 h7 h8 h9
/-- .. and what it holds: null or some reference -/
def vx_Zq (C n d : String) (A : Nat → Prop) (U : State) (H : Heap) : Prop := va_Zq C n d A U H ∧ vx_L C n d A U H
theorem vx_Zq.moved {C n d : String} {A : Nat → Prop} {u U : State} {H : Heap} (hvm : u.vm.Alike U.vm) (h : vx_Zq C n d A u H) : vx_Zq C n d A U H := ⟨va_Zq.moved hvm h.1, vx_L.moved hvm h.2⟩
theorem vx_Zq.kept {C n d : String} {A : Nat → Prop} {U : State} {H H1 : Heap} (h : vx_Zq C n d A U H) (hq : ∀ a : Nat, a < H.size → ¬ A a → H1[a]? = H[a]?) : vx_Zq C n d A U H1 := ⟨va_Zq.kept h.1 hq, vx_L.kept h.2 hq⟩
theorem vx_Zq.narrow {C n d : String} {A B : Nat → Prop} {U : State} {H : Heap} (h : vx_Zq C n d A U H) (hAB : ∀ q, B q → A q) : vx_Zq C n d B U H := ⟨va_Zq.narrow h.1 hAB, vx_L.narrow h.2 hAB⟩
theorem vx_Zqof {args : Array Value} {s : State} {C n d : String} {A : Nat → Prop} (hl : (Cond.laysStatic C n d).before args s = true) (hini : (Cond.initialized C).before args s = true) (h : (Cond.isRef (.static C n d)).before args s = true) (hA : ∀ a : Nat, a < s.heap.size → ¬ A a) : vx_Zq C n d A s s.heap := by
  refine ⟨va_Zqof hl hini h hA, ?_⟩
  obtain ⟨c, k, i, f, a, cell, h1, h2, h3, h4, h5, h6, h7, h8, h9⟩ := Cond.laysStatic_spec hl
  exact ⟨c, k, i, f, a, cell, h1, h2, h3, h4, h5, h6, h7, h8, h9, hA a (Array.getElem?_eq_some_iff.mp h5).1⟩
theorem vx_isRef {C n d : String} {v : Value} {A : Nat → Prop} {s : State} {args : Array Value} (h : va_Z C n d v A s s.heap) (hv : v.isRef = true) : (Cond.isRef (.static C n d)).before args s = true := by
  obtain ⟨cf, kf, fi, f, a, cell, h1, h2, h3, h4, h5, h6, h7, -⟩ := h
  have he : (Term.static C n d).eval args s none [] s = some v := by
    simp [Term.eval, State.fieldNamed?, h1, h2, h4, h5, h6, h7]
  simp only [Cond.before, Cond.holds, Cond.value, he]
  cases v <;> simp_all [Value.isRef]
theorem vx_isRefq {C n d : String} {A : Nat → Prop} {s : State} {args : Array Value} (h : va_Zq C n d A s s.heap) : (Cond.isRef (.static C n d)).before args s = true := by
  rcases h with h | ⟨t, h⟩
  · exact vx_isRef h rfl
  · exact vx_isRef h rfl
/-- the same frame, seen from here: as if the method were called anew in this heap -/
theorem vx_rebase {T : State} (X : Stand p l e R s m args below meth c T locs cells slots) {R' : Room} (hf : R'.frames ≤ R.frames) (hl : R'.locals ≤ R.locals) (hc : cells + R'.cells ≤ R.cells) (hs : slots + R'.slots ≤ R.slots) :
    Stand p l e R' ((T.setVm s.vm).setFrames (.invoking m args :: below)) m args below meth c T [] 0 0 := by
  have htop : (T.setVm s.vm).topJava?.isSome := X.here.top
  have hF : ((T.setVm s.vm).setFrames (.invoking m args :: below)).frames = .invoking m args :: below := State.frames_setFrames _ (State.cur_lt_of_top htop)
  obtain ⟨g₀, hg0⟩ := Option.isSome_iff_exists.mp htop
  obtain ⟨r, hr⟩ := State.topJava?_eq_some.mp hg0
  have hl9 : e.platform.stackLimits (T.setVm s.vm).me = e.platform.stackLimits s.me := X.limits
  have hb9 : (T.setVm s.vm).me.stackBytes = s.me.stackBytes := X.bytes
  refine ⟨X.admits, X.cas, X.clock, hF, ?_, X.hears, X.method, X.code, X.here, X.tail, X.warmed, ?_, ?_, ?_⟩
  · have h := X.room
    have hU : ((T.setVm s.vm).setFrames (.invoking m args :: below)).localsInUse = s.localsInUse := by
      rw [State.localsInUse_invoking hF (meth := meth) (c := c) X.method X.code, State.localsInUse_invoking X.frames X.method X.code]
    simp only [State.hasRoom, Bool.and_eq_true, decide_eq_true_eq] at h ⊢
    obtain ⟨⟨⟨⟨h1, h2, h3, h4, h5, h6⟩, h7⟩, h8⟩, h9⟩ := h
    rw [X.frames, List.length_cons] at h2 h3
    have q1 := X.heapSize
    have q2 := X.used
    simp only [hF, hU, List.length_cons, State.stackLimits_setFrames, State.stackBytes_setFrames, hl9, hb9]
    refine ⟨⟨⟨⟨by omega, by omega, by omega, by omega, by omega, h6⟩, ?_⟩, ?_⟩, X.book⟩
    · show T.heap.size + R'.cells ≤ e.platform.maxCells
      omega
    · show T.slotsUsed + R'.slots ≤ e.platform.maxSlots
      omega
  · rw [State.stackLimits_setFrames]; rfl
  · rw [State.stackBytes_setFrames]; rfl
  · refine ⟨?_, Nat.le_refl _, Nat.le_refl _, ?_, ?_, fun a c9 h9 => ⟨c9, h9, rfl, rfl, fun _ _ => rfl⟩⟩
    · obtain ⟨t, ht, -⟩ := State.frames_cons hr
      show T.setVm s.vm = { ((T.setVm s.vm).setFrames (.invoking m args :: below)).setFrames (T.setVm s.vm).frames with heap := T.heap, slotsUsed := T.slotsUsed }
      rw [State.setFrames_setFrames, State.setFrames_self ht]
      rfl
    · show T.slotsUsed = T.slotsUsed + ((T.heap.toList.drop T.heap.size).map (·.slots.size)).sum
      rw [List.drop_eq_nil_of_le (Nat.le_of_eq Array.length_toList)]
      rfl
    · show ((T.heap.toList.drop T.heap.size).map (·.slots.size)).sum ≤ 0
      rw [List.drop_eq_nil_of_le (Nat.le_of_eq Array.length_toList)]
      exact Nat.le_refl _
/-- 'throw new E()': new; dup; invokespecial; athrow -/
theorem vx_throw0 {cc : ByteArray} {pc : Nat} (hexec : p.tables.exec = Jvm.exec) (hb : c.code = cc) (hl : l.stackTraces = false) {own cls : String} {names : List String} {ik ic mc ms : Nat} {A : Nat → Prop}
    (hown : s.vm.findClass own = some m.cls) (hcls : Bundle.fit cls = true) (hnames : ∀ n ∈ names, Bundle.fit n = true)
    (hk : (Cond.classLink own ik cls).before args s = true) (hini : (Cond.initialized cls).before args s = true) (hat : ∀ w ∈ vx_at0 own ic cls names, w.before args s = true)
    (hgood : ∀ w ∈ Cond.classLink own ik cls :: Cond.initialized cls :: vx_at0 own ic cls names, vx_ot w = true)
    (hU : vx_Zq Bundle.tN "UNASSIGNED_STACK" Bundle.steD A s s.heap) (hN : vx_Zq Bundle.tN "SUPPRESSED_SENTINEL" Bundle.listD A s s.heap) (hS : va_S A s.heap H locs) (hsize : ls.size = c.maxLocals)
    (d0 : decode cc pc = .ok (.new ik, 3)) (d3 : decode cc (pc + 3) = .ok (.dup, 1)) (d4 : decode cc (pc + 4) = .ok (.invokespecial ic, 3)) (d7 : decode cc (pc + 7) = .ok (.athrow, 1))
    (hout : ∀ x ∈ c.exceptionTable.toList, covers x (pc + 7) = false)
    (hRframes : names.length + 3 < R.frames) (hRlocals : (rest.map fun v => v.category).sum + (13 * (names.length + 1) + 42) ≤ R.locals) (hRcells : cells + 1 ≤ R.cells) (hRslots : slots + 6 ≤ R.slots) (hlocks : meth.locks = false)
    (hx : ∀ t : State, s.vm.Alike t.vm → H.size ≤ t.heap.size → (∀ q : Nat, q < H.size → t.heap[q]? = H[q]?) → XC cls s t)
    (hf : ∀ z ∈ locs, free z.base) (hc : cells + 1 ≤ mc) (hs : slots + 6 ≤ ms) :
    W p l e R s m args below meth c H locs cells slots (vx_MQ below Qc XC args s mc ms free) (F0 m pc ls rest) := by
  intro T hT X
  have htr : e.platform.stackTraces = false := (show e.platform.stackTraces = l.stackTraces by rw [X.admits.platform]).trans hl
  have Y := vx_rebase X (R' := { frames := R.frames, locals := R.locals, cells := 1, slots := 6 }) (Nat.le_refl _) (Nat.le_refl _) hRcells hRslots
  obtain ⟨s', hA⟩ : ∃ z, z = (T.setVm s.vm).setFrames (.invoking m args :: below) := ⟨_, rfl⟩
  rw [← hA] at Y
  have hvm : s'.vm = s.vm := by rw [hA]; rfl
  have hhp : s'.heap = H := by rw [hA]; exact hT
  have hW0 : s.WarmedH s'.vm := by rw [hvm]; exact State.WarmedH.refl s
  have hat' : ∀ w ∈ vx_at0 own ic cls names, w.before args s' = true := fun w hw => vx_ot_at hW0 hvm.symm (hgood w (List.mem_cons_of_mem _ (List.mem_cons_of_mem _ hw))) (hat w hw)
  have hk' : (Cond.classLink own ik cls).before args s' = true := vx_ot_at hW0 hvm.symm (hgood _ List.mem_cons_self) hk
  have hini' : (Cond.initialized cls).before args s' = true := vx_ot_at hW0 hvm.symm (hgood _ (List.mem_cons_of_mem _ List.mem_cons_self)) hini
  have hU' : vx_Zq Bundle.tN "UNASSIGNED_STACK" Bundle.steD A s' s'.heap := by rw [hhp]; exact vx_Zq.moved hW0.alike (hU.kept hS.2.1)
  have hN' : vx_Zq Bundle.tN "SUPPRESSED_SENTINEL" Bundle.listD A s' s'.heap := by rw [hhp]; exact vx_Zq.moved hW0.alike (hN.kept hS.2.1)
  have h : ∀ w ∈ Bundle.ownAtoms0 own ic cls names, w.before args s' = true := vx_own hat' (vx_isRefq hU'.1) (vx_isRefq hN'.1) hU'.2.word hN'.2.word
  have hown' : s'.vm.findClass own = some m.cls := by rw [hvm]; exact hown
  have hins : (Cond.instantiable cls 6).before args s' = true := h _ (by simp [Bundle.ownAtoms0])
  obtain ⟨vm₁, cX, kX, hfX, hkX, -, -, X₁, st1⟩ := Y.newCold hexec (own := own) (C := cls) (index := ik) (n := 6) hown' hk' hins hini'
    (g := F0 m pc ls rest) rfl (by rw [hb]; exact d0) (Nat.le_refl _) (Nat.le_refl _)
  generalize hT1 : (T.setVm vm₁).pushCell { cls := cX, slots := kX.instanceTypes.map defaultValue, vm := .none } = T1 at X₁ st1
  have hcat : (Value.ref T.heap.size).category = 1 := rfl
  have hcellA : T1.heap[T.heap.size]? = some (freshCell cX kX) := by rw [← hT1]; exact State.heap_pushCell_size _ _
  have d3' : decode c.code (pc + 3) = .ok (.dup, 1) := by rw [hb]; exact d3
  obtain ⟨U, hsteps, hrun, hend, hW, hsame, ce, hce, hO⟩ := X₁.ctorThrow0 hexec htr (own := own) (cls := cls) (names := names) (ic := ic) hown' hcls hnames h (fun x hx => nomatch hx) hfX hkX hcellA (by rw [hhp, hT]; exact Nat.le_refl _)
    (g := { method := m, pc := pc + 4, locals := ls, stack := .ref T.heap.size :: .ref T.heap.size :: rest, locked := none }) rfl hsize rfl rfl (rest := rest) rfl
    (by rw [hb]; exact d4) (by rw [hb]; exact d7) hout hRframes (by simp only [List.map_cons, List.sum_cons, hcat]; omega) hlocks
  obtain ⟨f1, f2⟩ := vx_frame hsame
  rw [hhp] at f1 f2
  have hWs : s.WarmedH U.vm := State.WarmedH.trans hW0 hW
  have hcl : s.vm.findClass cls = some ce.cls := by
    have h9 := hO.cls
    rw [hvm] at h9
    exact h9
  have hall : s.sameButNew ({ U with vm := s.vm } : State) locs mc ms := by
    subst hA
    obtain ⟨e1, e2⟩ := hsame
    rw [State.setFrames_setFrames] at e1
    have h2 : (T.setVm s.vm).sameButNew ({ U with vm := s.vm } : State) [] (0 + 1) (0 + 6) := ⟨e1, e2⟩
    have h3 := X.same.trans h2
    rw [List.append_nil] at h3
    exact h3.mono hc hs
  refine ⟨U, ?_, .threw T.heap.size, hrun, hend, Or.inr ⟨T.heap.size, rfl, cls, ce, locs, hx U hWs.alike f1 (fun q hq => f2 q hq (fun z hz => nomatch hz)), hce, hO.vm, hcl, hWs, hall, hf⟩⟩
  refine st1 _ ?_
  show Steps p.tables e below (T1.setTop { method := m, pc := pc + 3, locals := ls, stack := .ref T.heap.size :: rest, locked := none }) _
  jvm_step X₁.here [X₁.here.top, hexec, d3', Value.category]
  exact hsteps
/-- 'throw new E("text")': new; dup; ldc; invokespecial; athrow -/
theorem vx_throwS {cc : ByteArray} {pc : Nat} (hexec : p.tables.exec = Jvm.exec) (hb : c.code = cc) (hl : l.stackTraces = false) {own cls text : String} {names : List String} {ik is ic mc ms sa : Nat} {A : Nat → Prop}
    (hown : s.vm.findClass own = some m.cls) (hcls : Bundle.fit cls = true) (hnames : ∀ n ∈ names, Bundle.fit n = true)
    (hk : (Cond.classLink own ik cls).before args s = true) (hini : (Cond.initialized cls).before args s = true) (hstr : vk_R own is text sa s) (hat : ∀ w ∈ vx_atS own ic cls names, w.before args s = true)
    (hgood : ∀ w ∈ Cond.classLink own ik cls :: Cond.initialized cls :: vx_atS own ic cls names, vx_ot w = true)
    (hU : vx_Zq Bundle.tN "UNASSIGNED_STACK" Bundle.steD A s s.heap) (hN : vx_Zq Bundle.tN "SUPPRESSED_SENTINEL" Bundle.listD A s s.heap) (hS : va_S A s.heap H locs) (hsize : ls.size = c.maxLocals)
    (d0 : decode cc pc = .ok (.new ik, 3)) (d3 : decode cc (pc + 3) = .ok (.dup, 1)) (d4 : decode cc (pc + 4) = .ok (.ldc is, 2)) (d6 : decode cc (pc + 6) = .ok (.invokespecial ic, 3)) (d9 : decode cc (pc + 9) = .ok (.athrow, 1))
    (hout : ∀ x ∈ c.exceptionTable.toList, covers x (pc + 9) = false)
    (hRframes : names.length + 3 < R.frames) (hRlocals : (rest.map fun v => v.category).sum + (13 * (names.length + 1) + 43) ≤ R.locals) (hRcells : cells + 1 ≤ R.cells) (hRslots : slots + 6 ≤ R.slots) (hlocks : meth.locks = false)
    (hx : ∀ t : State, s.vm.Alike t.vm → H.size ≤ t.heap.size → (∀ q : Nat, q < H.size → t.heap[q]? = H[q]?) → XC cls s t)
    (hf : ∀ z ∈ locs, free z.base) (hc : cells + 1 ≤ mc) (hs : slots + 6 ≤ ms) :
    W p l e R s m args below meth c H locs cells slots (vx_MQ below Qc XC args s mc ms free) (F0 m pc ls rest) := by
  intro T hT X
  have htr : e.platform.stackTraces = false := (show e.platform.stackTraces = l.stackTraces by rw [X.admits.platform]).trans hl
  have Y := vx_rebase X (R' := { frames := R.frames, locals := R.locals, cells := 1, slots := 6 }) (Nat.le_refl _) (Nat.le_refl _) hRcells hRslots
  obtain ⟨s', hA⟩ : ∃ z, z = (T.setVm s.vm).setFrames (.invoking m args :: below) := ⟨_, rfl⟩
  rw [← hA] at Y
  have hvm : s'.vm = s.vm := by rw [hA]; rfl
  have hhp : s'.heap = H := by rw [hA]; exact hT
  have hW0 : s.WarmedH s'.vm := by rw [hvm]; exact State.WarmedH.refl s
  have hat' : ∀ w ∈ vx_atS own ic cls names, w.before args s' = true := fun w hw => vx_ot_at hW0 hvm.symm (hgood w (List.mem_cons_of_mem _ (List.mem_cons_of_mem _ hw))) (hat w hw)
  have hk' : (Cond.classLink own ik cls).before args s' = true := vx_ot_at hW0 hvm.symm (hgood _ List.mem_cons_self) hk
  have hini' : (Cond.initialized cls).before args s' = true := vx_ot_at hW0 hvm.symm (hgood _ (List.mem_cons_of_mem _ List.mem_cons_self)) hini
  have hU' : vx_Zq Bundle.tN "UNASSIGNED_STACK" Bundle.steD A s' s'.heap := by rw [hhp]; exact vx_Zq.moved hW0.alike (hU.kept hS.2.1)
  have hN' : vx_Zq Bundle.tN "SUPPRESSED_SENTINEL" Bundle.listD A s' s'.heap := by rw [hhp]; exact vx_Zq.moved hW0.alike (hN.kept hS.2.1)
  have h : ∀ w ∈ Bundle.ownAtoms own ic cls names, w.before args s' = true := vx_own hat' (vx_isRefq hU'.1) (vx_isRefq hN'.1) hU'.2.word hN'.2.word
  have hown' : s'.vm.findClass own = some m.cls := by rw [hvm]; exact hown
  have hins : (Cond.instantiable cls 6).before args s' = true := h _ (by simp [Bundle.ownAtoms])
  obtain ⟨vm₁, cX, kX, hfX, hkX, -, -, X₁, st1⟩ := Y.newCold hexec (own := own) (C := cls) (index := ik) (n := 6) hown' hk' hins hini'
    (g := F0 m pc ls rest) rfl (by rw [hb]; exact d0) (Nat.le_refl _) (Nat.le_refl _)
  generalize hT1 : (T.setVm vm₁).pushCell { cls := cX, slots := kX.instanceTypes.map defaultValue, vm := .none } = T1 at X₁ st1
  have hcat : (Value.ref T.heap.size).category = 1 := rfl
  have hcellA : T1.heap[T.heap.size]? = some (freshCell cX kX) := by rw [← hT1]; exact State.heap_pushCell_size _ _
  have d3' : decode c.code (pc + 3) = .ok (.dup, 1) := by rw [hb]; exact d3
  have d4' : decode c.code (pc + 4) = .ok (.ldc is, 2) := by rw [hb]; exact d4
  have hstr' : vk_R own is text sa s' := vk_R.warm hW0 hstr
  obtain ⟨U, hsteps, hrun, hend, hW, hsame, ce, hce, hO⟩ := X₁.ctorThrowS hexec htr (own := own) (cls := cls) (names := names) (ic := ic) hown' hcls hnames h (fun x hx => nomatch hx) hfX hkX hcellA (by rw [hhp, hT]; exact Nat.le_refl _) (msg := .ref sa) rfl
    (g := { method := m, pc := pc + 6, locals := ls, stack := .ref sa :: .ref T.heap.size :: .ref T.heap.size :: rest, locked := none }) rfl hsize rfl rfl (rest := rest) rfl
    (by rw [hb]; exact d6) (by rw [hb]; exact d9) hout hRframes (by simp only [List.map_cons, List.sum_cons, hcat]; omega) hlocks
  obtain ⟨f1, f2⟩ := vx_frame hsame
  rw [hhp] at f1 f2
  have hWs : s.WarmedH U.vm := State.WarmedH.trans hW0 hW
  have hcl : s.vm.findClass cls = some ce.cls := by
    have h9 := hO.cls
    rw [hvm] at h9
    exact h9
  have hall : s.sameButNew ({ U with vm := s.vm } : State) locs mc ms := by
    subst hA
    obtain ⟨e1, e2⟩ := hsame
    rw [State.setFrames_setFrames] at e1
    have h2 : (T.setVm s.vm).sameButNew ({ U with vm := s.vm } : State) [] (0 + 1) (0 + 6) := ⟨e1, e2⟩
    have h3 := X.same.trans h2
    rw [List.append_nil] at h3
    exact h3.mono hc hs
  refine ⟨U, ?_, .threw T.heap.size, hrun, hend, Or.inr ⟨T.heap.size, rfl, cls, ce, locs, hx U hWs.alike f1 (fun q hq => f2 q hq (fun z hz => nomatch hz)), hce, hO.vm, hcl, hWs, hall, hf⟩⟩
  refine st1 _ ?_
  show Steps p.tables e below (T1.setTop { method := m, pc := pc + 3, locals := ls, stack := .ref T.heap.size :: rest, locked := none }) _
  jvm_step X₁.here [X₁.here.top, hexec, d3', Value.category]
  exact X₁.ldcString hexec (own := own) (text := text) (index := is) (a := sa) hown' hstr'.1 hstr'.2
    (g := { method := m, pc := pc + 4, locals := ls, stack := .ref T.heap.size :: .ref T.heap.size :: rest, locked := none }) rfl d4' _ hsteps
/-- 'throw new E("text")', the text by a wide index -/
theorem vx_throwSW {cc : ByteArray} {pc : Nat} (hexec : p.tables.exec = Jvm.exec) (hb : c.code = cc) (hl : l.stackTraces = false) {own cls text : String} {names : List String} {ik is ic mc ms sa : Nat} {A : Nat → Prop}
    (hown : s.vm.findClass own = some m.cls) (hcls : Bundle.fit cls = true) (hnames : ∀ n ∈ names, Bundle.fit n = true)
    (hk : (Cond.classLink own ik cls).before args s = true) (hini : (Cond.initialized cls).before args s = true) (hstr : vk_R own is text sa s) (hat : ∀ w ∈ vx_atS own ic cls names, w.before args s = true)
    (hgood : ∀ w ∈ Cond.classLink own ik cls :: Cond.initialized cls :: vx_atS own ic cls names, vx_ot w = true)
    (hU : vx_Zq Bundle.tN "UNASSIGNED_STACK" Bundle.steD A s s.heap) (hN : vx_Zq Bundle.tN "SUPPRESSED_SENTINEL" Bundle.listD A s s.heap) (hS : va_S A s.heap H locs) (hsize : ls.size = c.maxLocals)
    (d0 : decode cc pc = .ok (.new ik, 3)) (d3 : decode cc (pc + 3) = .ok (.dup, 1)) (d4 : decode cc (pc + 4) = .ok (.ldc_w is, 3)) (d7 : decode cc (pc + 7) = .ok (.invokespecial ic, 3)) (d10 : decode cc (pc + 10) = .ok (.athrow, 1))
    (hout : ∀ x ∈ c.exceptionTable.toList, covers x (pc + 10) = false)
    (hRframes : names.length + 3 < R.frames) (hRlocals : (rest.map fun v => v.category).sum + (13 * (names.length + 1) + 43) ≤ R.locals) (hRcells : cells + 1 ≤ R.cells) (hRslots : slots + 6 ≤ R.slots) (hlocks : meth.locks = false)
    (hx : ∀ t : State, s.vm.Alike t.vm → H.size ≤ t.heap.size → (∀ q : Nat, q < H.size → t.heap[q]? = H[q]?) → XC cls s t)
    (hf : ∀ z ∈ locs, free z.base) (hc : cells + 1 ≤ mc) (hs : slots + 6 ≤ ms) :
    W p l e R s m args below meth c H locs cells slots (vx_MQ below Qc XC args s mc ms free) (F0 m pc ls rest) := by
  intro T hT X
  have htr : e.platform.stackTraces = false := (show e.platform.stackTraces = l.stackTraces by rw [X.admits.platform]).trans hl
  have Y := vx_rebase X (R' := { frames := R.frames, locals := R.locals, cells := 1, slots := 6 }) (Nat.le_refl _) (Nat.le_refl _) hRcells hRslots
  obtain ⟨s', hA⟩ : ∃ z, z = (T.setVm s.vm).setFrames (.invoking m args :: below) := ⟨_, rfl⟩
  rw [← hA] at Y
  have hvm : s'.vm = s.vm := by rw [hA]; rfl
  have hhp : s'.heap = H := by rw [hA]; exact hT
  have hW0 : s.WarmedH s'.vm := by rw [hvm]; exact State.WarmedH.refl s
  have hat' : ∀ w ∈ vx_atS own ic cls names, w.before args s' = true := fun w hw => vx_ot_at hW0 hvm.symm (hgood w (List.mem_cons_of_mem _ (List.mem_cons_of_mem _ hw))) (hat w hw)
  have hk' : (Cond.classLink own ik cls).before args s' = true := vx_ot_at hW0 hvm.symm (hgood _ List.mem_cons_self) hk
  have hini' : (Cond.initialized cls).before args s' = true := vx_ot_at hW0 hvm.symm (hgood _ (List.mem_cons_of_mem _ List.mem_cons_self)) hini
  have hU' : vx_Zq Bundle.tN "UNASSIGNED_STACK" Bundle.steD A s' s'.heap := by rw [hhp]; exact vx_Zq.moved hW0.alike (hU.kept hS.2.1)
  have hN' : vx_Zq Bundle.tN "SUPPRESSED_SENTINEL" Bundle.listD A s' s'.heap := by rw [hhp]; exact vx_Zq.moved hW0.alike (hN.kept hS.2.1)
  have h : ∀ w ∈ Bundle.ownAtoms own ic cls names, w.before args s' = true := vx_own hat' (vx_isRefq hU'.1) (vx_isRefq hN'.1) hU'.2.word hN'.2.word
  have hown' : s'.vm.findClass own = some m.cls := by rw [hvm]; exact hown
  have hins : (Cond.instantiable cls 6).before args s' = true := h _ (by simp [Bundle.ownAtoms])
  obtain ⟨vm₁, cX, kX, hfX, hkX, -, -, X₁, st1⟩ := Y.newCold hexec (own := own) (C := cls) (index := ik) (n := 6) hown' hk' hins hini'
    (g := F0 m pc ls rest) rfl (by rw [hb]; exact d0) (Nat.le_refl _) (Nat.le_refl _)
  generalize hT1 : (T.setVm vm₁).pushCell { cls := cX, slots := kX.instanceTypes.map defaultValue, vm := .none } = T1 at X₁ st1
  have hcat : (Value.ref T.heap.size).category = 1 := rfl
  have hcellA : T1.heap[T.heap.size]? = some (freshCell cX kX) := by rw [← hT1]; exact State.heap_pushCell_size _ _
  have d3' : decode c.code (pc + 3) = .ok (.dup, 1) := by rw [hb]; exact d3
  have d4' : decode c.code (pc + 4) = .ok (.ldc_w is, 3) := by rw [hb]; exact d4
  have hstr' : vk_R own is text sa s' := vk_R.warm hW0 hstr
  obtain ⟨U, hsteps, hrun, hend, hW, hsame, ce, hce, hO⟩ := X₁.ctorThrowS hexec htr (own := own) (cls := cls) (names := names) (ic := ic) hown' hcls hnames h (fun x hx => nomatch hx) hfX hkX hcellA (by rw [hhp, hT]; exact Nat.le_refl _) (msg := .ref sa) rfl
    (g := { method := m, pc := pc + 7, locals := ls, stack := .ref sa :: .ref T.heap.size :: .ref T.heap.size :: rest, locked := none }) rfl hsize rfl rfl (rest := rest) rfl
    (by rw [hb]; exact d7) (by rw [hb]; exact d10) hout hRframes (by simp only [List.map_cons, List.sum_cons, hcat]; omega) hlocks
  obtain ⟨f1, f2⟩ := vx_frame hsame
  rw [hhp] at f1 f2
  have hWs : s.WarmedH U.vm := State.WarmedH.trans hW0 hW
  have hcl : s.vm.findClass cls = some ce.cls := by
    have h9 := hO.cls
    rw [hvm] at h9
    exact h9
  have hall : s.sameButNew ({ U with vm := s.vm } : State) locs mc ms := by
    subst hA
    obtain ⟨e1, e2⟩ := hsame
    rw [State.setFrames_setFrames] at e1
    have h2 : (T.setVm s.vm).sameButNew ({ U with vm := s.vm } : State) [] (0 + 1) (0 + 6) := ⟨e1, e2⟩
    have h3 := X.same.trans h2
    rw [List.append_nil] at h3
    exact h3.mono hc hs
  refine ⟨U, ?_, .threw T.heap.size, hrun, hend, Or.inr ⟨T.heap.size, rfl, cls, ce, locs, hx U hWs.alike f1 (fun q hq => f2 q hq (fun z hz => nomatch hz)), hce, hO.vm, hcl, hWs, hall, hf⟩⟩
  refine st1 _ ?_
  show Steps p.tables e below (T1.setTop { method := m, pc := pc + 3, locals := ls, stack := .ref T.heap.size :: rest, locked := none }) _
  jvm_step X₁.here [X₁.here.top, hexec, d3', Value.category]
  exact X₁.ldcStringW hexec (own := own) (text := text) (index := is) (a := sa) hown' hstr'.1 hstr'.2
    (g := { method := m, pc := pc + 4, locals := ls, stack := .ref T.heap.size :: .ref T.heap.size :: rest, locked := none }) rfl d4' _ hsteps
end Ends
section Bodies
variable {l : Launch}
theorem vx_ofW {y : MethodName} {ws ws' : List Cond} {rm : Room} {Pc : Array Value → State → Prop} {Qc : Array Value → State → Outcome → State → Prop} {XC : String → State → State → Prop} {mc ms : Nat} {free : Addr → Prop} {cc : ByteArray} {maxL : Nat} {ret : Option FieldType}
    (hy : plainName y.cls = true) (hw : ws = Cond.code y cc maxL ret :: ws')
    (body : ∀ p e s m args below meth c s₁, BodyLoose p l y (headSpec ws rm) cc maxL ret e s m args below meth c s₁ → c.maxLocals = maxL → (∀ x ∈ c.exceptionTable.toList, False) → Pc args s →
      W p l e (headSpec ws rm).room s m args below meth c s.heap [] 0 0 (vx_MQ below Qc XC args s mc ms free) (entryFrame m args maxL)) : vx_Met l y ws rm Pc Qc XC mc ms free := by
  refine MetFree.of_bodyS (code := cc) (maxLocals := maxL) (ret := ret) hy ?_ ?_
  · intro args s m h hn
    obtain ⟨meth, c, h1, h2, h3, h4, h5, h6, -, -⟩ := Cond.code_spec hn (atoms_spec (ws := ws) h _ (by rw [hw]; exact List.mem_cons_self))
    exact ⟨meth, c, h1, h2, h3, h4, h5, h6⟩
  · intro p e s m args below meth c s₁ B hml hP _
    have hh0 : s₁.heap = s.heap := by rw [B.state]; rfl
    have ht : ∀ x ∈ c.exceptionTable.toList, False := by
      obtain ⟨meth9, c9, h1, h2, -, -, -, -, h7, -⟩ := Cond.code_spec B.named (atoms_spec (ws := ws) B.pre _ (by rw [hw]; exact List.mem_cons_self))
      cases Option.some.inj (h1.symm.trans B.method)
      cases Option.some.inj (h2.symm.trans (Stand.of_body B).code)
      intro x hx
      rw [Array.isEmpty_iff.mp h7] at hx
      cases hx
    obtain ⟨t, a1, o, b1, b2, b3⟩ := body p e s m args below meth c s₁ B hml ht hP s₁ hh0 (Stand.of_body B)
    exact ⟨t, o, a1, b1, b2, b3⟩
/-- the table of a body with handlers -/
theorem vx_table {p : Program} {x y : MethodName} {S : Spec} {cc bytes : ByteArray} {maxL maxL' : Nat} {ret ret' : Option FieldType} {e : Env} {s s₁ : State} {m : MethodId} {args : Array Value} {below : List Frame} {meth : Method} {c : Code} {hh : List (Nat × Nat × Nat × Nat)}
    (B : BodyLoose p l y S cc maxL ret e s m args below meth c s₁) (h : (Cond.codeWith y bytes maxL' ret' hh).before args s = true) : c.exceptionTable.toList = tableOf hh := by
  obtain ⟨m9, meth9, c9, hn9, h1, h2, -, -, h6, -⟩ := Cond.codeWith_spec h
  cases Option.some.inj (hn9.symm.trans B.named)
  cases Option.some.inj (h1.symm.trans B.method)
  cases Option.some.inj (h2.symm.trans (Stand.of_body B).code)
  rw [← h6, table_eq]
end Bodies
end VXA
/-! ===== END ===== -/
/-! ===== BEGIN a static call of a method with an exception table ===== -/
section VXS
variable {p : Program} {l : Launch} {e : Env} {R : Room} {s : State} {m : MethodId} {args : Array Value} {below : List Frame} {meth : Method} {c : Code} {T : State} {H : Heap} {locs : List Loc} {cells slots : Nat}
abbrev vx_CSW (R : Room) (s : State) (args : Array Value) (own : String) (index : Nat) (y : MethodName) (bytes : ByteArray) (maxL : Nat) (ret : Option FieldType) (hh : List (Nat × Nat × Nat × Nat)) (ws : List Cond) (rm : Room) (mc ms n : Nat) : Prop :=
  (rm.cells = mc ∧ rm.slots = ms ∧ rm.frames + 1 ≤ R.frames ∧ 8 + (maxL + 11) + rm.locals ≤ R.locals ∧ (∀ w ∈ ws, ∀ (a' : Array Value) (U : State), s.WarmedH U.vm → w.before a' U = true) ∧ Cond.codeWith y bytes maxL ret hh ∈ ws) ∧
  (Cond.codeWith y bytes maxL ret hh).before args s = true ∧ (Cond.initialized y.cls).before args s = true ∧ (y.cls ≠ "java/lang/invoke/MethodHandle" ∧ y.cls ≠ "java/lang/invoke/VarHandle") ∧
  (∀ sig, parseMethodDescriptor y.desc = some sig → n = sig.parameters.length) ∧ (Cond.methodLink own index y).before args s = true ∧ (Cond.static y).before args s = true
theorem vx_cwSW {own : String} {index maxL mc ms : Nat} {y : MethodName} {bytes : ByteArray} {ret : Option FieldType} {hh : List (Nat × Nat × Nat × Nat)} {Ts ws ws' : List Cond} {rm : Room} (n : Nat) (ht : ∀ w ∈ Ts, w.before args s = true) (hT : GoodIn Ts (va_wsS own index y ws)) (hw : ws = Cond.codeWith y bytes maxL ret hh :: ws') (hrc : rm.cells = mc) (hrs : rm.slots = ms)
    (hd : y.cls ≠ "java/lang/invoke/MethodHandle" ∧ y.cls ≠ "java/lang/invoke/VarHandle" ∧ (parseMethodDescriptor y.desc).map (fun d => d.parameters.length) = some n) (hR : rm.frames + 1 ≤ R.frames ∧ 8 + (maxL + 11) + rm.locals ≤ R.locals) :
    vx_CSW R s args own index y bytes maxL ret hh ws rm mc ms n := by
  have ok : ∀ w ∈ va_wsS own index y ws, w.before args s = true := fun w h => ht w (hT w h).1
  have hG : GoodIn Ts ws := fun w h => hT w (by unfold va_wsS; exact List.mem_append_right _ h)
  have hc : Cond.codeWith y bytes maxL ret hh ∈ ws := by rw [hw]; exact List.mem_cons_self
  refine ⟨⟨hrc, hrs, hR.1, hR.2, pay_in ht hG, hc⟩, ht _ (hG _ hc).1, ok _ (by simp [va_wsS]), ⟨hd.1, hd.2.1⟩, fun sig h => ?_, ok _ (by simp [va_wsS]), ok _ (by simp [va_wsS])⟩
  have h2 := hd.2.2
  rw [h] at h2
  exact (Option.some.inj h2).symm
theorem vx_callSW (X : Stand p l e R s m args below meth c T locs cells slots) (hexec : p.tables.exec = Jvm.exec) {own : String} {index : Nat} {y : MethodName} {bytes : ByteArray} {maxL : Nat} {ret : Option FieldType} {hh : List (Nat × Nat × Nat × Nat)}
    (hown : s.vm.findClass own = some m.cls) (hlink : (Cond.methodLink own index y).before args s = true) (hstat : (Cond.static y).before args s = true) (hinit : (Cond.initialized y.cls).before args s = true)
    (hcode : (Cond.codeWith y bytes maxL ret hh).before args s = true) (hy : y.cls ≠ "java/lang/invoke/MethodHandle" ∧ y.cls ≠ "java/lang/invoke/VarHandle")
    {W9 : Nat} {Pre : Pt → Array Value → Prop} {Post : Pt → Array Value → Option Value → Pt → Prop} (hK : Back l R p e below s args y 3 W9 Pre Post)
    {g : JFrame} (hg : g.method = m) (hsize : g.locals.size = c.maxLocals) {argsL rest : List Value} (hlen : ∀ sig, parseMethodDescriptor y.desc = some sig → argsL.length = sig.parameters.length)
    (hstack : g.stack = argsL.reverse ++ rest) (hW : 2 * g.monitorRoom + (rest.map fun v => v.category).sum ≤ W9) (hdg : decode c.code g.pc = .ok (.invokestatic index, 3))
    (hpre : ∀ vm₁, s.WarmedH vm₁ → Pre ⟨T.setVm vm₁, locs, cells, slots⟩ argsL.toArray) :
    ∃ (v : Option Value) (vm₁ : Vm) (B : Pt), s.WarmedH vm₁ ∧ Stand p l e R s m args below meth c B.U B.locs B.cells B.slots ∧ Post ⟨T.setVm vm₁, locs, cells, slots⟩ argsL.toArray v B ∧
      ∀ target, Steps p.tables e below (B.U.setTop { g with pc := g.pc + 3, stack := v.toList ++ rest }) target → Steps p.tables e below (T.setTop g) target := by
  obtain ⟨mk, methM, cM, hnamed, hmethM, -, -, -, -, -, -, hsigM⟩ := Cond.codeWith_spec hcode
  have hstatic : methM.isStatic = true := Cond.static_spec hnamed hmethM hstat
  obtain ⟨kP, hkP, -⟩ := className_of_methodNamed hnamed
  have hinitP : kP.init = .initialized := Cond.initialized_spec (findClass_of_methodNamed hnamed) hkP hinit
  obtain ⟨vm₁, X₁, hstep₁⟩ := X.invokestatic hexec hown hlink hnamed hmethM hstatic hkP hinitP hy (g := g) hg (argsL := argsL) (rest := rest) (hlen _ hsigM) hstack hdg
  obtain ⟨v, B, X', hpost, hsteps⟩ := hK m meth c ⟨T.setVm vm₁, locs, cells, slots⟩ { g with stack := rest } (.invokestatic index) mk argsL.toArray X₁ hg hsize hdg hW (X₁.named hnamed) (hpre vm₁ X₁.warmed)
  exact ⟨v, vm₁, B, X₁.warmed, X', hpost, fun target h => hstep₁ _ fun acts => by rw [doInvoke_state]; exact hsteps.trans h⟩
theorem vx_runSW {y : MethodName} {bytes cc : ByteArray} {maxL nL mc ms n index : Nat} {ret : Option FieldType} {hh : List (Nat × Nat × Nat × Nat)} {ws : List Cond} {rm : Room} {Pc : Array Value → State → Prop} {Qc : Array Value → State → Outcome → State → Prop} {free : Addr → Prop} {Ts : List Cond} {own : String} {As rest : List Value} {g : JFrame}
    (S : CallFix p m c cc nL s args Ts own) (hM : Met l y ws rm Pc Qc mc ms free) (cw : vx_CSW R s args own index y bytes maxL ret hh ws rm mc ms n) (hp : PreS s H Pc As)
    (hg : g.method = m) (hn : As.length = n) (hsize : g.locals.size = nL) (hstack : g.stack = As.reverse ++ rest) (hW : 2 * g.monitorRoom + (rest.map fun v => v.category).sum ≤ 8) (hdg : decode cc g.pc = .ok (.invokestatic index, 3)) (hf : cells + mc ≤ R.cells ∧ slots + ms ≤ R.slots) :
    va_Run p l e R s m args below meth c H locs cells slots mc ms g rest (Qc As.toArray) (free) := by
  obtain ⟨⟨hrc, hrs, hfr, hlo, hws, hcw⟩, hcode, hini, hy, hlen, hl, hstt⟩ := cw
  have hK : Back l R p e below s args y 3 8 (PreOf R mc ms Pc) (PostOf Qc mc ms free) := va_backW (hh := hh) (bytes := bytes) (maxL := maxL) (ret := ret) hM hp.1 hrc hrs hfr hlo hws hcw (fun a' U hW => word_at hW (Or.inl (by first | rfl | simp [Cond.onTables, Cond.keeps, Cond.steady])) hini)
  obtain ⟨hx, hb, hml, ho, -⟩ := S
  intro T hT X
  obtain ⟨v, vm₁, ⟨U', l2, c2, s2⟩, hW₁, X', ⟨g', mk, t, L, e1, e2, hq, h1, hL, h2, h3⟩, st⟩ := vx_callSW X hx (hh := hh) (bytes := bytes) (maxL := maxL) (ret := ret) ho hl hstt hini hcode hy hK hg (hsize.trans hml.symm) (argsL := As) (rest := rest) (fun sig h => hn.trans (hlen sig h)) hstack hW (by rw [hb]; exact hdg)
    (fun vm₁ hW₁ => ⟨hf.1, hf.2, hp.2 (T.setVm vm₁) hT hW₁⟩)
  dsimp only [Pt.U, Pt.locs, Pt.cells, Pt.slots] at X' e1 e2 h1 h2 h3 st
  subst h1; subst h2; subst h3
  exact ⟨v, (T.setVm vm₁).calling g' mk As.toArray, t, U', L, hT, X', hL, e1, e2, hq, st⟩
/-- not caught here, past rows that name other classes: it goes on to the caller -/
theorem vx_outP {p : Program} {l : Launch} {e : Env} {R : Room} {s : State} {m : MethodId} {args : Array Value} {below : List Frame} {meth : Method} {c : Code} {H : Heap} {locs : List Loc} {cells slots : Nat} {free : Addr → Prop} {ls : Array Slot} {rest : List Value} {Qc : Array Value → State → Outcome → State → Prop} {XC : String → State → State → Prop}
    {pc : Nat} {own E : String} {ce : Cell} {q : Addr} {mc ms : Nat} (hown : s.vm.findClass own = some m.cls) (hlocks : meth.locks = false)
    (hpass : ∀ z ∈ c.exceptionTable.toList, covers z pc = false ∨ (z.catchType ≠ 0 ∧ ∃ nm : String, (Cond.classLink own z.catchType nm).before args s = true ∧ va_Nc E nm s)) (hcell : H[q]? = some ce) (hv : ce.vm = .none) (hcl : s.vm.findClass E = some ce.cls)
    (hx : ∀ t : State, t.heap = H → s.vm.Alike t.vm → XC E s t) (hf : ∀ z ∈ locs, free z.base) (hc : cells ≤ mc) (hs : slots ≤ ms) :
    vx_W p l e R s m args below meth c H locs cells slots (vx_MQ below Qc XC args s mc ms free) (F0 m pc ls rest) q := by
  intro T hT X
  have hpl : e.platform.magicAccessors = ({} : Platform).magicAccessors := by rw [X.admits.platform]
  obtain ⟨vm', hW', X', st⟩ := X.outThrough hlocks q (g := F0 m pc ls rest) rfl rfl rfl (cell := ce) (by rw [hT]; exact hcell) (by rw [hv]; rfl)
    (by obtain ⟨k9, h9, -⟩ := Vm.findClass_spec hcl; exact ⟨k9, h9⟩) (fun z hz => by
      rcases hpass z hz with h | ⟨hz0, nm, hl1, hn1⟩
      · exact Or.inl h
      · obtain ⟨c6, hc6, hcl6⟩ := Cond.classLink_spec hown hl1 e.platform hpl
        obtain ⟨a8, b8, h1, h2, h3⟩ := hn1
        cases Option.some.inj (h1.symm.trans hcl)
        cases Option.some.inj (h2.symm.trans hc6)
        exact Or.inr ⟨hz0, _, hcl6, h3⟩)
  obtain ⟨g₀, hfr⟩ := X'.frames_eq
  have hcell9 : ((T.setVm vm').setFrames (.throwing q :: below)).heap[q]? = some ce := by
    show T.heap[q]? = some ce
    rw [hT]; exact hcell
  have hend : Ended ((T.setVm vm').setFrames (.throwing q :: below)) below (.threw q) := State.frames_setFrames _ (State.cur_lt_of_frames hfr)
  refine ⟨(T.setVm vm').setFrames (.throwing q :: below), ?_, .threw q, X'.here.running, hend, Or.inr ⟨q, rfl, E, ce, locs, hx _ hT (X'.ends _).1.alike, hcell9, hv, hcl, (X'.ends _).1, (X'.ends _).2.mono hc hs, hf⟩⟩
  rw [X.pushThrowing_eq]
  exact st
/-- a thing of a world lies in the heap -/
theorem vx_lt {D : va_G} {cl : List vw_C} {ws : va_W} {H1 : Heap} (h : va_P D cl ws H1) {k : Nat} {q : Nat × va_E} (hk : ws[k]? = some q) : q.1 < H1.size := (h k q hk).lt
end VXS
/-! ===== END ===== -/
/-! ===== BEGIN methods with a table of their own: called by a name, returning or throwing ===== -/
section VXH
/-! vx_backW, vx_callVX, vx_callSX, vx_callVW, vx_runVW, vx_runVX, vx_runSX, vx_ofWH follow the same proofs as their sisters above (Free/Laws.lean, Shelf42/LK1.lean); vx_outP calls Shelf42/NT130.lean (outThrough). -/
section
variable {l : Launch} {R : Room} {p : Program} {e : Env} {below : List Frame} {s : State} {sargs : Array Value} {y : MethodName} {len W9 : Nat}
theorem vx_backW {ws : List Cond} {rm : Room} {Pc : Array Value → State → Prop} {Qc : Array Value → State → Outcome → State → Prop} {XC : String → State → State → Prop} {mc ms : Nat} {free : Addr → Prop} {bytes : ByteArray} {maxL : Nat} {ret : Option FieldType} {hh : List (Nat × Nat × Nat × Nat)}
    (hM : vx_Met l y ws rm Pc Qc XC mc ms free) (hblind : FrameBlind Pc) (hrc : rm.cells = mc) (hrs : rm.slots = ms)
    (hframes : rm.frames + 1 ≤ R.frames) (hlocals : W9 + (maxL + 11) + rm.locals ≤ R.locals)
    (hws : ∀ w ∈ ws, ∀ a' U, s.WarmedH U.vm → w.before a' U = true) (hcode : Cond.codeWith y bytes maxL ret hh ∈ ws) (hinit : ∀ a' U, s.WarmedH U.vm → (Cond.initialized y.cls).before a' U = true) :
    vx_Back l R p e below s sargs y len W9 (PreOf R mc ms Pc) (PostOf Qc mc ms free) (vx_Post XC mc ms free) := by
  intro m meth c A g ig mk a X hg hsize hdg hW hn hp
  have h1 : (headSpec ws rm).pre.before a A.U = true := atoms_intro fun w hw => hws w hw _ _ X.warmed
  have h2 : (Cond.codeWith y bytes maxL ret hh).before a A.U = true := hws _ hcode _ _ X.warmed
  have h3 : (Cond.initialized y.cls).before a A.U = true := hinit _ _ X.warmed
  have h4 : A.cells + (headSpec ws rm).room.cells ≤ R.cells := by rw [show (headSpec ws rm).room.cells = mc from hrc]; exact hp.1
  have h5 : A.slots + (headSpec ws rm).room.slots ≤ R.slots := by rw [show (headSpec ws rm).room.slots = ms from hrs]; exact hp.2.1
  have hPc : Pc a (A.U.calling g mk a) := hblind _ _ _ _ hp.2.2
  obtain ⟨U, Ls, c0, s0⟩ := A
  dsimp only [Pt.U, Pt.locs, Pt.cells, Pt.slots] at h1 h2 h3 h4 h5 X hn hPc ⊢
  obtain ⟨m9, methY, cY, hn9, hmY, hcY, -, hlY, -⟩ := Cond.codeWith_spec h2
  cases Option.some.inj (hn9.symm.trans hn)
  obtain ⟨kY, hkY, -⟩ := className_of_methodNamed hn
  have hinitY : kY.init = .initialized := Cond.initialized_spec (findClass_of_methodNamed hn) hkY h3
  have h : At U g.method c below := by rw [hg]; exact X.here
  have hlocals9 : W9 + (maxL + 11) + (headSpec ws rm).room.locals ≤ R.locals := hlocals
  have happ : (headSpec ws rm).appliesLoose y e.platform (U.calling g mk a) = true :=
    Spec.appliesLoose_calling (g := g) h hdg hn hkY hinitY
      (X.room_calling (g := g) (R' := (headSpec ws rm).room) hsize hmY hcY hframes (by rw [hlY]; omega) h4 h5) h1
  obtain ⟨mid, hmid⟩ := h.above
  have hfr : (U.setTop g).frames = (.java g :: mid) ++ below := by rw [State.frames_setTop' g h.top, hmid]; rfl
  obtain ⟨o, s₂, hsteps, -, hend, hq⟩ := Steps.callFree hM p X.admits X.cas X.clock (acts := []) hfr happ hPc trivial
  have hq' : vx_Q Qc XC mc ms free a (U.calling g mk a) o s₂ := hq
  rw [State.frames_setTop' g h.top] at hend
  obtain ⟨g₀, hg0⟩ := Option.isSome_iff_exists.mp h.top
  obtain ⟨r, hr⟩ := State.topJava?_eq_some.mp hg0
  have hr' : (({ U with heap := s₂.heap, slotsUsed := s₂.slotsUsed } : State).setVm s₂.vm).frames = .java g₀ :: r := hr
  rcases hq' with ⟨hqc, L, hfe, hL⟩ | ⟨q, rfl, E, ce, L, hx, hce, hcv, hcl, hW₂, hsm, hL⟩
  · obtain ⟨⟨v, rfl⟩, hW₂, e2, q2, q3, q4, q5, q6⟩ := id hfe
    have e3 : s₂ = ({ (U.calling g mk a).setFrames s₂.frames with heap := s₂.heap, slotsUsed := s₂.slotsUsed } : State).setVm s₂.vm := by
      have : s₂ = ({ s₂ with vm := (U.calling g mk a).vm } : State).setVm s₂.vm := rfl
      rw [e2] at this
      exact this
    obtain ⟨c₂, i₂, len₂, hc₂, hd₂, hf₂⟩ := hend
    have hW' : U.WarmedH s₂.vm := hW₂
    have hcc : c₂ = c := by
      have h1 : s₂.code? g.method = U.code? g.method := by
        rw [State.code?_eq, State.code?_eq, hW'.alike.method?]
      exact Option.some.inj (hc₂.symm.trans (h1.trans h.code))
    subst hcc
    have hlen : len₂ = len := by rw [hdg] at hd₂; cases hd₂; rfl
    subst hlen
    have hs₂ : s₂ = (({ U with heap := s₂.heap, slotsUsed := s₂.slotsUsed } : State).setVm s₂.vm).setTop { g with pc := g.pc + len₂, stack := v.toList ++ g.stack } := by
      refine e3.trans ?_
      rw [hf₂, State.calling_eq h.top, State.setFrames_setFrames, State.setTop_of_frames _ hr', hr]
      rfl
    have hsame : U.sameButNew ({ U with heap := s₂.heap, slotsUsed := s₂.slotsUsed } : State) L mc ms := by
      refine ⟨?_, q2, q3, q4, q5, q6⟩
      obtain ⟨t, ht, -⟩ := State.frames_cons hr
      show ({ U with heap := s₂.heap, slotsUsed := s₂.slotsUsed } : State) = { U.setFrames U.frames with heap := s₂.heap, slotsUsed := s₂.slotsUsed }
      rw [State.setFrames_self ht]
    subst hg
    refine Or.inl ⟨v, ⟨(({ U with heap := s₂.heap, slotsUsed := s₂.slotsUsed } : State).setVm s₂.vm), Ls ++ L, c0 + mc, s0 + ms⟩,
      ⟨X.admits, X.cas, X.clock, X.frames, X.room, X.hears, X.method, X.code, (X.here.setHeapUsed s₂.heap s₂.slotsUsed).setVm hW'.alike, X.tail, State.WarmedH.trans X.warmed hW', X.limits, X.bytes, X.same.trans (hsame.setVm s.vm)⟩,
      ⟨g, mk, s₂, L, rfl, rfl, hqc, rfl, hL, rfl, rfl⟩, ?_⟩
    show Steps p.tables e below _ ((({ U with heap := s₂.heap, slotsUsed := s₂.slotsUsed } : State).setVm s₂.vm).setTop { g with pc := g.pc + len₂, stack := v.toList ++ g.stack })
    rw [← hs₂]
    exact hsteps
  · obtain ⟨e2, q2, q3, q4, q5, q6⟩ := id hsm
    have e3 : s₂ = ({ (U.calling g mk a).setFrames s₂.frames with heap := s₂.heap, slotsUsed := s₂.slotsUsed } : State).setVm s₂.vm := by
      have : s₂ = ({ s₂ with vm := (U.calling g mk a).vm } : State).setVm s₂.vm := rfl
      rw [e2] at this
      exact this
    have hf₂ : s₂.frames = .throwing q :: .java g :: U.frames.tail := hend
    have hW' : U.WarmedH s₂.vm := hW₂
    have hs₂ : s₂ = ((({ U with heap := s₂.heap, slotsUsed := s₂.slotsUsed } : State).setVm s₂.vm).setTop g).pushFrame (.throwing q) := by
      refine e3.trans ?_
      rw [hf₂, State.calling_eq h.top, State.setFrames_setFrames, State.pushFrame, State.frames_setTop _ hr', State.setTop_of_frames _ hr', State.setFrames_setFrames, hr]
      rfl
    have hsame : U.sameButNew ({ U with heap := s₂.heap, slotsUsed := s₂.slotsUsed } : State) L mc ms := by
      refine ⟨?_, q2, q3, q4, q5, q6⟩
      obtain ⟨t, ht, -⟩ := State.frames_cons hr
      show ({ U with heap := s₂.heap, slotsUsed := s₂.slotsUsed } : State) = { U.setFrames U.frames with heap := s₂.heap, slotsUsed := s₂.slotsUsed }
      rw [State.setFrames_self ht]
    subst hg
    refine Or.inr ⟨q, ⟨(({ U with heap := s₂.heap, slotsUsed := s₂.slotsUsed } : State).setVm s₂.vm), Ls ++ L, c0 + mc, s0 + ms⟩,
      ⟨X.admits, X.cas, X.clock, X.frames, X.room, X.hears, X.method, X.code, (X.here.setHeapUsed s₂.heap s₂.slotsUsed).setVm hW'.alike, X.tail, State.WarmedH.trans X.warmed hW', X.limits, X.bytes, X.same.trans (hsame.setVm s.vm)⟩,
      ⟨g, mk, s₂, L, E, ce, rfl, rfl, hx, hce, hcv, hcl, rfl, hL, rfl, rfl⟩, ?_⟩
    show Steps p.tables e below _ (((({ U with heap := s₂.heap, slotsUsed := s₂.slotsUsed } : State).setVm s₂.vm).setTop g).pushFrame (.throwing q))
    rw [← hs₂]
    exact hsteps
end
variable {p : Program} {l : Launch} {e : Env} {R : Room} {s : State} {m : MethodId} {args : Array Value} {below : List Frame} {meth : Method} {c : Code} {T : State} {H : Heap} {locs : List Loc} {cells slots : Nat}
theorem vx_callVX (X : Stand p l e R s m args below meth c T locs cells slots) (hexec : p.tables.exec = Jvm.exec) {own C : String} {index : Nat} {y : MethodName} {bytes : ByteArray} {maxL : Nat} {ret : Option FieldType} {hh : List (Nat × Nat × Nat × Nat)}
    (hown : s.vm.findClass own = some m.cls) (hlink : (Cond.methodLink own index y).before args s = true) (hinst : (Cond.instanceMethod y).before args s = true) (hsel : (Cond.selects C y y).before args s = true)
    (hcode : (Cond.codeWith y bytes maxL ret hh).before args s = true) (hy : y.cls ≠ "java/lang/invoke/MethodHandle" ∧ y.cls ≠ "java/lang/invoke/VarHandle")
    {W9 : Nat} {Pre : Pt → Array Value → Prop} {Post : Pt → Array Value → Option Value → Pt → Prop} {PostX : Pt → Array Value → Addr → Pt → Prop} (hK : vx_Back l R p e below s args y 3 W9 Pre Post PostX)
    {b : Addr} {cellB : Cell} (hcell : T.heap[b]? = some cellB) (hobj : cellB.vm.isStatics = false) (hcls : s.vm.findClass C = some cellB.cls)
    {g : JFrame} (hg : g.method = m) (hsize : g.locals.size = c.maxLocals) {argsL rest : List Value} (hlen : ∀ sig, parseMethodDescriptor y.desc = some sig → argsL.length = sig.parameters.length)
    (hstack : g.stack = argsL.reverse ++ .ref b :: rest) (hW : 2 * g.monitorRoom + (rest.map fun v => v.category).sum ≤ W9) (hdg : decode c.code g.pc = .ok (.invokevirtual index, 3))
    (hpre : ∀ vm₁, s.WarmedH vm₁ → Pre ⟨T.setVm vm₁, locs, cells, slots⟩ (Value.ref b :: argsL).toArray) :
    (∃ (v : Option Value) (vm₁ : Vm) (B : Pt), s.WarmedH vm₁ ∧ Stand p l e R s m args below meth c B.U B.locs B.cells B.slots ∧ Post ⟨T.setVm vm₁, locs, cells, slots⟩ (Value.ref b :: argsL).toArray v B ∧
      ∀ target, Steps p.tables e below (B.U.setTop { g with pc := g.pc + 3, stack := v.toList ++ rest }) target → Steps p.tables e below (T.setTop g) target) ∨
    (∃ (q : Addr) (vm₁ : Vm) (B : Pt), s.WarmedH vm₁ ∧ Stand p l e R s m args below meth c B.U B.locs B.cells B.slots ∧ PostX ⟨T.setVm vm₁, locs, cells, slots⟩ (Value.ref b :: argsL).toArray q B ∧
      Steps p.tables e below (T.setTop g) ((B.U.setTop { g with stack := rest }).pushFrame (.throwing q))) := by
  obtain ⟨mk, methM, hnamed, hmethM, hstM, habM⟩ := Cond.instanceMethod_spec hinst
  obtain ⟨m8, methM', cM, hn8, hmethM', -, -, -, -, -, -, hsigM⟩ := Cond.codeWith_spec hcode
  cases Option.some.inj (hn8.symm.trans hnamed)
  cases hmethM.symm.trans hmethM'
  obtain ⟨c2, r2, m2, q1, q2, q3, q4, kP, hkP, hkPi⟩ := Cond.selects_spec hsel
  cases hcls.symm.trans q1
  cases (State.methodFound?_of_named hnamed hy).symm.trans q2
  cases hnamed.symm.trans q3
  have hselP : selectMethod e.platform s.vm cellB.cls mk = .method mk := by rw [Launch.admits_selectMethod X.admits]; exact q4
  obtain ⟨vm₁, X₁, hstep₁⟩ := X.invokevirtual hexec hown hlink hnamed hmethM hstM hkP hkPi hy (a := b) (cell := cellB) hcell
    (fun z h => by rw [h] at hobj; cases hobj) hselP hmethM habM hkP hkPi (g := g) hg (argsL := argsL) (rest := rest) (hlen _ hsigM) hstack hdg
  rcases hK m meth c ⟨T.setVm vm₁, locs, cells, slots⟩ { g with stack := rest } (.invokevirtual index) mk (Value.ref b :: argsL).toArray X₁ hg hsize hdg hW (X₁.named hnamed) (hpre vm₁ X₁.warmed) with ⟨v, B, X', hpost, hsteps⟩ | ⟨q, B, X', hpost, hsteps⟩
  · exact Or.inl ⟨v, vm₁, B, X₁.warmed, X', hpost, fun target h => hstep₁ _ fun acts => by rw [doInvoke_state]; exact hsteps.trans h⟩
  · exact Or.inr ⟨q, vm₁, B, X₁.warmed, X', hpost, hstep₁ _ fun acts => by rw [doInvoke_state]; exact hsteps⟩
theorem vx_callSX (X : Stand p l e R s m args below meth c T locs cells slots) (hexec : p.tables.exec = Jvm.exec) {own : String} {index : Nat} {y : MethodName} {bytes : ByteArray} {maxL : Nat} {ret : Option FieldType} {hh : List (Nat × Nat × Nat × Nat)}
    (hown : s.vm.findClass own = some m.cls) (hlink : (Cond.methodLink own index y).before args s = true) (hstat : (Cond.static y).before args s = true) (hinit : (Cond.initialized y.cls).before args s = true)
    (hcode : (Cond.codeWith y bytes maxL ret hh).before args s = true) (hy : y.cls ≠ "java/lang/invoke/MethodHandle" ∧ y.cls ≠ "java/lang/invoke/VarHandle")
    {W9 : Nat} {Pre : Pt → Array Value → Prop} {Post : Pt → Array Value → Option Value → Pt → Prop} {PostX : Pt → Array Value → Addr → Pt → Prop} (hK : vx_Back l R p e below s args y 3 W9 Pre Post PostX)
    {g : JFrame} (hg : g.method = m) (hsize : g.locals.size = c.maxLocals) {argsL rest : List Value} (hlen : ∀ sig, parseMethodDescriptor y.desc = some sig → argsL.length = sig.parameters.length)
    (hstack : g.stack = argsL.reverse ++ rest) (hW : 2 * g.monitorRoom + (rest.map fun v => v.category).sum ≤ W9) (hdg : decode c.code g.pc = .ok (.invokestatic index, 3))
    (hpre : ∀ vm₁, s.WarmedH vm₁ → Pre ⟨T.setVm vm₁, locs, cells, slots⟩ argsL.toArray) :
    (∃ (v : Option Value) (vm₁ : Vm) (B : Pt), s.WarmedH vm₁ ∧ Stand p l e R s m args below meth c B.U B.locs B.cells B.slots ∧ Post ⟨T.setVm vm₁, locs, cells, slots⟩ argsL.toArray v B ∧
      ∀ target, Steps p.tables e below (B.U.setTop { g with pc := g.pc + 3, stack := v.toList ++ rest }) target → Steps p.tables e below (T.setTop g) target) ∨
    (∃ (q : Addr) (vm₁ : Vm) (B : Pt), s.WarmedH vm₁ ∧ Stand p l e R s m args below meth c B.U B.locs B.cells B.slots ∧ PostX ⟨T.setVm vm₁, locs, cells, slots⟩ argsL.toArray q B ∧
      Steps p.tables e below (T.setTop g) ((B.U.setTop { g with stack := rest }).pushFrame (.throwing q))) := by
  obtain ⟨mk, methM, cM, hnamed, hmethM, -, -, -, -, -, -, hsigM⟩ := Cond.codeWith_spec hcode
  have hstatic : methM.isStatic = true := Cond.static_spec hnamed hmethM hstat
  obtain ⟨kP, hkP, -⟩ := className_of_methodNamed hnamed
  have hinitP : kP.init = .initialized := Cond.initialized_spec (findClass_of_methodNamed hnamed) hkP hinit
  obtain ⟨vm₁, X₁, hstep₁⟩ := X.invokestatic hexec hown hlink hnamed hmethM hstatic hkP hinitP hy (g := g) hg (argsL := argsL) (rest := rest) (hlen _ hsigM) hstack hdg
  rcases hK m meth c ⟨T.setVm vm₁, locs, cells, slots⟩ { g with stack := rest } (.invokestatic index) mk argsL.toArray X₁ hg hsize hdg hW (X₁.named hnamed) (hpre vm₁ X₁.warmed) with ⟨v, B, X', hpost, hsteps⟩ | ⟨q, B, X', hpost, hsteps⟩
  · exact Or.inl ⟨v, vm₁, B, X₁.warmed, X', hpost, fun target h => hstep₁ _ fun acts => by rw [doInvoke_state]; exact hsteps.trans h⟩
  · exact Or.inr ⟨q, vm₁, B, X₁.warmed, X', hpost, hstep₁ _ fun acts => by rw [doInvoke_state]; exact hsteps⟩
theorem vx_callVW (X : Stand p l e R s m args below meth c T locs cells slots) (hexec : p.tables.exec = Jvm.exec) {own C : String} {index : Nat} {y : MethodName} {bytes : ByteArray} {maxL : Nat} {ret : Option FieldType} {hh : List (Nat × Nat × Nat × Nat)}
    (hown : s.vm.findClass own = some m.cls) (hlink : (Cond.methodLink own index y).before args s = true) (hinst : (Cond.instanceMethod y).before args s = true) (hsel : (Cond.selects C y y).before args s = true)
    (hcode : (Cond.codeWith y bytes maxL ret hh).before args s = true) (hy : y.cls ≠ "java/lang/invoke/MethodHandle" ∧ y.cls ≠ "java/lang/invoke/VarHandle")
    {W9 : Nat} {Pre : Pt → Array Value → Prop} {Post : Pt → Array Value → Option Value → Pt → Prop} (hK : Back l R p e below s args y 3 W9 Pre Post)
    {b : Addr} {cellB : Cell} (hcell : T.heap[b]? = some cellB) (hobj : cellB.vm.isStatics = false) (hcls : s.vm.findClass C = some cellB.cls)
    {g : JFrame} (hg : g.method = m) (hsize : g.locals.size = c.maxLocals) {argsL rest : List Value} (hlen : ∀ sig, parseMethodDescriptor y.desc = some sig → argsL.length = sig.parameters.length)
    (hstack : g.stack = argsL.reverse ++ .ref b :: rest) (hW : 2 * g.monitorRoom + (rest.map fun v => v.category).sum ≤ W9) (hdg : decode c.code g.pc = .ok (.invokevirtual index, 3))
    (hpre : ∀ vm₁, s.WarmedH vm₁ → Pre ⟨T.setVm vm₁, locs, cells, slots⟩ (Value.ref b :: argsL).toArray) :
    ∃ (v : Option Value) (vm₁ : Vm) (B : Pt), s.WarmedH vm₁ ∧ Stand p l e R s m args below meth c B.U B.locs B.cells B.slots ∧ Post ⟨T.setVm vm₁, locs, cells, slots⟩ (Value.ref b :: argsL).toArray v B ∧
      ∀ target, Steps p.tables e below (B.U.setTop { g with pc := g.pc + 3, stack := v.toList ++ rest }) target → Steps p.tables e below (T.setTop g) target := by
  obtain ⟨mk, methM, hnamed, hmethM, hstM, habM⟩ := Cond.instanceMethod_spec hinst
  obtain ⟨m8, methM', cM, hn8, hmethM', -, -, -, -, -, -, hsigM⟩ := Cond.codeWith_spec hcode
  cases Option.some.inj (hn8.symm.trans hnamed)
  cases hmethM.symm.trans hmethM'
  obtain ⟨c2, r2, m2, q1, q2, q3, q4, kP, hkP, hkPi⟩ := Cond.selects_spec hsel
  cases hcls.symm.trans q1
  cases (State.methodFound?_of_named hnamed hy).symm.trans q2
  cases hnamed.symm.trans q3
  have hselP : selectMethod e.platform s.vm cellB.cls mk = .method mk := by rw [Launch.admits_selectMethod X.admits]; exact q4
  obtain ⟨vm₁, X₁, hstep₁⟩ := X.invokevirtual hexec hown hlink hnamed hmethM hstM hkP hkPi hy (a := b) (cell := cellB) hcell
    (fun z h => by rw [h] at hobj; cases hobj) hselP hmethM habM hkP hkPi (g := g) hg (argsL := argsL) (rest := rest) (hlen _ hsigM) hstack hdg
  obtain ⟨v, B, X', hpost, hsteps⟩ := hK m meth c ⟨T.setVm vm₁, locs, cells, slots⟩ { g with stack := rest } (.invokevirtual index) mk (Value.ref b :: argsL).toArray X₁ hg hsize hdg hW (X₁.named hnamed) (hpre vm₁ X₁.warmed)
  exact ⟨v, vm₁, B, X₁.warmed, X', hpost, fun target h => hstep₁ _ fun acts => by rw [doInvoke_state]; exact hsteps.trans h⟩
abbrev vx_CVW (R : Room) (s : State) (args : Array Value) (own C : String) (index : Nat) (y : MethodName) (bytes : ByteArray) (maxL : Nat) (ret : Option FieldType) (hh : List (Nat × Nat × Nat × Nat)) (ws : List Cond) (rm : Room) (mc ms n : Nat) : Prop :=
  (rm.cells = mc ∧ rm.slots = ms ∧ rm.frames + 1 ≤ R.frames ∧ 8 + (maxL + 11) + rm.locals ≤ R.locals ∧ (∀ w ∈ ws, ∀ (a' : Array Value) (U : State), s.WarmedH U.vm → w.before a' U = true) ∧ Cond.codeWith y bytes maxL ret hh ∈ ws) ∧
  (Cond.codeWith y bytes maxL ret hh).before args s = true ∧ (Cond.initialized y.cls).before args s = true ∧ (y.cls ≠ "java/lang/invoke/MethodHandle" ∧ y.cls ≠ "java/lang/invoke/VarHandle") ∧
  (∀ sig, parseMethodDescriptor y.desc = some sig → n = sig.parameters.length) ∧ (Cond.methodLink own index y).before args s = true ∧ (Cond.instanceMethod y).before args s = true ∧ (Cond.selects C y y).before args s = true
theorem vx_cwVW {own C : String} {index maxL mc ms : Nat} {y : MethodName} {bytes : ByteArray} {ret : Option FieldType} {hh : List (Nat × Nat × Nat × Nat)} {Ts ws ws' : List Cond} {rm : Room} (n : Nat) (ht : ∀ w ∈ Ts, w.before args s = true) (hT : GoodIn Ts (wsV own index C y ws)) (hw : ws = Cond.codeWith y bytes maxL ret hh :: ws') (hrc : rm.cells = mc) (hrs : rm.slots = ms)
    (hd : y.cls = C ∧ y.cls ≠ "java/lang/invoke/MethodHandle" ∧ y.cls ≠ "java/lang/invoke/VarHandle" ∧ (parseMethodDescriptor y.desc).map (fun d => d.parameters.length) = some n) (hR : rm.frames + 1 ≤ R.frames ∧ 8 + (maxL + 11) + rm.locals ≤ R.locals) :
    vx_CVW R s args own C index y bytes maxL ret hh ws rm mc ms n := by
  obtain ⟨hC, hd⟩ := hd
  subst hC
  have ok : ∀ w ∈ wsV own index y.cls y ws, w.before args s = true := fun w h => ht w (hT w h).1
  have hG : GoodIn Ts ws := fun w h => hT w (by unfold wsV; exact List.mem_append_right _ h)
  have hc : Cond.codeWith y bytes maxL ret hh ∈ ws := by rw [hw]; exact List.mem_cons_self
  refine ⟨⟨hrc, hrs, hR.1, hR.2, pay_in ht hG, hc⟩, ht _ (hG _ hc).1, ok _ (by simp [wsV]), ⟨hd.1, hd.2.1⟩, fun sig h => ?_, ok _ (by simp [wsV]), ok _ (by simp [wsV]), ok _ (by simp [wsV])⟩
  have h2 := hd.2.2
  rw [h] at h2
  exact (Option.some.inj h2).symm
theorem vx_runVW {y : MethodName} {bytes cc : ByteArray} {maxL nL mc ms n index : Nat} {ret : Option FieldType} {hh : List (Nat × Nat × Nat × Nat)} {ws : List Cond} {rm : Room} {Pc : Array Value → State → Prop} {Qc : Array Value → State → Outcome → State → Prop} {free : Addr → Prop} {Ts : List Cond} {own C : String} {b : Addr} {As rest : List Value} {g : JFrame}
    (S : CallFix p m c cc nL s args Ts own) (hM : Met l y ws rm Pc Qc mc ms free) (cw : vx_CVW R s args own C index y bytes maxL ret hh ws rm mc ms n) (hp : PreV s H C b Pc As)
    (hg : g.method = m) (hn : As.length = n) (hsize : g.locals.size = nL) (hstack : g.stack = As.reverse ++ .ref b :: rest) (hW : 2 * g.monitorRoom + (rest.map fun v => v.category).sum ≤ 8) (hdg : decode cc g.pc = .ok (.invokevirtual index, 3)) (hf : cells + mc ≤ R.cells ∧ slots + ms ≤ R.slots) :
    va_Run p l e R s m args below meth c H locs cells slots mc ms g rest (Qc (Value.ref b :: As).toArray) free := by
  obtain ⟨⟨hrc, hrs, hfr, hlo, hws, hcw⟩, hcode, hini, hy, hlen, hl, hin, hse⟩ := cw
  have hK : Back l R p e below s args y 3 8 (PreOf R mc ms Pc) (PostOf Qc mc ms free) := va_backW (hh := hh) (bytes := bytes) (maxL := maxL) (ret := ret) hM hp.1 hrc hrs hfr hlo hws hcw (fun a' U hW => word_at hW (Or.inl (by first | rfl | simp [Cond.onTables, Cond.keeps, Cond.steady])) hini)
  obtain ⟨hx, hb, hml, ho, -⟩ := S
  obtain ⟨-, ⟨cellB, hcB, hoB, hclB⟩, hPc⟩ := hp
  intro T hT X
  obtain ⟨v, vm₁, ⟨U', l2, c2, s2⟩, hW₁, X', ⟨g', mk, t, L, e1, e2, hq, h1, hL, h2, h3⟩, st⟩ := vx_callVW X hx (C := C) (hh := hh) (bytes := bytes) (maxL := maxL) (ret := ret) ho hl hin hse hcode hy hK (by rw [hT]; exact hcB) hoB hclB hg (hsize.trans hml.symm) (argsL := As) (rest := rest) (fun sig h => hn.trans (hlen sig h)) hstack hW (by rw [hb]; exact hdg)
    (fun vm₁ hW₁ => ⟨hf.1, hf.2, hPc (T.setVm vm₁) hT hW₁⟩)
  dsimp only [Pt.U, Pt.locs, Pt.cells, Pt.slots] at X' e1 e2 h1 h2 h3 st
  subst h1; subst h2; subst h3
  exact ⟨v, (T.setVm vm₁).calling g' mk (Value.ref b :: As).toArray, t, U', L, hT, X', hL, e1, e2, hq, st⟩
section
variable {y : MethodName} {bytes cc : ByteArray} {maxL nL mc ms n index : Nat} {ret : Option FieldType} {ws : List Cond} {rm : Room} {Pc : Array Value → State → Prop} {Qc : Array Value → State → Outcome → State → Prop} {XC : String → State → State → Prop} {free : Addr → Prop} {Ts : List Cond} {own C : String} {b : Addr} {As rest : List Value} {g : JFrame}
theorem vx_runVX {hh : List (Nat × Nat × Nat × Nat)} (S : CallFix p m c cc nL s args Ts own) (hM : vx_Met l y ws rm Pc Qc XC mc ms free) (cw : vx_CVW R s args own C index y bytes maxL ret hh ws rm mc ms n) (hp : PreV s H C b Pc As)
    (hg : g.method = m) (hn : As.length = n) (hsize : g.locals.size = nL) (hstack : g.stack = As.reverse ++ .ref b :: rest) (hW : 2 * g.monitorRoom + (rest.map fun v => v.category).sum ≤ 8) (hdg : decode cc g.pc = .ok (.invokevirtual index, 3)) (hf : cells + mc ≤ R.cells ∧ slots + ms ≤ R.slots) :
    vx_Run p l e R s m args below meth c H locs cells slots mc ms g rest (Qc (Value.ref b :: As).toArray) XC free := by
  obtain ⟨⟨hrc, hrs, hfr, hlo, hws, hcw⟩, hcode, hini, hy, hlen, hl, hin, hse⟩ := cw
  have hK : vx_Back l R p e below s args y 3 8 (PreOf R mc ms Pc) (PostOf Qc mc ms free) (vx_Post XC mc ms free) := vx_backW (hh := hh) (bytes := bytes) (maxL := maxL) (ret := ret) hM hp.1 hrc hrs hfr hlo hws hcw (fun a' U hW => word_at hW (Or.inl (by first | rfl | simp [Cond.onTables, Cond.keeps, Cond.steady])) hini)
  obtain ⟨hx, hb, hml, ho, -⟩ := S
  obtain ⟨-, ⟨cellB, hcB, hoB, hclB⟩, hPc⟩ := hp
  intro T hT X
  rcases vx_callVX X hx (C := C) (hh := hh) (bytes := bytes) (maxL := maxL) (ret := ret) ho hl hin hse hcode hy hK (by rw [hT]; exact hcB) hoB hclB hg (hsize.trans hml.symm) (argsL := As) (rest := rest) (fun sig h => hn.trans (hlen sig h)) hstack hW (by rw [hb]; exact hdg)
    (fun vm₁ hW₁ => ⟨hf.1, hf.2, hPc (T.setVm vm₁) hT hW₁⟩) with ⟨v, vm₁, ⟨U', l2, c2, s2⟩, hW₁, X', ⟨g', mk, t, L, e1, e2, hq, h1, hL, h2, h3⟩, st⟩ | ⟨q, vm₁, ⟨U', l2, c2, s2⟩, hW₁, X', ⟨g', mk, t, L, E, ce, e1, e2, hq, hce, hcv, hcl, h1, hL, h2, h3⟩, st⟩
  · dsimp only [Pt.U, Pt.locs, Pt.cells, Pt.slots] at X' e1 e2 h1 h2 h3 st
    subst h1; subst h2; subst h3
    exact Or.inl ⟨v, (T.setVm vm₁).calling g' mk (Value.ref b :: As).toArray, t, U', L, hT, X', hL, e1, e2, hq, st⟩
  · dsimp only [Pt.U, Pt.locs, Pt.cells, Pt.slots] at X' e1 e2 h1 h2 h3 st hcl
    subst h1; subst h2; subst h3
    exact Or.inr ⟨q, (T.setVm vm₁).calling g' mk (Value.ref b :: As).toArray, t, U', L, E, ce, hT, X', hL, e1, e2, hq, hce, hcv, vx_cls hW₁ hcl, st⟩
theorem vx_runSX {hh : List (Nat × Nat × Nat × Nat)} (S : CallFix p m c cc nL s args Ts own) (hM : vx_Met l y ws rm Pc Qc XC mc ms free) (cw : vx_CSW R s args own index y bytes maxL ret hh ws rm mc ms n) (hp : PreS s H Pc As)
    (hg : g.method = m) (hn : As.length = n) (hsize : g.locals.size = nL) (hstack : g.stack = As.reverse ++ rest) (hW : 2 * g.monitorRoom + (rest.map fun v => v.category).sum ≤ 8) (hdg : decode cc g.pc = .ok (.invokestatic index, 3)) (hf : cells + mc ≤ R.cells ∧ slots + ms ≤ R.slots) :
    vx_Run p l e R s m args below meth c H locs cells slots mc ms g rest (Qc As.toArray) XC free := by
  obtain ⟨⟨hrc, hrs, hfr, hlo, hws, hcw⟩, hcode, hini, hy, hlen, hl, hstt⟩ := cw
  have hK : vx_Back l R p e below s args y 3 8 (PreOf R mc ms Pc) (PostOf Qc mc ms free) (vx_Post XC mc ms free) := vx_backW (hh := hh) (bytes := bytes) (maxL := maxL) (ret := ret) hM hp.1 hrc hrs hfr hlo hws hcw (fun a' U hW => word_at hW (Or.inl (by first | rfl | simp [Cond.onTables, Cond.keeps, Cond.steady])) hini)
  obtain ⟨hx, hb, hml, ho, -⟩ := S
  intro T hT X
  rcases vx_callSX X hx (hh := hh) (bytes := bytes) (maxL := maxL) (ret := ret) ho hl hstt hini hcode hy hK hg (hsize.trans hml.symm) (argsL := As) (rest := rest) (fun sig h => hn.trans (hlen sig h)) hstack hW (by rw [hb]; exact hdg)
    (fun vm₁ hW₁ => ⟨hf.1, hf.2, hp.2 (T.setVm vm₁) hT hW₁⟩) with ⟨v, vm₁, ⟨U', l2, c2, s2⟩, hW₁, X', ⟨g', mk, t, L, e1, e2, hq, h1, hL, h2, h3⟩, st⟩ | ⟨q, vm₁, ⟨U', l2, c2, s2⟩, hW₁, X', ⟨g', mk, t, L, E, ce, e1, e2, hq, hce, hcv, hcl, h1, hL, h2, h3⟩, st⟩
  · dsimp only [Pt.U, Pt.locs, Pt.cells, Pt.slots] at X' e1 e2 h1 h2 h3 st
    subst h1; subst h2; subst h3
    exact Or.inl ⟨v, (T.setVm vm₁).calling g' mk As.toArray, t, U', L, hT, X', hL, e1, e2, hq, st⟩
  · dsimp only [Pt.U, Pt.locs, Pt.cells, Pt.slots] at X' e1 e2 h1 h2 h3 st hcl
    subst h1; subst h2; subst h3
    exact Or.inr ⟨q, (T.setVm vm₁).calling g' mk As.toArray, t, U', L, E, ce, hT, X', hL, e1, e2, hq, hce, hcv, vx_cls hW₁ hcl, st⟩
end
end VXH
theorem vx_ofWH {l : Launch} {y : MethodName} {ws ws' : List Cond} {rm : Room} {Pc : Array Value → State → Prop} {Qc : Array Value → State → Outcome → State → Prop} {XC : String → State → State → Prop} {mc ms : Nat} {free : Addr → Prop} {cc : ByteArray} {maxL : Nat} {ret : Option FieldType} {hh : List (Nat × Nat × Nat × Nat)}
    (hy : plainName y.cls = true) (hw : ws = Cond.codeWith y cc maxL ret hh :: ws')
    (body : ∀ p e s m args below meth c s₁, BodyLoose p l y (headSpec ws rm) cc maxL ret e s m args below meth c s₁ → c.maxLocals = maxL → Pc args s →
      W p l e (headSpec ws rm).room s m args below meth c s.heap [] 0 0 (vx_MQ below Qc XC args s mc ms free) (entryFrame m args maxL)) : vx_Met l y ws rm Pc Qc XC mc ms free := by
  refine MetFree.of_bodyS (code := cc) (maxLocals := maxL) (ret := ret) hy ?_ ?_
  · intro args s m h hn
    obtain ⟨m9, meth, c, hn9, h1, h2, h3, h4, -, h5, h6, -⟩ := Cond.codeWith_spec (atoms_spec (ws := ws) h _ (by rw [hw]; exact List.mem_cons_self))
    cases hn.symm.trans hn9
    exact ⟨meth, c, h1, h2, h3, h4, h5, h6⟩
  · intro p e s m args below meth c s₁ B hml hP _
    have hh0 : s₁.heap = s.heap := by rw [B.state]; rfl
    obtain ⟨t, a1, o, b1, b2, b3⟩ := body p e s m args below meth c s₁ B hml hP s₁ hh0 (Stand.of_body B)
    exact ⟨t, o, a1, b1, b2, b3⟩
/-! ===== END ===== -/
end
section
def RX0 : String := "IdleMoney$Account"
def TX0 : u_T := fun k => match k with
  | 0 => ("IdleMoney$Account", "kind", "I", false)
  | 1 => ("IdleMoney$Account", "address", "I", false)
  | 2 => ("IdleMoney$Account", "birth", "I", false)
  | 3 => ("IdleMoney$Account", "cents", "I", false)
  | 4 => ("IdleMoney$Account", "state", "I", false)
  | 5 => ("IdleMoney$Account", "age", "I", false)
  | 6 => ("IdleMoney$Account", "since", "I", false)
  | 7 => ("IdleMoney$Account", "letterCount", "I", false)
  | 8 => ("IdleMoney$Account", "letterMonth", "I", false)
  | 9 => ("IdleMoney$Account", "holder", "I", false)
  | 10 => ("IdleMoney$Account", "handedMonth", "I", false)
  | 11 => ("IdleMoney$Account", "nameless", "Z", false)
  | 12 => ("IdleMoney$Account", "broughtIn", "J", false)
  | 13 => ("IdleMoney$Account", "credited", "J", false)
  | 14 => ("IdleMoney$Account", "paidOut", "J", false)
  | _ => ("IdleMoney$Account", "letterCents", "J", false)
def tyX0 : Nat → FieldType := fun k => match k with
  | 0 => .int
  | 1 => .int
  | 2 => .int
  | 3 => .int
  | 4 => .int
  | 5 => .int
  | 6 => .int
  | 7 => .int
  | 8 => .int
  | 9 => .int
  | 10 => .int
  | 11 => .boolean
  | 12 => .long
  | 13 => .long
  | 14 => .long
  | _ => .long
abbrev wsX00 : List Cond := u_ws RX0 TX0 16
theorem nmX0 : ∀ a, a < 16 → ∀ b, b < 16 → a ≠ b → (TX0 a).2.1 ≠ (TX0 b).2.1 := by decide +kernel
theorem tyX0_ok : ∀ k, k < 16 → parseFieldDescriptor (TX0 k).2.2.1 = some (tyX0 k) := by decide +kernel
abbrev cX0_init : ByteArray := prog_2_method_1_code
def yX0_init : MethodName := ⟨RX0, "<init>", "()V"⟩
abbrev cX0_start : ByteArray := prog_2_method_2_code
def yX0_start : MethodName := ⟨RX0, "start", "(IIII)V"⟩
abbrev cX0_copyFrom : ByteArray := prog_2_method_3_code
def yX0_copyFrom : MethodName := ⟨RX0, "copyFrom", "(LIdleMoney$Account;)V"⟩
abbrev cX0_isWithBank : ByteArray := prog_2_method_4_code
def yX0_isWithBank : MethodName := ⟨RX0, "isWithBank", "()Z"⟩
abbrev cX0_isClaimable : ByteArray := prog_2_method_5_code
def yX0_isClaimable : MethodName := ⟨RX0, "isClaimable", "()Z"⟩
abbrev cX0_isHeldBy : ByteArray := prog_2_method_6_code
def yX0_isHeldBy : MethodName := ⟨RX0, "isHeldBy", "(I)Z"⟩
abbrev cX0_wake : ByteArray := prog_2_method_7_code
def yX0_wake : MethodName := ⟨RX0, "wake", "()V"⟩
abbrev cX0_bringIn : ByteArray := prog_2_method_8_code
def yX0_bringIn : MethodName := ⟨RX0, "bringIn", "(I)V"⟩
abbrev cX0_payOut : ByteArray := prog_2_method_9_code
def yX0_payOut : MethodName := ⟨RX0, "payOut", "(I)V"⟩
abbrev cX0_goMonth : ByteArray := prog_2_method_10_code
def yX0_goMonth : MethodName := ⟨RX0, "goMonth", "(LIdleMoney$Rules;I)V"⟩
abbrev cX0_credit : ByteArray := prog_2_method_11_code
def yX0_credit : MethodName := ⟨RX0, "credit", "(I)V"⟩
abbrev cX0_receiveLetter : ByteArray := prog_2_method_12_code
def yX0_receiveLetter : MethodName := ⟨RX0, "receiveLetter", "(II)V"⟩
abbrev cX0_handOver : ByteArray := prog_2_method_13_code
def yX0_handOver : MethodName := ⟨RX0, "handOver", "(III)V"⟩
def RX1 : String := "IdleMoney$Forecast"
def TX1 : u_T := fun k => match k with
  | 0 => ("IdleMoney$Forecast", "probe", "LIdleMoney$Account;", true)
  | 1 => ("IdleMoney$Forecast", "change", "[J", true)
  | 2 => ("IdleMoney$Forecast", "rescueSet", "I", false)
  | _ => ("IdleMoney$Forecast", "rescueCents", "J", false)
def tyX1 : Nat → FieldType := fun k => match k with
  | 0 => .object "IdleMoney$Account"
  | 1 => .array .long
  | 2 => .int
  | _ => .long
abbrev wsX10 : List Cond := u_ws RX1 TX1 4
theorem nmX1 : ∀ a, a < 4 → ∀ b, b < 4 → a ≠ b → (TX1 a).2.1 ≠ (TX1 b).2.1 := by decide +kernel
theorem tyX1_ok : ∀ k, k < 4 → parseFieldDescriptor (TX1 k).2.2.1 = some (tyX1 k) := by decide +kernel
abbrev cX1_init : ByteArray := prog_3_method_1_code
def yX1_init : MethodName := ⟨RX1, "<init>", "()V"⟩
abbrev cX1_monthsUntilHanded : ByteArray := prog_3_method_2_code
def yX1_monthsUntilHanded : MethodName := ⟨RX1, "monthsUntilHanded", "(LIdleMoney$World;LIdleMoney$Account;)I"⟩
abbrev cX1_centsHandedTo : ByteArray := prog_3_method_3_code
def yX1_centsHandedTo : MethodName := ⟨RX1, "centsHandedTo", "(LIdleMoney$World;II)J"⟩
abbrev cX1_lettersSent : ByteArray := prog_3_method_4_code
def yX1_lettersSent : MethodName := ⟨RX1, "lettersSent", "(LIdleMoney$World;I)I"⟩
abbrev cX1_findRescue : ByteArray := prog_3_method_5_code
def yX1_findRescue : MethodName := ⟨RX1, "findRescue", "(LIdleMoney$World;II)V"⟩
abbrev cX1_chooseSet : ByteArray := prog_3_method_6_code
def yX1_chooseSet : MethodName := ⟨RX1, "chooseSet", "(IIJ)V"⟩
abbrev cX1_changeBy : ByteArray := prog_3_method_7_code
def yX1_changeBy : MethodName := ⟨RX1, "changeBy", "(I)J"⟩
abbrev cX1_runProbe : ByteArray := prog_3_method_8_code
def yX1_runProbe : MethodName := ⟨RX1, "runProbe", "(LIdleMoney$World;I)I"⟩
def RX2 : String := "IdleMoney$Land"
def TX2 : u_T := fun k => match k with
  | 0 => ("IdleMoney$Land", "name", "[I", true)
  | 1 => ("IdleMoney$Land", "nameLength", "I", false)
  | 2 => ("IdleMoney$Land", "month", "I", false)
  | 3 => ("IdleMoney$Land", "least", "I", false)
  | 4 => ("IdleMoney$Land", "rate", "I", false)
  | _ => ("IdleMoney$Land", "years", "I", false)
def tyX2 : Nat → FieldType := fun k => match k with
  | 0 => .array .int
  | 1 => .int
  | 2 => .int
  | 3 => .int
  | 4 => .int
  | _ => .int
abbrev wsX20 : List Cond := u_ws RX2 TX2 6
theorem nmX2 : ∀ a, a < 6 → ∀ b, b < 6 → a ≠ b → (TX2 a).2.1 ≠ (TX2 b).2.1 := by decide +kernel
theorem tyX2_ok : ∀ k, k < 6 → parseFieldDescriptor (TX2 k).2.2.1 = some (tyX2 k) := by decide +kernel
abbrev cX2_init : ByteArray := prog_4_method_1_code
def yX2_init : MethodName := ⟨RX2, "<init>", "()V"⟩
abbrev cX2_call : ByteArray := prog_4_method_2_code
def yX2_call : MethodName := ⟨RX2, "call", "([III)V"⟩
abbrev cX2_isCalled : ByteArray := prog_4_method_3_code
def yX2_isCalled : MethodName := ⟨RX2, "isCalled", "([III)Z"⟩
abbrev cX2_copyFrom : ByteArray := prog_4_method_4_code
def yX2_copyFrom : MethodName := ⟨RX2, "copyFrom", "(LIdleMoney$Land;)V"⟩
def RX3 : String := "IdleMoney$Reader"
def TX3 : u_T := fun k => match k with
  | 0 => ("IdleMoney$Reader", "bytes", "[I", false)
  | 1 => ("IdleMoney$Reader", "sorts", "[I", true)
  | 2 => ("IdleMoney$Reader", "starts", "[I", true)
  | 3 => ("IdleMoney$Reader", "ends", "[I", true)
  | 4 => ("IdleMoney$Reader", "words", "[LIdleMoney$Word;", true)
  | 5 => ("IdleMoney$Reader", "at", "I", false)
  | 6 => ("IdleMoney$Reader", "number", "I", false)
  | 7 => ("IdleMoney$Reader", "rules", "LIdleMoney$Rules;", false)
  | 8 => ("IdleMoney$Reader", "fault", "I", false)
  | _ => ("IdleMoney$Reader", "place", "I", false)
def tyX3 : Nat → FieldType := fun k => match k with
  | 0 => .array .int
  | 1 => .array .int
  | 2 => .array .int
  | 3 => .array .int
  | 4 => .array (.object "IdleMoney$Word")
  | 5 => .int
  | 6 => .int
  | 7 => .object "IdleMoney$Rules"
  | 8 => .int
  | _ => .int
abbrev wsX30 : List Cond := u_ws RX3 TX3 10
theorem nmX3 : ∀ a, a < 10 → ∀ b, b < 10 → a ≠ b → (TX3 a).2.1 ≠ (TX3 b).2.1 := by decide +kernel
theorem tyX3_ok : ∀ k, k < 10 → parseFieldDescriptor (TX3 k).2.2.1 = some (tyX3 k) := by decide +kernel
abbrev cX3_init : ByteArray := prog_5_method_1_code
def yX3_init : MethodName := ⟨RX3, "<init>", "()V"⟩
abbrev cX3_read : ByteArray := prog_5_method_2_code
def yX3_read : MethodName := ⟨RX3, "read", "([IILIdleMoney$Rules;)I"⟩
abbrev cX3_scan : ByteArray := prog_5_method_3_code
def yX3_scan : MethodName := ⟨RX3, "scan", "(I)V"⟩
abbrev cX3_sortOf : ByteArray := prog_5_method_4_code
def yX3_sortOf : MethodName := ⟨RX3, "sortOf", "(I)I"⟩
abbrev cX3_fail : ByteArray := prog_5_method_5_code
def yX3_fail : MethodName := ⟨RX3, "fail", "(I)Z"⟩
abbrev cX3_takeSign : ByteArray := prog_5_method_6_code
def yX3_takeSign : MethodName := ⟨RX3, "takeSign", "(I)Z"⟩
abbrev cX3_takeWord : ByteArray := prog_5_method_7_code
def yX3_takeWord : MethodName := ⟨RX3, "takeWord", "(LIdleMoney$Word;)Z"⟩
abbrev cX3_takeNumber : ByteArray := prog_5_method_8_code
def yX3_takeNumber : MethodName := ⟨RX3, "takeNumber", "(II)Z"⟩
abbrev cX3_readLine : ByteArray := prog_5_method_9_code
def yX3_readLine : MethodName := ⟨RX3, "readLine", "()Z"⟩
abbrev cX3_readLand : ByteArray := prog_5_method_10_code
def yX3_readLand : MethodName := ⟨RX3, "readLand", "()Z"⟩
abbrev cX3_readLaw : ByteArray := prog_5_method_11_code
def yX3_readLaw : MethodName := ⟨RX3, "readLaw", "()Z"⟩
abbrev cX3_readPays : ByteArray := prog_5_method_12_code
def yX3_readPays : MethodName := ⟨RX3, "readPays", "()Z"⟩
abbrev cX3_readWait : ByteArray := prog_5_method_13_code
def yX3_readWait : MethodName := ⟨RX3, "readWait", "()Z"⟩
abbrev cX3_readLetter : ByteArray := prog_5_method_14_code
def yX3_readLetter : MethodName := ⟨RX3, "readLetter", "()Z"⟩
abbrev cX3_readHome : ByteArray := prog_5_method_15_code
def yX3_readHome : MethodName := ⟨RX3, "readHome", "()Z"⟩
abbrev cX3_readOrder : ByteArray := prog_5_method_16_code
def yX3_readOrder : MethodName := ⟨RX3, "readOrder", "()Z"⟩
abbrev cX3_orderInHand : ByteArray := prog_5_method_17_code
def yX3_orderInHand : MethodName := ⟨RX3, "orderInHand", "()I"⟩
abbrev cX3_kindInHand : ByteArray := prog_5_method_18_code
def yX3_kindInHand : MethodName := ⟨RX3, "kindInHand", "()I"⟩
abbrev cX3_isName : ByteArray := prog_5_method_19_code
def yX3_isName : MethodName := ⟨RX3, "isName", "()Z"⟩
abbrev cX3_toldLandInHand : ByteArray := prog_5_method_20_code
def yX3_toldLandInHand : MethodName := ⟨RX3, "toldLandInHand", "()I"⟩
abbrev cX3_readSum : ByteArray := prog_5_method_21_code
def yX3_readSum : MethodName := ⟨RX3, "readSum", "(I)Z"⟩
abbrev cX3_signInHand : ByteArray := prog_5_method_22_code
def yX3_signInHand : MethodName := ⟨RX3, "signInHand", "()I"⟩
abbrev cX3_readFactor : ByteArray := prog_5_method_23_code
def yX3_readFactor : MethodName := ⟨RX3, "readFactor", "(I)Z"⟩
abbrev cX3_readIf : ByteArray := prog_5_method_24_code
def yX3_readIf : MethodName := ⟨RX3, "readIf", "(I)Z"⟩
abbrev cX3_readBracket : ByteArray := prog_5_method_25_code
def yX3_readBracket : MethodName := ⟨RX3, "readBracket", "(IZ)Z"⟩
abbrev cX3_pushInHand : ByteArray := prog_5_method_26_code
def yX3_pushInHand : MethodName := ⟨RX3, "pushInHand", "()I"⟩
def RX4 : String := "IdleMoney$Rules"
def TX4 : u_T := fun k => match k with
  | 0 => ("IdleMoney$Rules", "lands", "[LIdleMoney$Land;", true)
  | 1 => ("IdleMoney$Rules", "landCount", "I", false)
  | 2 => ("IdleMoney$Rules", "paid", "[I", true)
  | 3 => ("IdleMoney$Rules", "wait", "I", false)
  | 4 => ("IdleMoney$Rules", "letterCents", "I", false)
  | 5 => ("IdleMoney$Rules", "home", "I", false)
  | 6 => ("IdleMoney$Rules", "order", "[I", true)
  | 7 => ("IdleMoney$Rules", "orderCount", "I", false)
  | 8 => ("IdleMoney$Rules", "lawStart", "[I", true)
  | 9 => ("IdleMoney$Rules", "lawEnd", "[I", true)
  | 10 => ("IdleMoney$Rules", "code", "[I", true)
  | 11 => ("IdleMoney$Rules", "codeLength", "I", false)
  | _ => ("IdleMoney$Rules", "stack", "[J", true)
def tyX4 : Nat → FieldType := fun k => match k with
  | 0 => .array (.object "IdleMoney$Land")
  | 1 => .int
  | 2 => .array .int
  | 3 => .int
  | 4 => .int
  | 5 => .int
  | 6 => .array .int
  | 7 => .int
  | 8 => .array .int
  | 9 => .array .int
  | 10 => .array .int
  | 11 => .int
  | _ => .array .long
abbrev wsX40 : List Cond := u_ws RX4 TX4 13
theorem nmX4 : ∀ a, a < 13 → ∀ b, b < 13 → a ≠ b → (TX4 a).2.1 ≠ (TX4 b).2.1 := by decide +kernel
theorem tyX4_ok : ∀ k, k < 13 → parseFieldDescriptor (TX4 k).2.2.1 = some (tyX4 k) := by decide +kernel
abbrev cX4_init : ByteArray := prog_6_method_1_code
def yX4_init : MethodName := ⟨RX4, "<init>", "()V"⟩
abbrev cX4_clear : ByteArray := prog_6_method_2_code
def yX4_clear : MethodName := ⟨RX4, "clear", "()V"⟩
abbrev cX4_tellTheUntold : ByteArray := prog_6_method_3_code
def yX4_tellTheUntold : MethodName := ⟨RX4, "tellTheUntold", "()V"⟩
abbrev cX4_copyFrom : ByteArray := prog_6_method_4_code
def yX4_copyFrom : MethodName := ⟨RX4, "copyFrom", "(LIdleMoney$Rules;)V"⟩
abbrev cX4_isLand : ByteArray := prog_6_method_5_code
def yX4_isLand : MethodName := ⟨RX4, "isLand", "(I)Z"⟩
abbrev cX4_isLandOrNone : ByteArray := prog_6_method_6_code
def yX4_isLandOrNone : MethodName := ⟨RX4, "isLandOrNone", "(I)Z"⟩
abbrev cX4_landCalled : ByteArray := prog_6_method_7_code
def yX4_landCalled : MethodName := ⟨RX4, "landCalled", "([III)I"⟩
abbrev cX4_isInOrder : ByteArray := prog_6_method_8_code
def yX4_isInOrder : MethodName := ⟨RX4, "isInOrder", "(I)Z"⟩
abbrev cX4_addToOrder : ByteArray := prog_6_method_9_code
def yX4_addToOrder : MethodName := ⟨RX4, "addToOrder", "(I)V"⟩
abbrev cX4_addCode : ByteArray := prog_6_method_10_code
def yX4_addCode : MethodName := ⟨RX4, "addCode", "(I)V"⟩
abbrev cX4_addSign : ByteArray := prog_6_method_11_code
def yX4_addSign : MethodName := ⟨RX4, "addSign", "(I)V"⟩
abbrev cX4_addLaw : ByteArray := prog_6_method_12_code
def yX4_addLaw : MethodName := ⟨RX4, "addLaw", "(III)V"⟩
abbrev cX4_takes : ByteArray := prog_6_method_13_code
def yX4_takes : MethodName := ⟨RX4, "takes", "(II)Z"⟩
abbrev cX4_kindsOf : ByteArray := prog_6_method_14_code
def yX4_kindsOf : MethodName := ⟨RX4, "kindsOf", "(I)I"⟩
abbrev cX4_landOf : ByteArray := prog_6_method_15_code
def yX4_landOf : MethodName := ⟨RX4, "landOf", "(LIdleMoney$Account;)I"⟩
abbrev cX4_sleepOf : ByteArray := prog_6_method_16_code
def yX4_sleepOf : MethodName := ⟨RX4, "sleepOf", "(LIdleMoney$Account;I)I"⟩
abbrev cX4_operandsOf : ByteArray := prog_6_method_17_code
def yX4_operandsOf : MethodName := ⟨RX4, "operandsOf", "(I)I"⟩
abbrev cX4_result : ByteArray := prog_6_method_18_code
def yX4_result : MethodName := ⟨RX4, "result", "(IILIdleMoney$Account;)J"⟩
abbrev cX4_bounded : ByteArray := prog_6_method_19_code
def yX4_bounded : MethodName := ⟨RX4, "bounded", "(J)J"⟩
abbrev cX4_product : ByteArray := prog_6_method_20_code
def yX4_product : MethodName := ⟨RX4, "product", "(JJ)J"⟩
abbrev cX4_quotient : ByteArray := prog_6_method_21_code
def yX4_quotient : MethodName := ⟨RX4, "quotient", "(JJ)J"⟩
abbrev cX4_interestOf : ByteArray := prog_6_method_22_code
def yX4_interestOf : MethodName := ⟨RX4, "interestOf", "(LIdleMoney$Account;I)J"⟩
def RX5 : String := "IdleMoney$Word"
def TX5 : u_T := fun k => match k with
  | _ => ("", "", "", false)
def tyX5 : Nat → FieldType := fun k => match k with
  | _ => .int
abbrev wsX50 : List Cond := u_ws RX5 TX5 0
theorem nmX5 : ∀ a, a < 0 → ∀ b, b < 0 → a ≠ b → (TX5 a).2.1 ≠ (TX5 b).2.1 := by decide +kernel
theorem tyX5_ok : ∀ k, k < 0 → parseFieldDescriptor (TX5 k).2.2.1 = some (tyX5 k) := by decide +kernel
abbrev cX5_of : ByteArray := prog_7_method_4_code
def yX5_of : MethodName := ⟨RX5, "of", "([III)LIdleMoney$Word;"⟩
abbrev cX5_stands : ByteArray := prog_7_method_5_code
def yX5_stands : MethodName := ⟨RX5, "stands", "([III)Z"⟩
def RX6 : String := "IdleMoney$World"
def TX6 : u_T := fun k => match k with
  | 0 => ("IdleMoney$World", "rules", "LIdleMoney$Rules;", true)
  | 1 => ("IdleMoney$World", "accounts", "[LIdleMoney$Account;", true)
  | 2 => ("IdleMoney$World", "accountCount", "I", false)
  | 3 => ("IdleMoney$World", "month", "I", false)
  | 4 => ("IdleMoney$World", "book", "[[I", true)
  | 5 => ("IdleMoney$World", "rowCount", "I", false)
  | 6 => ("IdleMoney$World", "centsClaimed", "J", false)
  | 7 => ("IdleMoney$World", "interestPaid", "[J", true)
  | _ => ("IdleMoney$World", "passedTo", "[J", true)
def tyX6 : Nat → FieldType := fun k => match k with
  | 0 => .object "IdleMoney$Rules"
  | 1 => .array (.object "IdleMoney$Account")
  | 2 => .int
  | 3 => .int
  | 4 => .array (.array .int)
  | 5 => .int
  | 6 => .long
  | 7 => .array .long
  | _ => .array .long
abbrev wsX60 : List Cond := u_ws RX6 TX6 9
theorem nmX6 : ∀ a, a < 9 → ∀ b, b < 9 → a ≠ b → (TX6 a).2.1 ≠ (TX6 b).2.1 := by decide +kernel
theorem tyX6_ok : ∀ k, k < 9 → parseFieldDescriptor (TX6 k).2.2.1 = some (tyX6 k) := by decide +kernel
abbrev cX6_init : ByteArray := prog_8_method_1_code
def yX6_init : MethodName := ⟨RX6, "<init>", "()V"⟩
abbrev cX6_begin : ByteArray := prog_8_method_2_code
def yX6_begin : MethodName := ⟨RX6, "begin", "(LIdleMoney$Rules;)V"⟩
abbrev cX6_copyFrom : ByteArray := prog_8_method_3_code
def yX6_copyFrom : MethodName := ⟨RX6, "copyFrom", "(LIdleMoney$World;)V"⟩
abbrev cX6_hasAccount : ByteArray := prog_8_method_4_code
def yX6_hasAccount : MethodName := ⟨RX6, "hasAccount", "(I)Z"⟩
abbrev cX6_goMonth : ByteArray := prog_8_method_5_code
def yX6_goMonth : MethodName := ⟨RX6, "goMonth", "()I"⟩
abbrev cX6_writeRow : ByteArray := prog_8_method_6_code
def yX6_writeRow : MethodName := ⟨RX6, "writeRow", "(ILIdleMoney$Account;)V"⟩
abbrev cX6_giveBack : ByteArray := prog_8_method_7_code
def yX6_giveBack : MethodName := ⟨RX6, "giveBack", "(LIdleMoney$Account;)J"⟩
abbrev cX6_passOn : ByteArray := prog_8_method_8_code
def yX6_passOn : MethodName := ⟨RX6, "passOn", "(LIdleMoney$Account;I)V"⟩
abbrev cX6_landNowOf : ByteArray := prog_8_method_9_code
def yX6_landNowOf : MethodName := ⟨RX6, "landNowOf", "(LIdleMoney$Account;)I"⟩
abbrev cX6_accountsHeldBy : ByteArray := prog_8_method_10_code
def yX6_accountsHeldBy : MethodName := ⟨RX6, "accountsHeldBy", "(I)I"⟩
abbrev cX6_centsHeldBy : ByteArray := prog_8_method_11_code
def yX6_centsHeldBy : MethodName := ⟨RX6, "centsHeldBy", "(I)J"⟩
abbrev cX6_centsInRowsOf : ByteArray := prog_8_method_12_code
def yX6_centsInRowsOf : MethodName := ⟨RX6, "centsInRowsOf", "(I)J"⟩
abbrev cX6_lettersSent : ByteArray := prog_8_method_13_code
def yX6_lettersSent : MethodName := ⟨RX6, "lettersSent", "()I"⟩
abbrev cX6_centsBroughtIn : ByteArray := prog_8_method_14_code
def yX6_centsBroughtIn : MethodName := ⟨RX6, "centsBroughtIn", "()J"⟩
abbrev cX6_centsCredited : ByteArray := prog_8_method_15_code
def yX6_centsCredited : MethodName := ⟨RX6, "centsCredited", "()J"⟩
abbrev cX6_centsPaidOut : ByteArray := prog_8_method_16_code
def yX6_centsPaidOut : MethodName := ⟨RX6, "centsPaidOut", "()J"⟩
abbrev cX6_centsOfLetters : ByteArray := prog_8_method_17_code
def yX6_centsOfLetters : MethodName := ⟨RX6, "centsOfLetters", "()J"⟩
abbrev cX6_centsWithBank : ByteArray := prog_8_method_18_code
def yX6_centsWithBank : MethodName := ⟨RX6, "centsWithBank", "()J"⟩
abbrev cX6_centsHeld : ByteArray := prog_8_method_19_code
def yX6_centsHeld : MethodName := ⟨RX6, "centsHeld", "()J"⟩
def RX7 : String := "IdleMoney"
def TX7 : u_T := fun k => match k with
  | 0 => ("IdleMoney", "tape", "[I", true)
  | 1 => ("IdleMoney", "reader", "LIdleMoney$Reader;", true)
  | 2 => ("IdleMoney", "draft", "LIdleMoney$Rules;", true)
  | 3 => ("IdleMoney", "forecast", "LIdleMoney$Forecast;", true)
  | 4 => ("IdleMoney", "past", "[LIdleMoney$World;", true)
  | 5 => ("IdleMoney", "world", "LIdleMoney$World;", false)
  | 6 => ("IdleMoney", "tapeLength", "I", false)
  | 7 => ("IdleMoney", "faultPlace", "I", false)
  | 8 => ("IdleMoney", "pastCount", "I", false)
  | 9 => ("IdleMoney", "refusedAsNoSuch", "I", false)
  | 10 => ("IdleMoney", "refusedByArgument", "I", false)
  | _ => ("IdleMoney", "refusedByState", "I", false)
def tyX7 : Nat → FieldType := fun k => match k with
  | 0 => .array .int
  | 1 => .object "IdleMoney$Reader"
  | 2 => .object "IdleMoney$Rules"
  | 3 => .object "IdleMoney$Forecast"
  | 4 => .array (.object "IdleMoney$World")
  | 5 => .object "IdleMoney$World"
  | 6 => .int
  | 7 => .int
  | 8 => .int
  | 9 => .int
  | 10 => .int
  | _ => .int
abbrev wsX70 : List Cond := u_ws RX7 TX7 12
theorem nmX7 : ∀ a, a < 12 → ∀ b, b < 12 → a ≠ b → (TX7 a).2.1 ≠ (TX7 b).2.1 := by decide +kernel
theorem tyX7_ok : ∀ k, k < 12 → parseFieldDescriptor (TX7 k).2.2.1 = some (tyX7 k) := by decide +kernel
abbrev cX7_init : ByteArray := prog_1_method_1_code
def yX7_init : MethodName := ⟨RX7, "<init>", "()V"⟩
abbrev cX7_feed : ByteArray := prog_1_method_2_code
def yX7_feed : MethodName := ⟨RX7, "feed", "(IIIII)I"⟩
abbrev cX7_text : ByteArray := prog_1_method_3_code
def yX7_text : MethodName := ⟨RX7, "text", "(I)I"⟩
abbrev cX7_fault : ByteArray := prog_1_method_4_code
def yX7_fault : MethodName := ⟨RX7, "fault", "()I"⟩
abbrev cX7_open : ByteArray := prog_1_method_5_code
def yX7_open : MethodName := ⟨RX7, "open", "(IIII)I"⟩
abbrev cX7_contact : ByteArray := prog_1_method_6_code
def yX7_contact : MethodName := ⟨RX7, "contact", "(I)I"⟩
abbrev cX7_deposit : ByteArray := prog_1_method_7_code
def yX7_deposit : MethodName := ⟨RX7, "deposit", "(II)I"⟩
abbrev cX7_draw : ByteArray := prog_1_method_8_code
def yX7_draw : MethodName := ⟨RX7, "draw", "(II)I"⟩
abbrev cX7_address : ByteArray := prog_1_method_9_code
def yX7_address : MethodName := ⟨RX7, "address", "(II)I"⟩
abbrev cX7_close : ByteArray := prog_1_method_10_code
def yX7_close : MethodName := ⟨RX7, "close", "(I)I"⟩
abbrev cX7_months : ByteArray := prog_1_method_11_code
def yX7_months : MethodName := ⟨RX7, "months", "(I)I"⟩
abbrev cX7_claim : ByteArray := prog_1_method_12_code
def yX7_claim : MethodName := ⟨RX7, "claim", "(I)J"⟩
abbrev cX7_pass : ByteArray := prog_1_method_13_code
def yX7_pass : MethodName := ⟨RX7, "pass", "(I)I"⟩
abbrev cX7_undo : ByteArray := prog_1_method_14_code
def yX7_undo : MethodName := ⟨RX7, "undo", "()I"⟩
abbrev cX7_told : ByteArray := prog_1_method_15_code
def yX7_told : MethodName := ⟨RX7, "told", "(I)I"⟩
abbrev cX7_land : ByteArray := prog_1_method_16_code
def yX7_land : MethodName := ⟨RX7, "land", "(II)I"⟩
abbrev cX7_purse : ByteArray := prog_1_method_17_code
def yX7_purse : MethodName := ⟨RX7, "purse", "(II)J"⟩
abbrev cX7_letter : ByteArray := prog_1_method_18_code
def yX7_letter : MethodName := ⟨RX7, "letter", "(II)I"⟩
abbrev cX7_pays : ByteArray := prog_1_method_19_code
def yX7_pays : MethodName := ⟨RX7, "pays", "(I)I"⟩
abbrev cX7_account : ByteArray := prog_1_method_20_code
def yX7_account : MethodName := ⟨RX7, "account", "(II)I"⟩
abbrev cX7_sleep : ByteArray := prog_1_method_21_code
def yX7_sleep : MethodName := ⟨RX7, "sleep", "(I)I"⟩
abbrev cX7_soon : ByteArray := prog_1_method_22_code
def yX7_soon : MethodName := ⟨RX7, "soon", "(I)I"⟩
abbrev cX7_worth : ByteArray := prog_1_method_23_code
def yX7_worth : MethodName := ⟨RX7, "worth", "(II)J"⟩
abbrev cX7_row : ByteArray := prog_1_method_24_code
def yX7_row : MethodName := ⟨RX7, "row", "(II)I"⟩
abbrev cX7_ahead : ByteArray := prog_1_method_25_code
def yX7_ahead : MethodName := ⟨RX7, "ahead", "(II)J"⟩
abbrev cX7_letters : ByteArray := prog_1_method_26_code
def yX7_letters : MethodName := ⟨RX7, "letters", "(I)I"⟩
abbrev cX7_rescue : ByteArray := prog_1_method_27_code
def yX7_rescue : MethodName := ⟨RX7, "rescue", "(III)J"⟩
abbrev cX7_books : ByteArray := prog_1_method_28_code
def yX7_books : MethodName := ⟨RX7, "books", "(I)J"⟩
abbrev cX7_print : ByteArray := prog_1_method_29_code
def yX7_print : MethodName := ⟨RX7, "print", "()J"⟩
abbrev cX7_status : ByteArray := prog_1_method_30_code
def yX7_status : MethodName := ⟨RX7, "status", "(I)I"⟩
abbrev cX7_refuseNoSuch : ByteArray := prog_1_method_31_code
def yX7_refuseNoSuch : MethodName := ⟨RX7, "refuseNoSuch", "(Z)V"⟩
abbrev cX7_refuseArgument : ByteArray := prog_1_method_32_code
def yX7_refuseArgument : MethodName := ⟨RX7, "refuseArgument", "(Z)V"⟩
abbrev cX7_refuseState : ByteArray := prog_1_method_33_code
def yX7_refuseState : MethodName := ⟨RX7, "refuseState", "(Z)V"⟩
abbrev cX7_isWithin : ByteArray := prog_1_method_34_code
def yX7_isWithin : MethodName := ⟨RX7, "isWithin", "(III)Z"⟩
abbrev cX7_putOnTape : ByteArray := prog_1_method_35_code
def yX7_putOnTape : MethodName := ⟨RX7, "putOnTape", "(I)V"⟩
abbrev cX7_remember : ByteArray := prog_1_method_36_code
def yX7_remember : MethodName := ⟨RX7, "remember", "()V"⟩
def RX8 : String := "IdleMoneyModel"
def TX8 : u_T := fun k => match k with
  | 0 => ("IdleMoneyModel", "thrown", "I", false)
  | 1 => ("IdleMoneyModel", "refused", "[I", true)
  | 2 => ("IdleMoneyModel", "tape", "I", false)
  | 3 => ("IdleMoneyModel", "size", "I", false)
  | 4 => ("IdleMoneyModel", "at", "I", false)
  | 5 => ("IdleMoneyModel", "place", "I", false)
  | 6 => ("IdleMoneyModel", "fault", "I", false)
  | 7 => ("IdleMoneyModel", "faultAt", "I", false)
  | 8 => ("IdleMoneyModel", "fed", "[I", true)
  | 9 => ("IdleMoneyModel", "now", "[J", true)
  | 10 => ("IdleMoneyModel", "told", "[J", true)
  | 11 => ("IdleMoneyModel", "trial", "[J", true)
  | 12 => ("IdleMoneyModel", "past", "[[J", true)
  | 13 => ("IdleMoneyModel", "backs", "I", false)
  | 14 => ("IdleMoneyModel", "codes", "I", false)
  | 15 => ("IdleMoneyModel", "open", "I", false)
  | 16 => ("IdleMoneyModel", "once", "I", false)
  | 17 => ("IdleMoneyModel", "hasPays", "I", false)
  | 18 => ("IdleMoneyModel", "stack", "[J", true)
  | 19 => ("IdleMoneyModel", "left", "[J", true)
  | _ => ("IdleMoneyModel", "rung", "[J", true)
def tyX8 : Nat → FieldType := fun k => match k with
  | 0 => .int
  | 1 => .array .int
  | 2 => .int
  | 3 => .int
  | 4 => .int
  | 5 => .int
  | 6 => .int
  | 7 => .int
  | 8 => .array .int
  | 9 => .array .long
  | 10 => .array .long
  | 11 => .array .long
  | 12 => .array (.array .long)
  | 13 => .int
  | 14 => .int
  | 15 => .int
  | 16 => .int
  | 17 => .int
  | 18 => .array .long
  | 19 => .array .long
  | _ => .array .long
abbrev wsX80 : List Cond := u_ws RX8 TX8 21
theorem nmX8 : ∀ a, a < 21 → ∀ b, b < 21 → a ≠ b → (TX8 a).2.1 ≠ (TX8 b).2.1 := by decide +kernel
theorem tyX8_ok : ∀ k, k < 21 → parseFieldDescriptor (TX8 k).2.2.1 = some (tyX8 k) := by decide +kernel
abbrev cX8_init : ByteArray := prog_10_method_1_code
def yX8_init : MethodName := ⟨RX8, "<init>", "()V"⟩
abbrev cX8_begins : ByteArray := prog_10_method_2_code
def yX8_begins : MethodName := ⟨RX8, "begins", "([J)V"⟩
abbrev cX8_thrown : ByteArray := prog_10_method_3_code
def yX8_thrown : MethodName := ⟨RX8, "thrown", "()I"⟩
abbrev cX8_bad : ByteArray := prog_10_method_4_code
def yX8_bad : MethodName := ⟨RX8, "bad", "(ZII)Z"⟩
abbrev cX8_in : ByteArray := prog_10_method_5_code
def yX8_in : MethodName := ⟨RX8, "in", "(JJJ)Z"⟩
abbrev cX8_less : ByteArray := prog_10_method_6_code
def yX8_less : MethodName := ⟨RX8, "less", "(JJ)J"⟩
abbrev cX8_more : ByteArray := prog_10_method_7_code
def yX8_more : MethodName := ⟨RX8, "more", "(JJ)J"⟩
abbrev cX8_feed : ByteArray := prog_10_method_8_code
def yX8_feed : MethodName := ⟨RX8, "feed", "(IIIII)I"⟩
abbrev cX8_copies : ByteArray := prog_10_method_9_code
def yX8_copies : MethodName := ⟨RX8, "copies", "([J[J)V"⟩
abbrev cX8_landAt : ByteArray := prog_10_method_10_code
def yX8_landAt : MethodName := ⟨RX8, "landAt", "(II)I"⟩
abbrev cX8_lawAt : ByteArray := prog_10_method_11_code
def yX8_lawAt : MethodName := ⟨RX8, "lawAt", "(II)I"⟩
abbrev cX8_accountAt : ByteArray := prog_10_method_12_code
def yX8_accountAt : MethodName := ⟨RX8, "accountAt", "(II)I"⟩
abbrev cX8_of : ByteArray := prog_10_method_13_code
def yX8_of : MethodName := ⟨RX8, "of", "([JII)J"⟩
abbrev cX8_lands : ByteArray := prog_10_method_14_code
def yX8_lands : MethodName := ⟨RX8, "lands", "()I"⟩
abbrev cX8_many : ByteArray := prog_10_method_15_code
def yX8_many : MethodName := ⟨RX8, "many", "()I"⟩
abbrev cX8_byteAt : ByteArray := prog_10_method_16_code
def yX8_byteAt : MethodName := ⟨RX8, "byteAt", "(I)I"⟩
abbrev cX8_here : ByteArray := prog_10_method_17_code
def yX8_here : MethodName := ⟨RX8, "here", "()I"⟩
abbrev cX8_fine : ByteArray := prog_10_method_18_code
def yX8_fine : MethodName := ⟨RX8, "fine", "()Z"⟩
abbrev cX8_wrong : ByteArray := prog_10_method_19_code
def yX8_wrong : MethodName := ⟨RX8, "wrong", "(II)V"⟩
abbrev cX8_isSmall : ByteArray := prog_10_method_20_code
def yX8_isSmall : MethodName := ⟨RX8, "isSmall", "(I)Z"⟩
abbrev cX8_isDigit : ByteArray := prog_10_method_21_code
def yX8_isDigit : MethodName := ⟨RX8, "isDigit", "(I)Z"⟩
abbrev cX8_isWord : ByteArray := prog_10_method_22_code
def yX8_isWord : MethodName := ⟨RX8, "isWord", "(Ljava/lang/String;)Z"⟩
abbrev cX8_takes : ByteArray := prog_10_method_23_code
def yX8_takes : MethodName := ⟨RX8, "takes", "(Ljava/lang/String;)Z"⟩
abbrev cX8_must : ByteArray := prog_10_method_24_code
def yX8_must : MethodName := ⟨RX8, "must", "(Ljava/lang/String;)V"⟩
abbrev cX8_sign : ByteArray := prog_10_method_25_code
def yX8_sign : MethodName := ⟨RX8, "sign", "(I)V"⟩
abbrev cX8_number : ByteArray := prog_10_method_26_code
def yX8_number : MethodName := ⟨RX8, "number", "(II)I"⟩
abbrev cX8_wordOf : ByteArray := prog_10_method_27_code
def yX8_wordOf : MethodName := ⟨RX8, "wordOf", "(I)Ljava/lang/String;"⟩
abbrev cX8_one : ByteArray := prog_10_method_28_code
def yX8_one : MethodName := ⟨RX8, "one", "(II)I"⟩
abbrev cX8_name : ByteArray := prog_10_method_29_code
def yX8_name : MethodName := ⟨RX8, "name", "()I"⟩
abbrev cX8_landOf : ByteArray := prog_10_method_30_code
def yX8_landOf : MethodName := ⟨RX8, "landOf", "(I)I"⟩
abbrev cX8_landHere : ByteArray := prog_10_method_31_code
def yX8_landHere : MethodName := ⟨RX8, "landHere", "()I"⟩
abbrev cX8_readsLand : ByteArray := prog_10_method_32_code
def yX8_readsLand : MethodName := ⟨RX8, "readsLand", "(I)V"⟩
abbrev cX8_tells : ByteArray := prog_10_method_33_code
def yX8_tells : MethodName := ⟨RX8, "tells", "(I)V"⟩
abbrev cX8_opens : ByteArray := prog_10_method_34_code
def yX8_opens : MethodName := ⟨RX8, "opens", "(I)V"⟩
abbrev cX8_factor : ByteArray := prog_10_method_35_code
def yX8_factor : MethodName := ⟨RX8, "factor", "()V"⟩
abbrev cX8_product : ByteArray := prog_10_method_36_code
def yX8_product : MethodName := ⟨RX8, "product", "()V"⟩
abbrev cX8_sum : ByteArray := prog_10_method_37_code
def yX8_sum : MethodName := ⟨RX8, "sum", "()V"⟩
abbrev cX8_readsSleep : ByteArray := prog_10_method_38_code
def yX8_readsSleep : MethodName := ⟨RX8, "readsSleep", "()V"⟩
abbrev cX8_readsPays : ByteArray := prog_10_method_39_code
def yX8_readsPays : MethodName := ⟨RX8, "readsPays", "()V"⟩
abbrev cX8_readsOrder : ByteArray := prog_10_method_40_code
def yX8_readsOrder : MethodName := ⟨RX8, "readsOrder", "()V"⟩
abbrev cX8_isOnce : ByteArray := prog_10_method_41_code
def yX8_isOnce : MethodName := ⟨RX8, "isOnce", "(Ljava/lang/String;I)Z"⟩
abbrev cX8_readsLine : ByteArray := prog_10_method_42_code
def yX8_readsLine : MethodName := ⟨RX8, "readsLine", "()V"⟩
abbrev cX8_text : ByteArray := prog_10_method_43_code
def yX8_text : MethodName := ⟨RX8, "text", "(I)I"⟩
abbrev cX8_fault : ByteArray := prog_10_method_44_code
def yX8_fault : MethodName := ⟨RX8, "fault", "()I"⟩
abbrev cX8_takesKind : ByteArray := prog_10_method_45_code
def yX8_takesKind : MethodName := ⟨RX8, "takesKind", "([JII)Z"⟩
abbrev cX8_belongs : ByteArray := prog_10_method_46_code
def yX8_belongs : MethodName := ⟨RX8, "belongs", "([JI)I"⟩
abbrev cX8_held : ByteArray := prog_10_method_47_code
def yX8_held : MethodName := ⟨RX8, "held", "(J)J"⟩
abbrev cX8_floor : ByteArray := prog_10_method_48_code
def yX8_floor : MethodName := ⟨RX8, "floor", "(JJ)J"⟩
abbrev cX8_times : ByteArray := prog_10_method_49_code
def yX8_times : MethodName := ⟨RX8, "times", "(JJ)J"⟩
abbrev cX8_isOpen : ByteArray := prog_10_method_50_code
def yX8_isOpen : MethodName := ⟨RX8, "isOpen", "([JI)Z"⟩
abbrev cX8_sleepOf : ByteArray := prog_10_method_51_code
def yX8_sleepOf : MethodName := ⟨RX8, "sleepOf", "([JII)J"⟩
abbrev cX8_sets : ByteArray := prog_10_method_52_code
def yX8_sets : MethodName := ⟨RX8, "sets", "([JIIJ)V"⟩
abbrev cX8_adds : ByteArray := prog_10_method_53_code
def yX8_adds : MethodName := ⟨RX8, "adds", "([JIIJ)V"⟩
abbrev cX8_writesTo : ByteArray := prog_10_method_54_code
def yX8_writesTo : MethodName := ⟨RX8, "writesTo", "([JIJ)V"⟩
abbrev cX8_hands : ByteArray := prog_10_method_55_code
def yX8_hands : MethodName := ⟨RX8, "hands", "([JIIJ)V"⟩
abbrev cX8_goes : ByteArray := prog_10_method_56_code
def yX8_goes : MethodName := ⟨RX8, "goes", "([JIJ)Z"⟩
abbrev cX8_monthsGo : ByteArray := prog_10_method_57_code
def yX8_monthsGo : MethodName := ⟨RX8, "monthsGo", "([JI)I"⟩
abbrev cX8_remembers : ByteArray := prog_10_method_58_code
def yX8_remembers : MethodName := ⟨RX8, "remembers", "()V"⟩
abbrev cX8_undo : ByteArray := prog_10_method_59_code
def yX8_undo : MethodName := ⟨RX8, "undo", "()I"⟩
abbrev cX8_isLand : ByteArray := prog_10_method_60_code
def yX8_isLand : MethodName := ⟨RX8, "isLand", "(I)Z"⟩
abbrev cX8_isAccount : ByteArray := prog_10_method_61_code
def yX8_isAccount : MethodName := ⟨RX8, "isAccount", "(I)Z"⟩
abbrev cX8_isLive : ByteArray := prog_10_method_62_code
def yX8_isLive : MethodName := ⟨RX8, "isLive", "(I)Z"⟩
abbrev cX8_open : ByteArray := prog_10_method_63_code
def yX8_open : MethodName := ⟨RX8, "open", "(IIII)I"⟩
abbrev cX8_touches : ByteArray := prog_10_method_64_code
def yX8_touches : MethodName := ⟨RX8, "touches", "([JI)V"⟩
abbrev cX8_contact : ByteArray := prog_10_method_65_code
def yX8_contact : MethodName := ⟨RX8, "contact", "(I)I"⟩
abbrev cX8_deposit : ByteArray := prog_10_method_66_code
def yX8_deposit : MethodName := ⟨RX8, "deposit", "(II)I"⟩
abbrev cX8_draw : ByteArray := prog_10_method_67_code
def yX8_draw : MethodName := ⟨RX8, "draw", "(II)I"⟩
abbrev cX8_address : ByteArray := prog_10_method_68_code
def yX8_address : MethodName := ⟨RX8, "address", "(II)I"⟩
abbrev cX8_close : ByteArray := prog_10_method_69_code
def yX8_close : MethodName := ⟨RX8, "close", "(I)I"⟩
abbrev cX8_months : ByteArray := prog_10_method_70_code
def yX8_months : MethodName := ⟨RX8, "months", "(I)I"⟩
abbrev cX8_interestOf : ByteArray := prog_10_method_71_code
def yX8_interestOf : MethodName := ⟨RX8, "interestOf", "(II)J"⟩
abbrev cX8_canClaim : ByteArray := prog_10_method_72_code
def yX8_canClaim : MethodName := ⟨RX8, "canClaim", "(I)Z"⟩
abbrev cX8_claim : ByteArray := prog_10_method_73_code
def yX8_claim : MethodName := ⟨RX8, "claim", "(I)J"⟩
abbrev cX8_pass : ByteArray := prog_10_method_74_code
def yX8_pass : MethodName := ⟨RX8, "pass", "(I)I"⟩
abbrev cX8_told : ByteArray := prog_10_method_75_code
def yX8_told : MethodName := ⟨RX8, "told", "(I)I"⟩
abbrev cX8_isHeldBy : ByteArray := prog_10_method_76_code
def yX8_isHeldBy : MethodName := ⟨RX8, "isHeldBy", "(II)Z"⟩
abbrev cX8_land : ByteArray := prog_10_method_77_code
def yX8_land : MethodName := ⟨RX8, "land", "(II)I"⟩
abbrev cX8_purse : ByteArray := prog_10_method_78_code
def yX8_purse : MethodName := ⟨RX8, "purse", "(II)J"⟩
abbrev cX8_letter : ByteArray := prog_10_method_79_code
def yX8_letter : MethodName := ⟨RX8, "letter", "(II)I"⟩
abbrev cX8_pays : ByteArray := prog_10_method_80_code
def yX8_pays : MethodName := ⟨RX8, "pays", "(I)I"⟩
abbrev cX8_account : ByteArray := prog_10_method_81_code
def yX8_account : MethodName := ⟨RX8, "account", "(II)I"⟩
abbrev cX8_sleep : ByteArray := prog_10_method_82_code
def yX8_sleep : MethodName := ⟨RX8, "sleep", "(I)I"⟩
abbrev cX8_soon : ByteArray := prog_10_method_83_code
def yX8_soon : MethodName := ⟨RX8, "soon", "(I)I"⟩
abbrev cX8_worth : ByteArray := prog_10_method_84_code
def yX8_worth : MethodName := ⟨RX8, "worth", "(II)J"⟩
abbrev cX8_row : ByteArray := prog_10_method_85_code
def yX8_row : MethodName := ⟨RX8, "row", "(II)I"⟩
abbrev cX8_ahead : ByteArray := prog_10_method_86_code
def yX8_ahead : MethodName := ⟨RX8, "ahead", "(II)J"⟩
abbrev cX8_letters : ByteArray := prog_10_method_87_code
def yX8_letters : MethodName := ⟨RX8, "letters", "(I)I"⟩
abbrev cX8_handedBy : ByteArray := prog_10_method_88_code
def yX8_handedBy : MethodName := ⟨RX8, "handedBy", "(IIZ)J"⟩
abbrev cX8_rescue : ByteArray := prog_10_method_89_code
def yX8_rescue : MethodName := ⟨RX8, "rescue", "(III)J"⟩
abbrev cX8_books : ByteArray := prog_10_method_90_code
def yX8_books : MethodName := ⟨RX8, "books", "(I)J"⟩
abbrev cX8_print : ByteArray := prog_10_method_91_code
def yX8_print : MethodName := ⟨RX8, "print", "()J"⟩
abbrev cX8_status : ByteArray := prog_10_method_92_code
def yX8_status : MethodName := ⟨RX8, "status", "(I)I"⟩
def RJx145de : String := "java/io/Serializable"
def TJx145de : u_T := fun k => match k with
  | _ => ("", "", "", false)
def tyJx145de : Nat → FieldType := fun k => match k with
  | _ => .int
abbrev wsJx145de0 : List Cond := u_ws RJx145de TJx145de 0
theorem nmJx145de : ∀ a, a < 0 → ∀ b, b < 0 → a ≠ b → (TJx145de a).2.1 ≠ (TJx145de b).2.1 := by decide +kernel
theorem tyJx145de_ok : ∀ k, k < 0 → parseFieldDescriptor (TJx145de k).2.2.1 = some (tyJx145de k) := by decide +kernel
def RJx9f9b0 : String := "java/lang/CharSequence"
def TJx9f9b0 : u_T := fun k => match k with
  | _ => ("", "", "", false)
def tyJx9f9b0 : Nat → FieldType := fun k => match k with
  | _ => .int
abbrev wsJx9f9b00 : List Cond := u_ws RJx9f9b0 TJx9f9b0 0
theorem nmJx9f9b0 : ∀ a, a < 0 → ∀ b, b < 0 → a ≠ b → (TJx9f9b0 a).2.1 ≠ (TJx9f9b0 b).2.1 := by decide +kernel
theorem tyJx9f9b0_ok : ∀ k, k < 0 → parseFieldDescriptor (TJx9f9b0 k).2.2.1 = some (tyJx9f9b0 k) := by decide +kernel
def RJxb160c : String := "java/lang/Comparable"
def TJxb160c : u_T := fun k => match k with
  | _ => ("", "", "", false)
def tyJxb160c : Nat → FieldType := fun k => match k with
  | _ => .int
abbrev wsJxb160c0 : List Cond := u_ws RJxb160c TJxb160c 0
theorem nmJxb160c : ∀ a, a < 0 → ∀ b, b < 0 → a ≠ b → (TJxb160c a).2.1 ≠ (TJxb160c b).2.1 := by decide +kernel
theorem tyJxb160c_ok : ∀ k, k < 0 → parseFieldDescriptor (TJxb160c k).2.2.1 = some (tyJxb160c k) := by decide +kernel
def RJx29ce0 : String := "java/lang/Enum"
def TJx29ce0 : u_T := fun k => match k with
  | _ => ("", "", "", false)
def tyJx29ce0 : Nat → FieldType := fun k => match k with
  | _ => .int
abbrev wsJx29ce00 : List Cond := u_ws RJx29ce0 TJx29ce0 0
theorem nmJx29ce0 : ∀ a, a < 0 → ∀ b, b < 0 → a ≠ b → (TJx29ce0 a).2.1 ≠ (TJx29ce0 b).2.1 := by decide +kernel
theorem tyJx29ce0_ok : ∀ k, k < 0 → parseFieldDescriptor (TJx29ce0 k).2.2.1 = some (tyJx29ce0 k) := by decide +kernel
def RJ6 : String := "java/lang/Integer"
def TJ6 : u_T := fun k => match k with
  | _ => ("", "", "", false)
def tyJ6 : Nat → FieldType := fun k => match k with
  | _ => .int
abbrev wsJ60 : List Cond := u_ws RJ6 TJ6 0
theorem nmJ6 : ∀ a, a < 0 → ∀ b, b < 0 → a ≠ b → (TJ6 a).2.1 ≠ (TJ6 b).2.1 := by decide +kernel
theorem tyJ6_ok : ∀ k, k < 0 → parseFieldDescriptor (TJ6 k).2.2.1 = some (tyJ6 k) := by decide +kernel
abbrev cJ6_bitCount_0f7a4 : ByteArray := prog_18_method_49_code
def yJ6_bitCount_0f7a4 : MethodName := ⟨RJ6, "bitCount", "(I)I"⟩
def RJ9 : String := "java/lang/Math"
def TJ9 : u_T := fun k => match k with
  | _ => ("", "", "", false)
def tyJ9 : Nat → FieldType := fun k => match k with
  | _ => .int
abbrev wsJ90 : List Cond := u_ws RJ9 TJ9 0
theorem nmJ9 : ∀ a, a < 0 → ∀ b, b < 0 → a ≠ b → (TJ9 a).2.1 ≠ (TJ9 b).2.1 := by decide +kernel
theorem tyJ9_ok : ∀ k, k < 0 → parseFieldDescriptor (TJ9 k).2.2.1 = some (tyJ9 k) := by decide +kernel
abbrev cJ9_floorDiv_f86c9 : ByteArray := prog_19_method_49_code
def yJ9_floorDiv_f86c9 : MethodName := ⟨RJ9, "floorDiv", "(JJ)J"⟩
abbrev cJ9_abs_067f4 : ByteArray := prog_19_method_61_code
def yJ9_abs_067f4 : MethodName := ⟨RJ9, "abs", "(J)J"⟩
abbrev cJ9_max_7cf53 : ByteArray := prog_19_method_65_code
def yJ9_max_7cf53 : MethodName := ⟨RJ9, "max", "(II)I"⟩
abbrev cJ9_max_f86c9 : ByteArray := prog_19_method_66_code
def yJ9_max_f86c9 : MethodName := ⟨RJ9, "max", "(JJ)J"⟩
abbrev cJ9_min_7cf53 : ByteArray := prog_19_method_69_code
def yJ9_min_7cf53 : MethodName := ⟨RJ9, "min", "(II)I"⟩
abbrev cJ9_min_f86c9 : ByteArray := prog_19_method_70_code
def yJ9_min_f86c9 : MethodName := ⟨RJ9, "min", "(JJ)J"⟩
def RJ0 : String := "java/lang/String"
def TJ0 : u_T := fun k => match k with
  | _ => ("", "", "", false)
def tyJ0 : Nat → FieldType := fun k => match k with
  | _ => .int
abbrev wsJ00 : List Cond := u_ws RJ0 TJ0 0
theorem nmJ0 : ∀ a, a < 0 → ∀ b, b < 0 → a ≠ b → (TJ0 a).2.1 ≠ (TJ0 b).2.1 := by decide +kernel
theorem tyJ0_ok : ∀ k, k < 0 → parseFieldDescriptor (TJ0 k).2.2.1 = some (tyJ0 k) := by decide +kernel
abbrev cJ0_length_8abf5 : ByteArray := prog_21_method_54_code
def yJ0_length_8abf5 : MethodName := ⟨RJ0, "length", "()I"⟩
abbrev cJ0_charAt_5068e : ByteArray := prog_21_method_56_code
def yJ0_charAt_5068e : MethodName := ⟨RJ0, "charAt", "(I)C"⟩
abbrev cJ0_coder_7d493 : ByteArray := prog_21_method_152_code
def yJ0_coder_7d493 : MethodName := ⟨RJ0, "coder", "()B"⟩
abbrev cJ0_isLatin1_aae02 : ByteArray := prog_21_method_154_code
def yJ0_isLatin1_aae02 : MethodName := ⟨RJ0, "isLatin1", "()Z"⟩
abbrev cJ0_checkIndex_df160 : ByteArray := prog_21_method_155_code
def yJ0_checkIndex_df160 : MethodName := ⟨RJ0, "checkIndex", "(II)V"⟩
def RJ1 : String := "java/lang/StringLatin1"
def TJ1 : u_T := fun k => match k with
  | _ => ("", "", "", false)
def tyJ1 : Nat → FieldType := fun k => match k with
  | _ => .int
abbrev wsJ10 : List Cond := u_ws RJ1 TJ1 0
theorem nmJ1 : ∀ a, a < 0 → ∀ b, b < 0 → a ≠ b → (TJ1 a).2.1 ≠ (TJ1 b).2.1 := by decide +kernel
theorem tyJ1_ok : ∀ k, k < 0 → parseFieldDescriptor (TJ1 k).2.2.1 = some (tyJ1 k) := by decide +kernel
abbrev cJ1_charAt_3b067 : ByteArray := prog_22_method_2_code
def yJ1_charAt_3b067 : MethodName := ⟨RJ1, "charAt", "([BI)C"⟩
def RJ2 : String := "java/lang/StringUTF16"
def TJ2 : u_T := fun k => match k with
  | _ => ("", "", "", false)
def tyJ2 : Nat → FieldType := fun k => match k with
  | _ => .int
abbrev wsJ20 : List Cond := u_ws RJ2 TJ2 0
theorem nmJ2 : ∀ a, a < 0 → ∀ b, b < 0 → a ≠ b → (TJ2 a).2.1 ≠ (TJ2 b).2.1 := by decide +kernel
theorem tyJ2_ok : ∀ k, k < 0 → parseFieldDescriptor (TJ2 k).2.2.1 = some (tyJ2 k) := by decide +kernel
abbrev cJ2_getChar_3b067 : ByteArray := prog_23_method_5_code
def yJ2_getChar_3b067 : MethodName := ⟨RJ2, "getChar", "([BI)C"⟩
abbrev cJ2_length_9d52b : ByteArray := prog_23_method_6_code
def yJ2_length_9d52b : MethodName := ⟨RJ2, "length", "([B)I"⟩
abbrev cJ2_charAt_3b067 : ByteArray := prog_23_method_83_code
def yJ2_charAt_3b067 : MethodName := ⟨RJ2, "charAt", "([BI)C"⟩
abbrev cJ2_checkIndex_2214a : ByteArray := prog_23_method_91_code
def yJ2_checkIndex_2214a : MethodName := ⟨RJ2, "checkIndex", "(I[B)V"⟩
def RJ10 : String := "java/lang/System"
def TJ10 : u_T := fun k => match k with
  | _ => ("", "", "", false)
def tyJ10 : Nat → FieldType := fun k => match k with
  | _ => .int
abbrev wsJ100 : List Cond := u_ws RJ10 TJ10 0
theorem nmJ10 : ∀ a, a < 0 → ∀ b, b < 0 → a ≠ b → (TJ10 a).2.1 ≠ (TJ10 b).2.1 := by decide +kernel
theorem tyJ10_ok : ∀ k, k < 0 → parseFieldDescriptor (TJ10 k).2.2.1 = some (tyJ10 k) := by decide +kernel
def RJxfd54e : String := "java/lang/constant/Constable"
def TJxfd54e : u_T := fun k => match k with
  | _ => ("", "", "", false)
def tyJxfd54e : Nat → FieldType := fun k => match k with
  | _ => .int
abbrev wsJxfd54e0 : List Cond := u_ws RJxfd54e TJxfd54e 0
theorem nmJxfd54e : ∀ a, a < 0 → ∀ b, b < 0 → a ≠ b → (TJxfd54e a).2.1 ≠ (TJxfd54e b).2.1 := by decide +kernel
theorem tyJxfd54e_ok : ∀ k, k < 0 → parseFieldDescriptor (TJxfd54e k).2.2.1 = some (tyJxfd54e k) := by decide +kernel
def RJx3cf43 : String := "java/lang/constant/ConstantDesc"
def TJx3cf43 : u_T := fun k => match k with
  | _ => ("", "", "", false)
def tyJx3cf43 : Nat → FieldType := fun k => match k with
  | _ => .int
abbrev wsJx3cf430 : List Cond := u_ws RJx3cf43 TJx3cf43 0
theorem nmJx3cf43 : ∀ a, a < 0 → ∀ b, b < 0 → a ≠ b → (TJx3cf43 a).2.1 ≠ (TJx3cf43 b).2.1 := by decide +kernel
theorem tyJx3cf43_ok : ∀ k, k < 0 → parseFieldDescriptor (TJx3cf43 k).2.2.1 = some (tyJx3cf43 k) := by decide +kernel
def RJ3 : String := "jdk/internal/util/Preconditions"
def TJ3 : u_T := fun k => match k with
  | _ => ("", "", "", false)
def tyJ3 : Nat → FieldType := fun k => match k with
  | _ => .int
abbrev wsJ30 : List Cond := u_ws RJ3 TJ3 0
theorem nmJ3 : ∀ a, a < 0 → ∀ b, b < 0 → a ≠ b → (TJ3 a).2.1 ≠ (TJ3 b).2.1 := by decide +kernel
theorem tyJ3_ok : ∀ k, k < 0 → parseFieldDescriptor (TJ3 k).2.2.1 = some (tyJ3 k) := by decide +kernel
abbrev cJ3_checkIndex_8e157 : ByteArray := prog_29_method_11_code
def yJ3_checkIndex_8e157 : MethodName := ⟨RJ3, "checkIndex", "(IILjava/util/function/BiFunction;)I"⟩
def RL : String := "IdleMoneyLaw"
abbrev cL_text : ByteArray := method_3_code
def yL_text : MethodName := ⟨RL, "text", "(LIdleMoney;I[J)I"⟩
abbrev cL_open : ByteArray := method_4_code
def yL_open : MethodName := ⟨RL, "open", "(LIdleMoney;IIII[J)I"⟩
abbrev cL_contact : ByteArray := method_5_code
def yL_contact : MethodName := ⟨RL, "contact", "(LIdleMoney;I[J)I"⟩
abbrev cL_deposit : ByteArray := method_6_code
def yL_deposit : MethodName := ⟨RL, "deposit", "(LIdleMoney;II[J)I"⟩
abbrev cL_draw : ByteArray := method_7_code
def yL_draw : MethodName := ⟨RL, "draw", "(LIdleMoney;II[J)I"⟩
abbrev cL_address : ByteArray := method_8_code
def yL_address : MethodName := ⟨RL, "address", "(LIdleMoney;II[J)I"⟩
abbrev cL_close : ByteArray := method_9_code
def yL_close : MethodName := ⟨RL, "close", "(LIdleMoney;I[J)I"⟩
abbrev cL_months : ByteArray := method_10_code
def yL_months : MethodName := ⟨RL, "months", "(LIdleMoney;I[J)I"⟩
abbrev cL_claim : ByteArray := method_11_code
def yL_claim : MethodName := ⟨RL, "claim", "(LIdleMoney;I[J)I"⟩
abbrev cL_pass : ByteArray := method_12_code
def yL_pass : MethodName := ⟨RL, "pass", "(LIdleMoney;I[J)I"⟩
abbrev cL_told : ByteArray := method_13_code
def yL_told : MethodName := ⟨RL, "told", "(LIdleMoney;I[J)I"⟩
abbrev cL_land : ByteArray := method_14_code
def yL_land : MethodName := ⟨RL, "land", "(LIdleMoney;II[J)I"⟩
abbrev cL_purse : ByteArray := method_15_code
def yL_purse : MethodName := ⟨RL, "purse", "(LIdleMoney;II[J)I"⟩
abbrev cL_letter : ByteArray := method_16_code
def yL_letter : MethodName := ⟨RL, "letter", "(LIdleMoney;II[J)I"⟩
abbrev cL_pays : ByteArray := method_17_code
def yL_pays : MethodName := ⟨RL, "pays", "(LIdleMoney;I[J)I"⟩
abbrev cL_account : ByteArray := method_18_code
def yL_account : MethodName := ⟨RL, "account", "(LIdleMoney;II[J)I"⟩
abbrev cL_sleep : ByteArray := method_19_code
def yL_sleep : MethodName := ⟨RL, "sleep", "(LIdleMoney;I[J)I"⟩
abbrev cL_soon : ByteArray := method_20_code
def yL_soon : MethodName := ⟨RL, "soon", "(LIdleMoney;I[J)I"⟩
abbrev cL_worth : ByteArray := method_21_code
def yL_worth : MethodName := ⟨RL, "worth", "(LIdleMoney;II[J)I"⟩
abbrev cL_row : ByteArray := method_22_code
def yL_row : MethodName := ⟨RL, "row", "(LIdleMoney;II[J)I"⟩
abbrev cL_ahead : ByteArray := method_23_code
def yL_ahead : MethodName := ⟨RL, "ahead", "(LIdleMoney;II[J)I"⟩
abbrev cL_letters : ByteArray := method_24_code
def yL_letters : MethodName := ⟨RL, "letters", "(LIdleMoney;I[J)I"⟩
abbrev cL_rescue : ByteArray := method_25_code
def yL_rescue : MethodName := ⟨RL, "rescue", "(LIdleMoney;III[J)I"⟩
abbrev cL_books : ByteArray := method_26_code
def yL_books : MethodName := ⟨RL, "books", "(LIdleMoney;I[J)I"⟩
abbrev cL_law : ByteArray := code
def yL_law : MethodName := ⟨RL, "law", "([I)Z"⟩
end
section
/-! machine numbers as Int: qI z, qL z stand for z modulo 2^32, 2^64 -/
abbrev qI (z : Int) : Value := .int (Int32.ofInt z)
abbrev qL (z : Int) : Value := .long (Int64.ofInt z)
abbrev qR (r : Option Nat) : Value := va_rf r
theorem qi_toInt {a : Int} (ha : -2147483648 ≤ a ∧ a < 2147483648) : (Int32.ofInt a).toInt = a := Int32.toInt_ofInt_of_le (by omega) (by omega)
theorem ql_toInt {a : Int} (ha : -9223372036854775808 ≤ a ∧ a < 9223372036854775808) : (Int64.ofInt a).toInt = a := Int64.toInt_ofInt_of_le (by omega) (by omega)
theorem qi_lt {a b : Int} (ha : -2147483648 ≤ a ∧ a < 2147483648) (hb : -2147483648 ≤ b ∧ b < 2147483648) : Int32.ofInt a < Int32.ofInt b ↔ a < b := by
  rw [Int32.lt_iff_toInt_lt, qi_toInt ha, qi_toInt hb]
theorem qi_le {a b : Int} (ha : -2147483648 ≤ a ∧ a < 2147483648) (hb : -2147483648 ≤ b ∧ b < 2147483648) : Int32.ofInt a ≤ Int32.ofInt b ↔ a ≤ b := by
  rw [Int32.le_iff_toInt_le, qi_toInt ha, qi_toInt hb]
theorem qi_eq {a b : Int} (ha : -2147483648 ≤ a ∧ a < 2147483648) (hb : -2147483648 ≤ b ∧ b < 2147483648) : Int32.ofInt a = Int32.ofInt b ↔ a = b := by
  rw [← Int32.toInt_inj, qi_toInt ha, qi_toInt hb]
theorem ql_lt {a b : Int} (ha : -9223372036854775808 ≤ a ∧ a < 9223372036854775808) (hb : -9223372036854775808 ≤ b ∧ b < 9223372036854775808) : Int64.ofInt a < Int64.ofInt b ↔ a < b := by
  rw [Int64.lt_iff_toInt_lt, ql_toInt ha, ql_toInt hb]
theorem ql_eq {a b : Int} (ha : -9223372036854775808 ≤ a ∧ a < 9223372036854775808) (hb : -9223372036854775808 ≤ b ∧ b < 9223372036854775808) : Int64.ofInt a = Int64.ofInt b ↔ a = b := by
  rw [← Int64.toInt_inj, ql_toInt ha, ql_toInt hb]
theorem qi_0 : (0 : Int32) = Int32.ofInt 0 := rfl
theorem qi_lt0 {a : Int} (ha : -2147483648 ≤ a ∧ a < 2147483648) : Int32.ofInt a < 0 ↔ a < 0 := by rw [qi_0, qi_lt ha (by decide)]
theorem qi_ge0 {a : Int} (ha : -2147483648 ≤ a ∧ a < 2147483648) : 0 ≤ Int32.ofInt a ↔ 0 ≤ a := by rw [qi_0, qi_le (by decide) ha]
theorem qi_le0 {a : Int} (ha : -2147483648 ≤ a ∧ a < 2147483648) : Int32.ofInt a ≤ 0 ↔ a ≤ 0 := by rw [qi_0, qi_le ha (by decide)]
theorem qi_gt0 {a : Int} (ha : -2147483648 ≤ a ∧ a < 2147483648) : 0 < Int32.ofInt a ↔ 0 < a := by rw [qi_0, qi_lt (by decide) ha]
theorem qi_eq0 {a : Int} (ha : -2147483648 ≤ a ∧ a < 2147483648) : Int32.ofInt a = 0 ↔ a = 0 := by rw [qi_0, qi_eq ha (by decide)]
theorem qi_nat {k : Nat} : Int32.ofInt (k : Int) = Int32.ofNat k := Int32.ofInt_eq_ofNat
theorem qi_cl {a : Int} (ha : 0 ≤ a ∧ a < 2147483648) : (Int32.ofInt a).toNatClampNeg = a.toNat := by
  show ((Int32.ofInt a).toInt).toNat = a.toNat
  rw [qi_toInt (by omega)]
theorem qi_in {a : Int} {n : Nat} (ha : 0 ≤ a ∧ a < (n : Int)) (hn : n < 2147483648) : vp_in (Int32.ofInt a) n := by
  rw [vp_in_iff, qi_toInt (by omega)]
  exact ha
theorem qi_64 {a : Int} (ha : -2147483648 ≤ a ∧ a < 2147483648) : (Int32.ofInt a).toInt64 = Int64.ofInt a := by
  rw [← Int64.toInt_inj, Int32.toInt_toInt64, qi_toInt ha, ql_toInt (by omega)]
theorem qi_self (v : Int32) : v = Int32.ofInt v.toInt := (Int32.ofInt_toInt v).symm
theorem qi_rng (v : Int32) : -2147483648 ≤ v.toInt ∧ v.toInt < 2147483648 := ⟨by have := Int32.le_toInt v; omega, by have := Int32.toInt_lt v; omega⟩
theorem qi_div {a b : Int} (ha : -2147483647 ≤ a ∧ a < 2147483648) (hb : -2147483648 ≤ b ∧ b < 2147483648) : Int32.ofInt a / Int32.ofInt b = Int32.ofInt (a.tdiv b) := by
  rw [← Int32.toInt_inj, Int32.toInt_div, qi_toInt (by omega), qi_toInt hb, Int32.toInt_ofInt]
theorem qi_rem {a b : Int} (ha : -2147483648 ≤ a ∧ a < 2147483648) (hb : -2147483648 ≤ b ∧ b < 2147483648) : Int32.ofInt a % Int32.ofInt b = Int32.ofInt (a.tmod b) := by
  have h : (a.tmod b) = (Int32.ofInt a % Int32.ofInt b).toInt := by rw [Int32.toInt_mod, qi_toInt ha, qi_toInt hb]
  rw [h]; exact qi_self _
theorem ql_div {a b : Int} (ha : -9223372036854775808 ≤ a ∧ a < 9223372036854775808) (hb : -9223372036854775808 ≤ b ∧ b < 9223372036854775808) : Int64.ofInt a / Int64.ofInt b = Int64.ofInt (a.tdiv b) := by
  rw [← Int64.toInt_inj, Int64.toInt_div, ql_toInt ha, ql_toInt hb, Int64.toInt_ofInt]
theorem ql_rem {a b : Int} (ha : -9223372036854775808 ≤ a ∧ a < 9223372036854775808) (hb : -9223372036854775808 ≤ b ∧ b < 9223372036854775808) : Int64.ofInt a % Int64.ofInt b = Int64.ofInt (a.tmod b) := by
  have h : (a.tmod b) = (Int64.ofInt a % Int64.ofInt b).toInt := by rw [Int64.toInt_mod, ql_toInt ha, ql_toInt hb]
  rw [h]; exact (Int64.ofInt_toInt _).symm
/-- lcmp's answer -/
def q_cmp (a b : Int) : Int := if a < b then -1 else if a = b then 0 else 1
theorem q_cmp_r (a b : Int) : -2147483648 ≤ q_cmp a b ∧ q_cmp a b < 2147483648 := by unfold q_cmp; split <;> (try split) <;> decide
theorem q_cmp_lt {a b : Int} : q_cmp a b < 0 ↔ a < b := by unfold q_cmp; split <;> (try split) <;> omega
theorem q_cmp_le {a b : Int} : q_cmp a b ≤ 0 ↔ a ≤ b := by unfold q_cmp; split <;> (try split) <;> omega
theorem q_cmp_eq {a b : Int} : q_cmp a b = 0 ↔ a = b := by unfold q_cmp; split <;> (try split) <;> omega
theorem q_cmp_gt {a b : Int} : 0 < q_cmp a b ↔ b < a := by unfold q_cmp; split <;> (try split) <;> omega
theorem q_cmp_ge {a b : Int} : 0 ≤ q_cmp a b ↔ b ≤ a := by unfold q_cmp; split <;> (try split) <;> omega
theorem q_lcmp_eq {a b : Int} (ha : -9223372036854775808 ≤ a ∧ a < 9223372036854775808) (hb : -9223372036854775808 ≤ b ∧ b < 9223372036854775808) : lg_cmp (Int64.ofInt a) (Int64.ofInt b) = Int32.ofInt (q_cmp a b) := by
  unfold lg_cmp q_cmp
  by_cases h1 : a < b
  · rw [if_pos h1, if_neg (by rw [gt_iff_lt, ql_lt hb ha]; omega), if_neg (by rw [ql_eq ha hb]; omega)]; rfl
  · by_cases h2 : a = b
    · rw [if_neg h1, if_pos h2, if_neg (by rw [gt_iff_lt, ql_lt hb ha]; omega), if_pos (by rw [h2])]; rfl
    · rw [if_neg h1, if_neg h2, if_pos (by rw [gt_iff_lt, ql_lt hb ha]; omega)]; rfl
/-- a boolean as a number -/
def q_b (c : Prop) [Decidable c] : Int := if c then 1 else 0
theorem q_b_01 (c : Prop) [Decidable c] : q_b c = 0 ∨ q_b c = 1 := by unfold q_b; split <;> simp
theorem q_b_r (c : Prop) [Decidable c] : -2147483648 ≤ q_b c ∧ q_b c < 2147483648 := by unfold q_b; split <;> decide
theorem q_b_0 {c : Prop} [Decidable c] : q_b c = 0 ↔ ¬ c := by unfold q_b; split <;> simp [*]
theorem q_b_t {c : Prop} [Decidable c] (h : c) : q_b c = 1 := if_pos h
theorem q_b_f {c : Prop} [Decidable c] (h : ¬ c) : q_b c = 0 := if_neg h
/-! memory: by address and place -/
abbrev q_K : Type := Nat ⊕ (Nat × Nat)
abbrev q_T : Type := Nat → Option q_K
abbrev q_I : Type := Nat → Nat → Int
abbrev q_P : Type := Nat → Nat → Option Nat
def u2 {α : Type} (f : Nat → Nat → α) (a i : Nat) (v : α) : Nat → Nat → α := fun q k => if q = a ∧ k = i then v else f q k
theorem u2_s {α : Type} (f : Nat → Nat → α) (a i : Nat) (v : α) : u2 f a i v a i = v := if_pos ⟨rfl, rfl⟩
theorem u2_a {α : Type} (f : Nat → Nat → α) {a i q k : Nat} (v : α) (h : q ≠ a) : u2 f a i v q k = f q k := if_neg (fun e => h e.1)
theorem u2_k {α : Type} (f : Nat → Nat → α) {a i q k : Nat} (v : α) (h : k ≠ i) : u2 f a i v q k = f q k := if_neg (fun e => h e.2)
theorem u2_u {α : Type} (f : Nat → Nat → α) (a i : Nat) (v w : α) : u2 (u2 f a i v) a i w = u2 f a i w := by
  funext q k
  unfold u2
  split <;> rfl
end
section
/-! the frame: global things, a state's abstract memory, contracts, the judgement qX -/
def q_fv (ty : FieldType) (I L : q_I) (P : q_P) (q k : Nat) : Value := match ty with
  | .long => qL (L q k)
  | .object _ => qR (P q k)
  | .array _ => qR (P q k)
  | _ => qI (I q k)
abbrev q_cl : List vw_C := [(RX0, TX0, 16), (RX1, TX1, 4), (RX2, TX2, 6), (RX3, TX3, 10), (RX4, TX4, 13), (RX6, TX6, 9), (RX7, TX7, 12), (RX8, TX8, 21)]
def q_ft (ci k : Nat) : FieldType := match ci with
  | 0 => tyX0 k
  | 1 => tyX1 k
  | 2 => tyX2 k
  | 3 => tyX3 k
  | 4 => tyX4 k
  | 5 => tyX6 k
  | 6 => tyX7 k
  | _ => tyX8 k
theorem q_ft_ok : ∀ ci r, q_cl[ci]? = some r → ∀ k, k < r.2.2 → parseFieldDescriptor (r.2.1 k).2.2.1 = some (q_ft ci k) := by
  intro ci r h
  match ci, h with
  | 0, h => cases h; exact tyX0_ok
  | 1, h => cases h; exact tyX1_ok
  | 2, h => cases h; exact tyX2_ok
  | 3, h => cases h; exact tyX3_ok
  | 4, h => cases h; exact tyX4_ok
  | 5, h => cases h; exact tyX6_ok
  | 6, h => cases h; exact tyX7_ok
  | 7, h => cases h; exact tyX8_ok
  | n + 8, h => simp at h
theorem q_nm_ok : ∀ (ci : Nat) (r : vw_C), q_cl[ci]? = some r → ∀ a, a < r.2.2 → ∀ b, b < r.2.2 → a ≠ b → (r.2.1 a).2.1 ≠ (r.2.1 b).2.1 := by
  intro ci r h
  match ci, h with
  | 0, h => cases h; exact nmX0
  | 1, h => cases h; exact nmX1
  | 2, h => cases h; exact nmX2
  | 3, h => cases h; exact nmX3
  | 4, h => cases h; exact nmX4
  | 5, h => cases h; exact nmX6
  | 6, h => cases h; exact nmX7
  | 7, h => cases h; exact nmX8
  | n + 8, h => simp at h
/-- the tables' words that stay good -/
def q_all : List Cond := lw_tbl.filter goodWord
theorem q_mem {w : Cond} (i : Nat) (h : lw_tbl[i]? = some w) (hg : goodWord w = true) : w ∈ q_all := List.mem_filter.mpr ⟨List.mem_of_getElem? h, hg⟩
theorem q_all_good {w : Cond} (h : w ∈ q_all) : goodWord w = true := (List.mem_filter.mp h).2
def q_lays : Bool := q_cl.all (fun r => (u_ws r.1 r.2.1 r.2.2).all (fun w => decide (w ∈ q_all)))
set_option maxRecDepth 100000 in
theorem q_lays_ok : q_lays = true := by decide +kernel
theorem q_lay_in {ci : Nat} {r : vw_C} (h : q_cl[ci]? = some r) : ∀ w ∈ u_ws r.1 r.2.1 r.2.2, w ∈ q_all := fun w hw => by
  have h1 := List.all_eq_true.mp q_lays_ok r (List.mem_of_getElem? h)
  exact of_decide_eq_true (List.all_eq_true.mp h1 w hw)
abbrev q_ty (t : Nat) : FieldType := match t with
  | 0 => .int
  | 1 => .long
  | 2 => .object RX2
  | 3 => .object RX0
  | 4 => .object RX6
  | 5 => .object RX5
  | 6 => .array .int
  | _ => .array .long
abbrev q_tys (cT : Nat → ClassId) : List (ClassId × FieldType) := [(cT 0, q_ty 0), (cT 1, q_ty 1), (cT 2, q_ty 2), (cT 3, q_ty 3), (cT 4, q_ty 4), (cT 5, q_ty 5), (cT 6, q_ty 6), (cT 7, q_ty 7)]
theorem q_tys_at (cT : Nat → ClassId) {t : Nat} (h : t < 8) : (q_tys cT)[t]? = some (cT t, q_ty t) := by
  match t, h with
  | 0, _ => rfl
  | 1, _ => rfl
  | 2, _ => rfl
  | 3, _ => rfl
  | 4, _ => rfl
  | 5, _ => rfl
  | 6, _ => rfl
  | 7, _ => rfl
/-- the launch, the classes' numbers, the arrays' classes, the heap's size at the start, the constants' addresses: enum constants, String constants, their byte arrays, Word.ALL -/
abbrev q_G : Type := Launch × va_G × (Nat → ClassId) × Nat × (Nat → Nat) × (Nat → Nat) × (Nat → Nat) × Nat
def q_A (G : q_G) : Nat → Prop := fun q => G.2.2.2.1 ≤ q
def q_wn : List String := ["LAND", "SLEEP", "PAYS", "WAIT", "LETTER", "HOME", "ORDER", "ADDRESS", "BIRTH", "CENTS", "AGE", "SINCE", "LETTERS", "MIN", "IF", "LESS", "THEN", "ELSE", "SAVINGS", "WAGES", "SHARES", "CHEQUE", "BOX"]
def q_wk : List Int32 := [(-1), (-1), (-1), (-1), (-1), (-1), (-1), (-1), (-1), (-1), (-1), (-1), (-1), (-1), (-1), (-1), (-1), (-1), 0, 1, 2, 3, 4]
def q_wF : List (String × String × String × List Int32) := [("IdleMoney$Word", "kind", "I", q_wk)]
/-- the String constants: whose, which entry, the text, its bytes -/
def q_sr : List (String × Nat × String × List Int32) := [("IdleMoney$Word", 120, "land", [108, 97, 110, 100]), ("IdleMoney$Word", 126, "sleep", [115, 108, 101, 101, 112]), ("IdleMoney$Word", 129, "pays", [112, 97, 121, 115]), ("IdleMoney$Word", 132, "wait", [119, 97, 105, 116]), ("IdleMoney$Word", 135, "letter", [108, 101, 116, 116, 101, 114]), ("IdleMoney$Word", 138, "home", [104, 111, 109, 101]), ("IdleMoney$Word", 141, "order", [111, 114, 100, 101, 114]), ("IdleMoney$Word", 144, "address", [97, 100, 100, 114, 101, 115, 115]), ("IdleMoney$Word", 147, "birth", [98, 105, 114, 116, 104]), ("IdleMoney$Word", 150, "cents", [99, 101, 110, 116, 115]), ("IdleMoney$Word", 153, "age", [97, 103, 101]), ("IdleMoney$Word", 156, "since", [115, 105, 110, 99, 101]), ("IdleMoney$Word", 159, "letters", [108, 101, 116, 116, 101, 114, 115]), ("IdleMoney$Word", 161, "min", [109, 105, 110]), ("IdleMoney$Word", 164, "if", [105, 102]), ("IdleMoney$Word", 167, "less", [108, 101, 115, 115]), ("IdleMoney$Word", 170, "then", [116, 104, 101, 110]), ("IdleMoney$Word", 173, "else", [101, 108, 115, 101]), ("IdleMoney$Word", 176, "savings", [115, 97, 118, 105, 110, 103, 115]), ("IdleMoney$Word", 179, "wages", [119, 97, 103, 101, 115]), ("IdleMoney$Word", 182, "shares", [115, 104, 97, 114, 101, 115]), ("IdleMoney$Word", 185, "cheque", [99, 104, 101, 113, 117, 101]), ("IdleMoney$Word", 188, "box", [98, 111, 120]), ("IdleMoney", 329, "a number that is none such", [97, 32, 110, 117, 109, 98, 101, 114, 32, 116, 104, 97, 116, 32, 105, 115, 32, 110, 111, 110, 101, 32, 115, 117, 99, 104]), ("IdleMoney", 322, "no such land, account, row or letter", [110, 111, 32, 115, 117, 99, 104, 32, 108, 97, 110, 100, 44, 32, 97, 99, 99, 111, 117, 110, 116, 44, 32, 114, 111, 119, 32, 111, 114, 32, 108, 101, 116, 116, 101, 114]), ("IdleMoney", 334, "not as things stand", [110, 111, 116, 32, 97, 115, 32, 116, 104, 105, 110, 103, 115, 32, 115, 116, 97, 110, 100]), ("IdleMoneyModel", 151, "land", [108, 97, 110, 100]), ("IdleMoneyModel", 127, "savings", [115, 97, 118, 105, 110, 103, 115]), ("IdleMoneyModel", 129, "wages", [119, 97, 103, 101, 115]), ("IdleMoneyModel", 131, "shares", [115, 104, 97, 114, 101, 115]), ("IdleMoneyModel", 133, "cheque", [99, 104, 101, 113, 117, 101]), ("IdleMoneyModel", 135, "box", [98, 111, 120]), ("IdleMoneyModel", 137, "address", [97, 100, 100, 114, 101, 115, 115]), ("IdleMoneyModel", 139, "birth", [98, 105, 114, 116, 104]), ("IdleMoneyModel", 141, "home", [104, 111, 109, 101]), ("IdleMoneyModel", 143, "cents", [99, 101, 110, 116, 115]), ("IdleMoneyModel", 145, "age", [97, 103, 101]), ("IdleMoneyModel", 147, "since", [115, 105, 110, 99, 101]), ("IdleMoneyModel", 149, "letters", [108, 101, 116, 116, 101, 114, 115]), ("IdleMoneyModel", 153, "sleep", [115, 108, 101, 101, 112]), ("IdleMoneyModel", 155, "pays", [112, 97, 121, 115]), ("IdleMoneyModel", 157, "wait", [119, 97, 105, 116]), ("IdleMoneyModel", 159, "letter", [108, 101, 116, 116, 101, 114]), ("IdleMoneyModel", 161, "order", [111, 114, 100, 101, 114]), ("IdleMoneyModel", 163, "min", [109, 105, 110]), ("IdleMoneyModel", 165, "if", [105, 102]), ("IdleMoneyModel", 167, "less", [108, 101, 115, 115]), ("IdleMoneyModel", 168, "then", [116, 104, 101, 110]), ("IdleMoneyModel", 170, "else", [101, 108, 115, 101])]
def q_EX : List (String × String) := [("java/util/NoSuchElementException", "java/lang/IllegalArgumentException"), ("java/util/NoSuchElementException", "java/lang/IllegalStateException"), ("java/lang/IllegalArgumentException", "java/util/NoSuchElementException"), ("java/lang/IllegalArgumentException", "java/lang/IllegalStateException"), ("java/lang/IllegalStateException", "java/util/NoSuchElementException"), ("java/lang/IllegalStateException", "java/lang/IllegalArgumentException")]
def q_S1 (i : Nat) (sr : String × Nat × String × List Int32) (adK adV : Nat → Nat) (A : Nat → Prop) (U : State) (H : Heap) : Prop := vk_R sr.1 sr.2.1 sr.2.2.1 (adK i) U ∧ va_O "java/lang/String" (adK i) A U H ∧ va_OF "java/lang/String" "coder" "B" (.int 0) (adK i) A U H ∧ va_OF "java/lang/String" "value" "[B" (.ref (adV i)) (adK i) A U H ∧ va_T .byte (adV i) sr.2.2.2.length (fun j => .int (sr.2.2.2.getD j 0)) A U H
def q_St (G : q_G) (U : State) (H : Heap) : Prop :=
  vx_Zq Bundle.tN "UNASSIGNED_STACK" Bundle.steD (q_A G) U H ∧ vx_Zq Bundle.tN "SUPPRESSED_SENTINEL" Bundle.listD (q_A G) U H ∧
  va_En "IdleMoney$Word" "LIdleMoney$Word;" q_wn q_wF G.2.2.2.2.1 (q_A G) U H ∧
  va_Ef 23 "IdleMoney$Word" "letters" "Ljava/lang/String;" (fun i => .ref (G.2.2.2.2.2.1 i)) G.2.2.2.2.1 (q_A G) U H ∧
  va_Z "IdleMoney$Word" "ALL" "[LIdleMoney$Word;" (.ref G.2.2.2.2.2.2.2) (q_A G) U H ∧ va_T (.object "IdleMoney$Word") G.2.2.2.2.2.2.2 23 (fun i => .ref (G.2.2.2.2.1 i)) (q_A G) U H ∧
  (∀ (i : Nat) (sr : String × Nat × String × List Int32), q_sr[i]? = some sr → q_S1 i sr G.2.2.2.2.2.1 G.2.2.2.2.2.2.1 (q_A G) U H) ∧
  va_Z "java/lang/String" "COMPACT_STRINGS" "Z" (.int 1) (q_A G) U H ∧ (∀ e ∈ q_EX, va_Nc e.1 e.2 U)
theorem q_S1.warm {i : Nat} {sr : String × Nat × String × List Int32} {adK adV : Nat → Nat} {A : Nat → Prop} {s U : State} {H : Heap} (hW : s.WarmedH U.vm) (h : q_S1 i sr adK adV A s H) : q_S1 i sr adK adV A U H :=
  ⟨h.1.warm hW, h.2.1.moved hW.alike, h.2.2.1.moved hW.alike, h.2.2.2.1.moved hW.alike, h.2.2.2.2.moved hW.alike⟩
theorem q_S1.kept {i : Nat} {sr : String × Nat × String × List Int32} {adK adV : Nat → Nat} {A : Nat → Prop} {U : State} {H H1 : Heap} (h : q_S1 i sr adK adV A U H) (hq : ∀ a : Nat, a < H.size → ¬ A a → H1[a]? = H[a]?) : q_S1 i sr adK adV A U H1 :=
  ⟨h.1, h.2.1.kept hq, h.2.2.1.kept hq, h.2.2.2.1.kept hq, h.2.2.2.2.kept hq⟩
theorem q_St.warm {G : q_G} {s U : State} {H : Heap} (hW : s.WarmedH U.vm) (h : q_St G s H) : q_St G U H := by
  obtain ⟨h1, h2, h3, h4, h5, h6, h7, h8, h9⟩ := h
  exact ⟨h1.moved hW.alike, h2.moved hW.alike, h3.moved hW.alike, h4.moved hW.alike, h5.moved hW.alike, h6.moved hW.alike, fun i sr hi => (h7 i sr hi).warm hW, h8.moved hW.alike, fun e he => (h9 e he).moved hW.alike⟩
theorem q_St.kept {G : q_G} {U : State} {H H1 : Heap} (h : q_St G U H) (hq : ∀ a : Nat, a < H.size → ¬ q_A G a → H1[a]? = H[a]?) : q_St G U H1 := by
  obtain ⟨h1, h2, h3, h4, h5, h6, h7, h8, h9⟩ := h
  exact ⟨h1.kept hq, h2.kept hq, h3.kept hq, h4.kept hq, h5.kept hq, h6.kept hq, fun i sr hi => (h7 i sr hi).kept hq, h8.kept hq, h9⟩
def q_nst : List Cond := [Cond.methodLinkNest RX7 15 yX3_init "IdleMoney", Cond.methodLinkNest RX4 37 yX2_init "IdleMoney", Cond.methodLinkNest RX7 29 yX1_init "IdleMoney", Cond.methodLinkNest RX1 11 yX0_init "IdleMoney", Cond.methodLinkNest RX6 36 yX0_init "IdleMoney", Cond.arrayOver (.object RX5), Cond.arrayOver (.object RX2), Cond.arrayOver (.object RX0), Cond.arrayOver (.array .int), Cond.arrayOver (.object RX6), Cond.arrayOver (.array .long), Cond.castable "java/util/NoSuchElementException" "java/util/NoSuchElementException", Cond.castable "java/lang/IllegalArgumentException" "java/lang/IllegalArgumentException", Cond.castable "java/lang/IllegalStateException" "java/lang/IllegalStateException"]
theorem q_AOA_moved {t : FieldType} {u U : State} (hvm : u.vm.Alike U.vm) (h : va_Nw (.arrayOver (.array t)) u) : va_Nw (.arrayOver (.array t)) U := by
  unfold va_Nw Cond.before at h ⊢
  simp only [Cond.holds, Cond.value, beq_iff_eq] at h ⊢
  cases hc : u.vm.findClass (FieldType.array t).toString with
  | none => simp [hc] at h
  | some comp =>
    simp only [hc, Option.bind_some, Option.bind_eq_some_iff, Option.map_eq_some_iff] at h
    obtain ⟨c, hi, k, hk, hb⟩ := h
    obtain ⟨k', hk', he⟩ := hvm.2.2 _ _ hk
    have b1 := va_idx_bare U.vm comp
    have b2 := va_idx_bare u.vm comp
    rw [← hvm.bare_eq] at b2
    have hi2 := (b1.symm.trans b2).trans hi
    have f1 : U.vm.findClass (FieldType.array t).toString = some comp := by rw [hvm.findClass]; exact hc
    have f2 : U.vm.findClass ("[" ++ (FieldType.array t).toString) = u.vm.findClass ("[" ++ (FieldType.array t).toString) := by rw [hvm.findClass]
    simp only [f1, Option.bind_some, Option.bind_eq_some_iff, Option.map_eq_some_iff]
    refine ⟨c, hi2, k', hk', ?_⟩
    rw [he]
    rw [f2]
    exact hb
theorem q_nst_warm {s U : State} (hW : s.WarmedH U.vm) : ∀ w ∈ q_nst, va_Nw w s → va_Nw w U := by
  intro w hw h
  simp only [q_nst, List.mem_cons, List.not_mem_nil, or_false] at hw
  rcases hw with rfl | rfl | rfl | rfl | rfl | rfl | rfl | rfl | rfl | rfl | rfl | rfl | rfl | rfl
  · exact h.warmM hW
  · exact h.warmM hW
  · exact h.warmM hW
  · exact h.warmM hW
  · exact h.warmM hW
  · exact va_AO.moved hW.alike h
  · exact va_AO.moved hW.alike h
  · exact va_AO.moved hW.alike h
  · exact q_AOA_moved hW.alike h
  · exact va_AO.moved hW.alike h
  · exact q_AOA_moved hW.alike h
  · exact h.warmC hW
  · exact h.warmC hW
  · exact h.warmC hW

/-- what holds of the tables and of what nobody writes -/
def q_Gs (G : q_G) (U : State) : Prop := G.1.stackTraces = false ∧ va_K G.2.1 q_cl (q_tys G.2.2.1) U ∧ (∀ w ∈ q_all, w.before #[] U = true) ∧ (∀ w ∈ q_nst, va_Nw w U) ∧ q_St G U U.heap
theorem q_word {w : Cond} {s U : State} {args : Array Value} (hW : s.WarmedH U.vm) (hg : goodWord w = true) (h : w.before #[] s = true) : w.before args U = true := word_at hW (good_of_word hg) h
theorem q_Gs.go {G : q_G} {s U : State} (hW : s.WarmedH U.vm) (hH : ∀ a : Nat, a < s.heap.size → ¬ q_A G a → U.heap[a]? = s.heap[a]?) (h : q_Gs G s) : q_Gs G U :=
  ⟨h.1, h.2.1.moved hW.alike, fun w hw => q_word hW (q_all_good hw) (h.2.2.1 w hw), fun w hw => q_nst_warm hW w hw (h.2.2.2.1 w hw), (h.2.2.2.2.warm hW).kept hH⟩
theorem q_Gs.at {G : q_G} {s : State} (h : q_Gs G s) {w : Cond} (hw : w ∈ q_all) (args : Array Value) : w.before args s = true := q_word (State.WarmedH.refl s) (q_all_good hw) (h.2.2.1 w hw)
def q_at (G : q_G) (I L : q_I) (P : q_P) (q : Nat) (k : q_K) (H : Heap) : Prop := match k with
  | .inl ci => ∃ r : vw_C, q_cl[ci]? = some r ∧ t_OB q (G.2.1.1 ci) r.2.2 (G.2.1.2 ci) H (fun k => q_fv (q_ft ci k) I L P q k)
  | .inr (t, n) => t < 8 ∧ H[q]? = some (arrV (G.2.2.1 t) n (fun j => q_fv (q_ty t) I L P q j))
def q_Rep (G : q_G) (T : q_T) (I L : q_I) (P : q_P) (H : Heap) : Prop := ∀ (q : Nat) (k : q_K), T q = some k → q_at G I L P q k H
theorem q_at.kept {G : q_G} {I L I' L' : q_I} {P P' : q_P} {q : Nat} {k : q_K} {H H' : Heap} (h : q_at G I L P q k H) (hq : H'[q]? = H[q]?) (hI : ∀ j, I' q j = I q j) (hL : ∀ j, L' q j = L q j) (hP : ∀ j, P' q j = P q j) : q_at G I' L' P' q k H' := by
  have e : ∀ ty j, q_fv ty I' L' P' q j = q_fv ty I L P q j := by
    intro ty j
    unfold q_fv
    rw [hI, hL, hP]
  cases k with
  | inl ci =>
    obtain ⟨r, h1, h2⟩ := h
    exact ⟨r, h1, (h2.kept hq).to (fun k _ => (e _ _).symm)⟩
  | inr tn =>
    obtain ⟨t, n⟩ := tn
    obtain ⟨h1, h2⟩ := h
    refine ⟨h1, hq.trans ?_⟩
    rw [h2]
    congr 2
    funext j
    exact (e _ _).symm
theorem q_Rep.kept {G : q_G} {T : q_T} {I L : q_I} {P : q_P} {H H' : Heap} (h : q_Rep G T I L P H) (hq : ∀ q k, T q = some k → H'[q]? = H[q]?) : q_Rep G T I L P H' := fun q k hk => (h q k hk).kept (hq q k hk) (fun _ => rfl) (fun _ => rfl) (fun _ => rfl)
theorem q_at.lt {G : q_G} {I L : q_I} {P : q_P} {q : Nat} {k : q_K} {H : Heap} (h : q_at G I L P q k H) : q < H.size := by
  cases k with
  | inl ci =>
    obtain ⟨r, h1, cell, h2, -⟩ := h
    exact (Array.getElem?_eq_some_iff.mp h2).1
  | inr tn =>
    obtain ⟨t, n⟩ := tn
    exact (Array.getElem?_eq_some_iff.mp h.2).1
/-- a store into one cell -/
theorem q_Rep.put {G : q_G} {T : q_T} {I L I' L' : q_I} {P P' : q_P} {H H' : Heap} {a : Nat} (h : q_Rep G T I L P H) (oq : ∀ q : Nat, q ≠ a → H'[q]? = H[q]?) (hI : ∀ q j, q ≠ a → I' q j = I q j) (hL : ∀ q j, q ≠ a → L' q j = L q j) (hP : ∀ q j, q ≠ a → P' q j = P q j) (ha : ∀ k, T a = some k → q_at G I' L' P' a k H') : q_Rep G T I' L' P' H' := by
  intro q k hk
  by_cases e : q = a
  · subst e
    exact ha k hk
  · exact (h q k hk).kept (oq q e) (fun j => hI q j e) (fun j => hL q j e) (fun j => hP q j e)
/-- a method's frame: program, launch, choices, room, the state at its call, its number, arguments, frames below, method, code, cells and slots that it may take -/
abbrev q_F : Type := Program × Launch × Env × Room × State × MethodId × Array Value × List Frame × Method × Code × Nat × Nat
abbrev q_Q : Type := (Option Value ⊕ String) → Nat → q_T → q_I → q_I → q_P → Prop
def q_Qc (G : q_G) (Q : q_Q) : Array Value → State → Outcome → State → Prop := fun _ st oc t =>
  (∃ (v : Option Value) (sz : Nat) (T : q_T) (I L : q_I) (P : q_P), oc = .returned v ∧ Q (.inl v) sz T I L P ∧ t.heap.size = sz ∧ q_Rep G T I L P t.heap) ∧ va_F (q_A G) st t
def q_XC (G : q_G) (Q : q_Q) : String → State → State → Prop := fun E st t =>
  (∃ (sz : Nat) (T : q_T) (I L : q_I) (P : q_P), Q (.inr E) sz T I L P ∧ t.heap.size = sz ∧ q_Rep G T I L P t.heap) ∧ va_F (q_A G) st t
def q_rm (h mc ms : Nat) : Room := { frames := h + 12, cells := mc, slots := ms, locals := 260 + 60 * h }
/-- a method: its name, bytes, locals, answer, exception table -/
abbrev q_Y : Type := MethodName × ByteArray × Nat × Option FieldType × List (Nat × Nat × Nat × Nat)
def q_code (Y : q_Y) : Cond := match Y.2.2.2.2 with
  | [] => .code Y.1 Y.2.1 Y.2.2.1 Y.2.2.2.1
  | hh => .codeWith Y.1 Y.2.1 Y.2.2.1 Y.2.2.2.1 hh
def q_ws (Y : q_Y) : List Cond := q_code Y :: q_all
/-- THE CONTRACT: called with these arguments in this memory, method Y ends, and Q holds of how, and of the memory then -/
def qC (G : q_G) (h mc ms : Nat) (Y : q_Y) (av : List Value) (sz : Nat) (T : q_T) (I L : q_I) (P : q_P) (Q : q_Q) : Prop :=
  vx_Met G.1 Y.1 (q_ws Y) (q_rm h mc ms) (va_Pc av (fun U => q_Gs G U ∧ U.heap.size = sz ∧ q_Rep G T I L P U.heap)) (q_Qc G Q) (q_XC G Q) mc ms (q_A G)
/-- what holds in a method's frame -/
def q_ok (G : q_G) (F : q_F) (Y : q_Y) (h : Nat) : Prop := match F with
  | (p, l, _, R, s, m, _, _, meth, c, mc, ms) => p.tables.exec = Jvm.exec ∧ c.code = Y.2.1 ∧ meth.sig.returnType = Y.2.2.2.1 ∧ meth.locks = false ∧ c.maxLocals = Y.2.2.1 ∧ s.vm.findClass Y.1.cls = some m.cls ∧ meth.name = Y.1.name ∧ c.exceptionTable.toList = tableOf Y.2.2.2.2 ∧ q_Gs G s ∧ R = q_rm h mc ms ∧ l.stackTraces = false ∧ l = G.1
/-- THE JUDGEMENT: from this place, with kc cells and ks slots to take, the method ends as Q says -/
def qX (G : q_G) (F : q_F) (Q : q_Q) (kc ks pc : Nat) (ls : List (Nat × Value)) (st : List Value) (sz : Nat) (T : q_T) (I L : q_I) (P : q_P) : Prop := match F with
  | (p, l, e, R, s, m, args, below, meth, c, mc, ms) =>
    ∀ (H : Heap) (locs : List Loc) (cells slots : Nat) (lsA : Array Slot), H.size = sz → q_Rep G T I L P H → va_S (q_A G) s.heap H locs → lv_has lsA c.maxLocals ls → cells + kc ≤ mc → slots + ks ≤ ms →
      W p l e R s m args below meth c H locs cells slots (vx_MQ below (q_Qc G Q) (q_XC G Q) args s mc ms (q_A G)) (F0 m pc lsA st)
/-- .. an exception of class E is on its way, thrown by the call at pc -/
def qT (G : q_G) (F : q_F) (Q : q_Q) (kc ks pc : Nat) (ls : List (Nat × Value)) (st : List Value) (E : String) (sz : Nat) (T : q_T) (I L : q_I) (P : q_P) : Prop := match F with
  | (p, l, e, R, s, m, args, below, meth, c, mc, ms) =>
    ∀ (H : Heap) (locs : List Loc) (cells slots : Nat) (lsA : Array Slot) (q9 : Nat) (ce : Cell), H.size = sz → q_Rep G T I L P H → va_S (q_A G) s.heap H locs → lv_has lsA c.maxLocals ls → cells + kc ≤ mc → slots + ks ≤ ms →
      H[q9]? = some ce → ce.vm = .none → s.vm.findClass E = some ce.cls →
      vx_W p l e R s m args below meth c H locs cells slots (vx_MQ below (q_Qc G Q) (q_XC G Q) args s mc ms (q_A G)) (F0 m pc lsA st) q9
def q_d (cc : ByteArray) (pc pc' : Nat) (i : Instr) (n : Nat) : Prop := decode cc pc = .ok (i, n) ∧ pc + n = pc'
def q_j (cc : ByteArray) (pc pc' tgt : Nat) (i : Int → Instr) : Prop := ∃ off : Int, decode cc pc = .ok (i off, 3) ∧ pc + 3 = pc' ∧ (pc : Int) + off = (tgt : Int)
section QX
variable {G : q_G} {F : q_F} {Y : q_Y} {h : Nat} {Q : q_Q} {kc ks pc pc' tgt : Nat} {ls : List (Nat × Value)} {st : List Value} {sz : Nat} {T : q_T} {I L : q_I} {P : q_P}
theorem q_iconst (hF : q_ok G F Y h) {n : Int} (d : q_d Y.2.1 pc pc' (.iconst n) 1) (k : qX G F Q kc ks pc' ls (qI n :: st) sz T I L P) : qX G F Q kc ks pc ls (st) sz T I L P := by
  obtain ⟨p, l, e, R, s, m, args, below, meth, c, mc, ms⟩ := F
  obtain ⟨hx, hb, -⟩ := hF
  obtain ⟨d, rfl⟩ := d
  intro H locs cells slots lsA z1 z2 z3 z4 z5 z6
  exact lv_iconst hx hb d rfl (k H locs cells slots lsA z1 z2 z3 z4 z5 z6)
theorem q_bipush (hF : q_ok G F Y h) {n : Int} (hn : (Int8.ofInt n).toInt32 = Int32.ofInt n) (d : q_d Y.2.1 pc pc' (.bipush n) 2) (k : qX G F Q kc ks pc' ls (qI n :: st) sz T I L P) : qX G F Q kc ks pc ls (st) sz T I L P := by
  obtain ⟨p, l, e, R, s, m, args, below, meth, c, mc, ms⟩ := F
  obtain ⟨hx, hb, -⟩ := hF
  obtain ⟨d, rfl⟩ := d
  intro H locs cells slots lsA z1 z2 z3 z4 z5 z6
  exact lv_bipush hx hb d hn (k H locs cells slots lsA z1 z2 z3 z4 z5 z6)
theorem q_sipush (hF : q_ok G F Y h) {n : Int} (hn : (Int16.ofInt n).toInt32 = Int32.ofInt n) (d : q_d Y.2.1 pc pc' (.sipush n) 3) (k : qX G F Q kc ks pc' ls (qI n :: st) sz T I L P) : qX G F Q kc ks pc ls (st) sz T I L P := by
  obtain ⟨p, l, e, R, s, m, args, below, meth, c, mc, ms⟩ := F
  obtain ⟨hx, hb, -⟩ := hF
  obtain ⟨d, rfl⟩ := d
  intro H locs cells slots lsA z1 z2 z3 z4 z5 z6
  exact lv_sipush hx hb d hn (k H locs cells slots lsA z1 z2 z3 z4 z5 z6)
theorem q_lconst (hF : q_ok G F Y h) {n : Fin 2} {z : Int} (hn : Int64.ofNat (n : Nat) = Int64.ofInt z) (d : q_d Y.2.1 pc pc' (.lconst n) 1) (k : qX G F Q kc ks pc' ls (qL z :: st) sz T I L P) : qX G F Q kc ks pc ls (st) sz T I L P := by
  obtain ⟨p, l, e, R, s, m, args, below, meth, c, mc, ms⟩ := F
  obtain ⟨hx, hb, -⟩ := hF
  obtain ⟨d, rfl⟩ := d
  intro H locs cells slots lsA z1 z2 z3 z4 z5 z6
  exact lv_lconst hx hb d hn (k H locs cells slots lsA z1 z2 z3 z4 z5 z6)
theorem q_null (hF : q_ok G F Y h)  (d : q_d Y.2.1 pc pc' .aconst_null 1) (k : qX G F Q kc ks pc' ls (.null :: st) sz T I L P) : qX G F Q kc ks pc ls (st) sz T I L P := by
  obtain ⟨p, l, e, R, s, m, args, below, meth, c, mc, ms⟩ := F
  obtain ⟨hx, hb, -⟩ := hF
  obtain ⟨d, rfl⟩ := d
  intro H locs cells slots lsA z1 z2 z3 z4 z5 z6
  exact lv_null hx hb d (k H locs cells slots lsA z1 z2 z3 z4 z5 z6)
theorem q_iload_n (hF : q_ok G F Y h) {i : Fin 4} {i' : Nat} {z : Int} (j : Nat) (hi : (i : Nat) = i') (hl : ls[j]? = some (i', qI z)) (d : q_d Y.2.1 pc pc' (.iload_n i) 1) (k : qX G F Q kc ks pc' ls (qI z :: st) sz T I L P) : qX G F Q kc ks pc ls (st) sz T I L P := by
  obtain ⟨p, l, e, R, s, m, args, below, meth, c, mc, ms⟩ := F
  obtain ⟨hx, hb, -⟩ := hF
  obtain ⟨d, rfl⟩ := d
  intro H locs cells slots lsA z1 z2 z3 z4 z5 z6
  exact lv_iload_n hx hb d hi (lv_at z4 j hl) (k H locs cells slots lsA z1 z2 z3 z4 z5 z6)
theorem q_iload (hF : q_ok G F Y h) {i : Nat} {z : Int} (j : Nat) (hl : ls[j]? = some (i, qI z)) (d : q_d Y.2.1 pc pc' (.iload i) 2) (k : qX G F Q kc ks pc' ls (qI z :: st) sz T I L P) : qX G F Q kc ks pc ls (st) sz T I L P := by
  obtain ⟨p, l, e, R, s, m, args, below, meth, c, mc, ms⟩ := F
  obtain ⟨hx, hb, -⟩ := hF
  obtain ⟨d, rfl⟩ := d
  intro H locs cells slots lsA z1 z2 z3 z4 z5 z6
  exact lv_iload hx hb d (lv_at z4 j hl) (k H locs cells slots lsA z1 z2 z3 z4 z5 z6)
theorem q_lload_n (hF : q_ok G F Y h) {i : Fin 4} {i' : Nat} {z : Int} (j : Nat) (hi : (i : Nat) = i') (hl : ls[j]? = some (i', qL z)) (d : q_d Y.2.1 pc pc' (.lload_n i) 1) (k : qX G F Q kc ks pc' ls (qL z :: st) sz T I L P) : qX G F Q kc ks pc ls (st) sz T I L P := by
  obtain ⟨p, l, e, R, s, m, args, below, meth, c, mc, ms⟩ := F
  obtain ⟨hx, hb, -⟩ := hF
  obtain ⟨d, rfl⟩ := d
  intro H locs cells slots lsA z1 z2 z3 z4 z5 z6
  exact lv_lload_n hx hb d hi (lv_at z4 j hl) (k H locs cells slots lsA z1 z2 z3 z4 z5 z6)
theorem q_lload (hF : q_ok G F Y h) {i : Nat} {z : Int} (j : Nat) (hl : ls[j]? = some (i, qL z)) (d : q_d Y.2.1 pc pc' (.lload i) 2) (k : qX G F Q kc ks pc' ls (qL z :: st) sz T I L P) : qX G F Q kc ks pc ls (st) sz T I L P := by
  obtain ⟨p, l, e, R, s, m, args, below, meth, c, mc, ms⟩ := F
  obtain ⟨hx, hb, -⟩ := hF
  obtain ⟨d, rfl⟩ := d
  intro H locs cells slots lsA z1 z2 z3 z4 z5 z6
  exact lv_lload hx hb d (lv_at z4 j hl) (k H locs cells slots lsA z1 z2 z3 z4 z5 z6)
theorem q_aload_n (hF : q_ok G F Y h) {i : Fin 4} {i' : Nat} {z : Nat} (j : Nat) (hi : (i : Nat) = i') (hl : ls[j]? = some (i', .ref z)) (d : q_d Y.2.1 pc pc' (.aload_n i) 1) (k : qX G F Q kc ks pc' ls (.ref z :: st) sz T I L P) : qX G F Q kc ks pc ls (st) sz T I L P := by
  obtain ⟨p, l, e, R, s, m, args, below, meth, c, mc, ms⟩ := F
  obtain ⟨hx, hb, -⟩ := hF
  obtain ⟨d, rfl⟩ := d
  intro H locs cells slots lsA z1 z2 z3 z4 z5 z6
  exact lv_aload_n hx hb d hi (lv_at z4 j hl) (k H locs cells slots lsA z1 z2 z3 z4 z5 z6)
theorem q_aload (hF : q_ok G F Y h) {i : Nat} {z : Nat} (j : Nat) (hl : ls[j]? = some (i, .ref z)) (d : q_d Y.2.1 pc pc' (.aload i) 2) (k : qX G F Q kc ks pc' ls (.ref z :: st) sz T I L P) : qX G F Q kc ks pc ls (st) sz T I L P := by
  obtain ⟨p, l, e, R, s, m, args, below, meth, c, mc, ms⟩ := F
  obtain ⟨hx, hb, -⟩ := hF
  obtain ⟨d, rfl⟩ := d
  intro H locs cells slots lsA z1 z2 z3 z4 z5 z6
  exact lv_aload hx hb d (lv_at z4 j hl) (k H locs cells slots lsA z1 z2 z3 z4 z5 z6)
theorem q_aload_nR (hF : q_ok G F Y h) {i : Fin 4} {i' : Nat} {r : Option Nat} (j : Nat) (hi : (i : Nat) = i') (hl : ls[j]? = some (i', qR r)) (d : q_d Y.2.1 pc pc' (.aload_n i) 1) (k : qX G F Q kc ks pc' ls (qR r :: st) sz T I L P) : qX G F Q kc ks pc ls (st) sz T I L P := by
  obtain ⟨p, l, e, R, s, m, args, below, meth, c, mc, ms⟩ := F
  obtain ⟨hx, hb, -⟩ := hF
  obtain ⟨d, rfl⟩ := d
  intro H locs cells slots lsA z1 z2 z3 z4 z5 z6
  have q := k H locs cells slots lsA z1 z2 z3 z4 z5 z6
  cases r with
  | none => exact lv_aload_nN hx hb d hi (lv_at z4 j hl) q
  | some a => exact lv_aload_n hx hb d hi (lv_at z4 j hl) q
theorem q_aloadR (hF : q_ok G F Y h) {i : Nat} {r : Option Nat} (j : Nat) (hl : ls[j]? = some (i, qR r)) (d : q_d Y.2.1 pc pc' (.aload i) 2) (k : qX G F Q kc ks pc' ls (qR r :: st) sz T I L P) : qX G F Q kc ks pc ls (st) sz T I L P := by
  obtain ⟨p, l, e, R, s, m, args, below, meth, c, mc, ms⟩ := F
  obtain ⟨hx, hb, -⟩ := hF
  obtain ⟨d, rfl⟩ := d
  intro H locs cells slots lsA z1 z2 z3 z4 z5 z6
  have q := k H locs cells slots lsA z1 z2 z3 z4 z5 z6
  cases r with
  | none => exact lv_aloadN hx hb d (lv_at z4 j hl) q
  | some a => exact lv_aload hx hb d (lv_at z4 j hl) q
theorem q_istore_n (hF : q_ok G F Y h) {i0 : Fin 4} {i : Nat} {z : Int} {ls' : List (Nat × Value)} (hi : (i0 : Nat) = i) (hn : i < Y.2.2.1) (hl : (i, qI z) :: ls.filter (fun q => !(q.1 == i) && !(q.1 + 1 == i && q.2.category == 2)) = ls') (d : q_d Y.2.1 pc pc' (.istore_n i0) 1) (k : qX G F Q kc ks pc' ls' st sz T I L P) : qX G F Q kc ks pc ls (qI z :: st) sz T I L P := by
  obtain ⟨p, l, e, R, s, m, args, below, meth, c, mc, ms⟩ := F
  obtain ⟨hx, hb, -, -, hml, -⟩ := hF
  obtain ⟨d, rfl⟩ := d
  intro H locs cells slots lsA z1 z2 z3 z4 z5 z6
  exact lv_istore_n hx hb d hi z4 (by rw [hml]; exact hn) hl (fun lsA z4 => k H locs cells slots lsA z1 z2 z3 z4 z5 z6)
theorem q_istore (hF : q_ok G F Y h) {i : Nat} {z : Int} {ls' : List (Nat × Value)} (hn : i < Y.2.2.1) (hl : (i, qI z) :: ls.filter (fun q => !(q.1 == i) && !(q.1 + 1 == i && q.2.category == 2)) = ls') (d : q_d Y.2.1 pc pc' (.istore i) 2) (k : qX G F Q kc ks pc' ls' st sz T I L P) : qX G F Q kc ks pc ls (qI z :: st) sz T I L P := by
  obtain ⟨p, l, e, R, s, m, args, below, meth, c, mc, ms⟩ := F
  obtain ⟨hx, hb, -, -, hml, -⟩ := hF
  obtain ⟨d, rfl⟩ := d
  intro H locs cells slots lsA z1 z2 z3 z4 z5 z6
  exact lv_istore hx hb d z4 (by rw [hml]; exact hn) hl (fun lsA z4 => k H locs cells slots lsA z1 z2 z3 z4 z5 z6)
theorem q_lstore_n (hF : q_ok G F Y h) {i0 : Fin 4} {i : Nat} {z : Int} {ls' : List (Nat × Value)} (hi : (i0 : Nat) = i) (hn : i + 1 < Y.2.2.1) (hl : (i, qL z) :: ls.filter (fun q => !(q.1 == i) && (!(q.1 == i + 1) && !(q.1 + 1 == i && q.2.category == 2))) = ls') (d : q_d Y.2.1 pc pc' (.lstore_n i0) 1) (k : qX G F Q kc ks pc' ls' st sz T I L P) : qX G F Q kc ks pc ls (qL z :: st) sz T I L P := by
  obtain ⟨p, l, e, R, s, m, args, below, meth, c, mc, ms⟩ := F
  obtain ⟨hx, hb, -, -, hml, -⟩ := hF
  obtain ⟨d, rfl⟩ := d
  intro H locs cells slots lsA z1 z2 z3 z4 z5 z6
  exact lv_lstore_n hx hb d hi z4 (by rw [hml]; exact hn) hl (fun lsA z4 => k H locs cells slots lsA z1 z2 z3 z4 z5 z6)
theorem q_lstore (hF : q_ok G F Y h) {i : Nat} {z : Int} {ls' : List (Nat × Value)} (hn : i + 1 < Y.2.2.1) (hl : (i, qL z) :: ls.filter (fun q => !(q.1 == i) && (!(q.1 == i + 1) && !(q.1 + 1 == i && q.2.category == 2))) = ls') (d : q_d Y.2.1 pc pc' (.lstore i) 2) (k : qX G F Q kc ks pc' ls' st sz T I L P) : qX G F Q kc ks pc ls (qL z :: st) sz T I L P := by
  obtain ⟨p, l, e, R, s, m, args, below, meth, c, mc, ms⟩ := F
  obtain ⟨hx, hb, -, -, hml, -⟩ := hF
  obtain ⟨d, rfl⟩ := d
  intro H locs cells slots lsA z1 z2 z3 z4 z5 z6
  exact lv_lstore hx hb d z4 (by rw [hml]; exact hn) hl (fun lsA z4 => k H locs cells slots lsA z1 z2 z3 z4 z5 z6)
theorem q_astore_n (hF : q_ok G F Y h) {i0 : Fin 4} {i : Nat} {z : Nat} {ls' : List (Nat × Value)} (hi : (i0 : Nat) = i) (hn : i < Y.2.2.1) (hl : (i, .ref z) :: ls.filter (fun q => !(q.1 == i) && !(q.1 + 1 == i && q.2.category == 2)) = ls') (d : q_d Y.2.1 pc pc' (.astore_n i0) 1) (k : qX G F Q kc ks pc' ls' st sz T I L P) : qX G F Q kc ks pc ls (.ref z :: st) sz T I L P := by
  obtain ⟨p, l, e, R, s, m, args, below, meth, c, mc, ms⟩ := F
  obtain ⟨hx, hb, -, -, hml, -⟩ := hF
  obtain ⟨d, rfl⟩ := d
  intro H locs cells slots lsA z1 z2 z3 z4 z5 z6
  exact lv_astore_n hx hb d hi z4 (by rw [hml]; exact hn) hl (fun lsA z4 => k H locs cells slots lsA z1 z2 z3 z4 z5 z6)
theorem q_astore (hF : q_ok G F Y h) {i : Nat} {z : Nat} {ls' : List (Nat × Value)} (hn : i < Y.2.2.1) (hl : (i, .ref z) :: ls.filter (fun q => !(q.1 == i) && !(q.1 + 1 == i && q.2.category == 2)) = ls') (d : q_d Y.2.1 pc pc' (.astore i) 2) (k : qX G F Q kc ks pc' ls' st sz T I L P) : qX G F Q kc ks pc ls (.ref z :: st) sz T I L P := by
  obtain ⟨p, l, e, R, s, m, args, below, meth, c, mc, ms⟩ := F
  obtain ⟨hx, hb, -, -, hml, -⟩ := hF
  obtain ⟨d, rfl⟩ := d
  intro H locs cells slots lsA z1 z2 z3 z4 z5 z6
  exact lv_astore hx hb d z4 (by rw [hml]; exact hn) hl (fun lsA z4 => k H locs cells slots lsA z1 z2 z3 z4 z5 z6)
theorem q_astore_nR (hF : q_ok G F Y h) {i0 : Fin 4} {i : Nat} {z : Option Nat} {ls' : List (Nat × Value)} (hi : (i0 : Nat) = i) (hn : i < Y.2.2.1) (hl : (i, qR z) :: ls.filter (fun q => !(q.1 == i) && !(q.1 + 1 == i && q.2.category == 2)) = ls') (d : q_d Y.2.1 pc pc' (.astore_n i0) 1) (k : qX G F Q kc ks pc' ls' st sz T I L P) : qX G F Q kc ks pc ls (qR z :: st) sz T I L P := by
  obtain ⟨p, l, e, R, s, m, args, below, meth, c, mc, ms⟩ := F
  obtain ⟨hx, hb, -, -, hml, -⟩ := hF
  obtain ⟨d, rfl⟩ := d
  intro H locs cells slots lsA z1 z2 z3 z4 z5 z6
  cases z with
  | none => exact lv_astore_nN hx hb d hi z4 (by rw [hml]; exact hn) hl (fun lsA z4 => k H locs cells slots lsA z1 z2 z3 z4 z5 z6)
  | some a => exact lv_astore_n hx hb d hi z4 (by rw [hml]; exact hn) hl (fun lsA z4 => k H locs cells slots lsA z1 z2 z3 z4 z5 z6)
theorem q_astoreR (hF : q_ok G F Y h) {i : Nat} {z : Option Nat} {ls' : List (Nat × Value)} (hn : i < Y.2.2.1) (hl : (i, qR z) :: ls.filter (fun q => !(q.1 == i) && !(q.1 + 1 == i && q.2.category == 2)) = ls') (d : q_d Y.2.1 pc pc' (.astore i) 2) (k : qX G F Q kc ks pc' ls' st sz T I L P) : qX G F Q kc ks pc ls (qR z :: st) sz T I L P := by
  obtain ⟨p, l, e, R, s, m, args, below, meth, c, mc, ms⟩ := F
  obtain ⟨hx, hb, -, -, hml, -⟩ := hF
  obtain ⟨d, rfl⟩ := d
  intro H locs cells slots lsA z1 z2 z3 z4 z5 z6
  cases z with
  | none => exact lv_astoreN hx hb d z4 (by rw [hml]; exact hn) hl (fun lsA z4 => k H locs cells slots lsA z1 z2 z3 z4 z5 z6)
  | some a => exact lv_astore hx hb d z4 (by rw [hml]; exact hn) hl (fun lsA z4 => k H locs cells slots lsA z1 z2 z3 z4 z5 z6)
theorem q_iinc (hF : q_ok G F Y h) {i : Nat} {n z z' : Int} {ls' : List (Nat × Value)} (j : Nat) (hk : ls[j]? = some (i, qI z)) (hv : z + n = z') (hn : i < Y.2.2.1) (hl : (i, qI z') :: ls.filter (fun q => !(q.1 == i) && !(q.1 + 1 == i && q.2.category == 2)) = ls') (d : q_d Y.2.1 pc pc' (.iinc i n) 3) (k : qX G F Q kc ks pc' ls' st sz T I L P) : qX G F Q kc ks pc ls st sz T I L P := by
  obtain ⟨p, l, e, R, s, m, args, below, meth, c, mc, ms⟩ := F
  obtain ⟨hx, hb, -, -, hml, -⟩ := hF
  subst hv
  obtain ⟨d, rfl⟩ := d
  intro H locs cells slots lsA z1 z2 z3 z4 z5 z6
  exact lv_iinc hx hb d z4 hk (Int32.ofInt_add z n).symm (by rw [hml]; exact hn) hl (fun lsA z4 => k H locs cells slots lsA z1 z2 z3 z4 z5 z6)
theorem q_iadd (hF : q_ok G F Y h) {a b : Int}  (d : q_d Y.2.1 pc pc' .iadd 1) (k : qX G F Q kc ks pc' ls (qI (a + b) :: st) sz T I L P) : qX G F Q kc ks pc ls (qI b :: qI a :: st) sz T I L P := by
  obtain ⟨p, l, e, R, s, m, args, below, meth, c, mc, ms⟩ := F
  obtain ⟨hx, hb, -⟩ := hF
  obtain ⟨d, rfl⟩ := d
  intro H locs cells slots lsA z1 z2 z3 z4 z5 z6
  have q := k H locs cells slots lsA z1 z2 z3 z4 z5 z6
  rw [show qI (a + b) = .int (Int32.ofInt a + Int32.ofInt b) from congrArg _ (Int32.ofInt_add a b)] at q
  exact lv_iadd hx hb d q
theorem q_isub (hF : q_ok G F Y h) {a b : Int}  (d : q_d Y.2.1 pc pc' .isub 1) (k : qX G F Q kc ks pc' ls (qI (a - b) :: st) sz T I L P) : qX G F Q kc ks pc ls (qI b :: qI a :: st) sz T I L P := by
  obtain ⟨p, l, e, R, s, m, args, below, meth, c, mc, ms⟩ := F
  obtain ⟨hx, hb, -⟩ := hF
  obtain ⟨d, rfl⟩ := d
  intro H locs cells slots lsA z1 z2 z3 z4 z5 z6
  have q := k H locs cells slots lsA z1 z2 z3 z4 z5 z6
  rw [show qI (a - b) = .int (Int32.ofInt a - Int32.ofInt b) from congrArg _ (Int32.ofInt_sub a b)] at q
  exact lv_isub hx hb d q
theorem q_imul (hF : q_ok G F Y h) {a b : Int}  (d : q_d Y.2.1 pc pc' .imul 1) (k : qX G F Q kc ks pc' ls (qI (a * b) :: st) sz T I L P) : qX G F Q kc ks pc ls (qI b :: qI a :: st) sz T I L P := by
  obtain ⟨p, l, e, R, s, m, args, below, meth, c, mc, ms⟩ := F
  obtain ⟨hx, hb, -⟩ := hF
  obtain ⟨d, rfl⟩ := d
  intro H locs cells slots lsA z1 z2 z3 z4 z5 z6
  have q := k H locs cells slots lsA z1 z2 z3 z4 z5 z6
  rw [show qI (a * b) = .int (Int32.ofInt a * Int32.ofInt b) from congrArg _ (Int32.ofInt_mul a b)] at q
  exact lv_imul hx hb d q
theorem q_ladd (hF : q_ok G F Y h) {a b : Int}  (d : q_d Y.2.1 pc pc' .ladd 1) (k : qX G F Q kc ks pc' ls (qL (a + b) :: st) sz T I L P) : qX G F Q kc ks pc ls (qL b :: qL a :: st) sz T I L P := by
  obtain ⟨p, l, e, R, s, m, args, below, meth, c, mc, ms⟩ := F
  obtain ⟨hx, hb, -⟩ := hF
  obtain ⟨d, rfl⟩ := d
  intro H locs cells slots lsA z1 z2 z3 z4 z5 z6
  have q := k H locs cells slots lsA z1 z2 z3 z4 z5 z6
  rw [show qL (a + b) = .long (Int64.ofInt a + Int64.ofInt b) from congrArg _ (Int64.ofInt_add a b)] at q
  exact lv_ladd hx hb d q
theorem q_lsub (hF : q_ok G F Y h) {a b : Int}  (d : q_d Y.2.1 pc pc' .lsub 1) (k : qX G F Q kc ks pc' ls (qL (a - b) :: st) sz T I L P) : qX G F Q kc ks pc ls (qL b :: qL a :: st) sz T I L P := by
  obtain ⟨p, l, e, R, s, m, args, below, meth, c, mc, ms⟩ := F
  obtain ⟨hx, hb, -⟩ := hF
  obtain ⟨d, rfl⟩ := d
  intro H locs cells slots lsA z1 z2 z3 z4 z5 z6
  have q := k H locs cells slots lsA z1 z2 z3 z4 z5 z6
  rw [show qL (a - b) = .long (Int64.ofInt a - Int64.ofInt b) from congrArg _ (Int64.ofInt_sub a b)] at q
  exact lv_lsub hx hb d q
theorem q_lmul (hF : q_ok G F Y h) {a b : Int}  (d : q_d Y.2.1 pc pc' .lmul 1) (k : qX G F Q kc ks pc' ls (qL (a * b) :: st) sz T I L P) : qX G F Q kc ks pc ls (qL b :: qL a :: st) sz T I L P := by
  obtain ⟨p, l, e, R, s, m, args, below, meth, c, mc, ms⟩ := F
  obtain ⟨hx, hb, -⟩ := hF
  obtain ⟨d, rfl⟩ := d
  intro H locs cells slots lsA z1 z2 z3 z4 z5 z6
  have q := k H locs cells slots lsA z1 z2 z3 z4 z5 z6
  rw [show qL (a * b) = .long (Int64.ofInt a * Int64.ofInt b) from congrArg _ (Int64.ofInt_mul a b)] at q
  exact lv_lmul hx hb d q
theorem q_ldiv (hF : q_ok G F Y h) {a b : Int} (ha : -9223372036854775808 ≤ a ∧ a < 9223372036854775808) (hb2 : -9223372036854775808 ≤ b ∧ b < 9223372036854775808) (h0 : b ≠ 0) (d : q_d Y.2.1 pc pc' .ldiv 1) (k : qX G F Q kc ks pc' ls (qL (a.tdiv b) :: st) sz T I L P) : qX G F Q kc ks pc ls (qL b :: qL a :: st) sz T I L P := by
  obtain ⟨p, l, e, R, s, m, args, below, meth, c, mc, ms⟩ := F
  obtain ⟨hx, hb, -⟩ := hF
  obtain ⟨d, rfl⟩ := d
  intro H locs cells slots lsA z1 z2 z3 z4 z5 z6
  have q := k H locs cells slots lsA z1 z2 z3 z4 z5 z6
  rw [show qL (a.tdiv b) = .long (Int64.ofInt a / Int64.ofInt b) from congrArg _ ((ql_div ha hb2).symm)] at q
  exact lv_ldiv hx hb d (by intro e; exact h0 ((ql_eq hb2 (by decide)).mp (e.trans rfl))) q
theorem q_lrem (hF : q_ok G F Y h) {a b : Int} (ha : -9223372036854775808 ≤ a ∧ a < 9223372036854775808) (hb2 : -9223372036854775808 ≤ b ∧ b < 9223372036854775808) (h0 : b ≠ 0) (d : q_d Y.2.1 pc pc' .lrem 1) (k : qX G F Q kc ks pc' ls (qL (a.tmod b) :: st) sz T I L P) : qX G F Q kc ks pc ls (qL b :: qL a :: st) sz T I L P := by
  obtain ⟨p, l, e, R, s, m, args, below, meth, c, mc, ms⟩ := F
  obtain ⟨hx, hb, -⟩ := hF
  obtain ⟨d, rfl⟩ := d
  intro H locs cells slots lsA z1 z2 z3 z4 z5 z6
  have q := k H locs cells slots lsA z1 z2 z3 z4 z5 z6
  have e0 : Int64.ofInt (a.tmod b) = Int64.ofInt a - Int64.ofInt a / Int64.ofInt b * Int64.ofInt b := by
    rw [ql_div ha hb2, ← Int64.ofInt_mul, ← Int64.ofInt_sub]
    congr 1
    have := Int.tmod_add_mul_tdiv a b
    rw [Int.mul_comm] at this
    omega
  rw [show qL (a.tmod b) = .long (Int64.ofInt a - Int64.ofInt a / Int64.ofInt b * Int64.ofInt b) from congrArg _ e0] at q
  exact lv_lrem hx hb d (by intro e; exact h0 ((ql_eq hb2 (by decide)).mp (e.trans rfl))) q
theorem q_irem (hF : q_ok G F Y h) {a b : Int} (ha : -2147483647 ≤ a ∧ a < 2147483648) (hb2 : -2147483648 ≤ b ∧ b < 2147483648) (h0 : b ≠ 0) (d : q_d Y.2.1 pc pc' .irem 1) (k : qX G F Q kc ks pc' ls (qI (a.tmod b) :: st) sz T I L P) : qX G F Q kc ks pc ls (qI b :: qI a :: st) sz T I L P := by
  obtain ⟨p, l, e, R, s, m, args, below, meth, c, mc, ms⟩ := F
  obtain ⟨hx, hb, -⟩ := hF
  obtain ⟨d, rfl⟩ := d
  intro H locs cells slots lsA z1 z2 z3 z4 z5 z6
  have q := k H locs cells slots lsA z1 z2 z3 z4 z5 z6
  have e0 : Int32.ofInt (a.tmod b) = Int32.ofInt a - Int32.ofInt a / Int32.ofInt b * Int32.ofInt b := by
    rw [qi_div ha hb2, ← Int32.ofInt_mul, ← Int32.ofInt_sub]
    congr 1
    have := Int.tmod_add_mul_tdiv a b
    rw [Int.mul_comm] at this
    omega
  rw [show qI (a.tmod b) = .int (Int32.ofInt a - Int32.ofInt a / Int32.ofInt b * Int32.ofInt b) from congrArg _ e0] at q
  exact lv_irem hx hb d (by intro e; exact h0 ((qi_eq hb2 (by decide)).mp (e.trans rfl))) q
theorem q_iand (hF : q_ok G F Y h) {a b c0 : Int} (hc : Int32.ofInt a &&& Int32.ofInt b = Int32.ofInt c0) (d : q_d Y.2.1 pc pc' .iand 1) (k : qX G F Q kc ks pc' ls (qI c0 :: st) sz T I L P) : qX G F Q kc ks pc ls (qI b :: qI a :: st) sz T I L P := by
  obtain ⟨p, l, e, R, s, m, args, below, meth, c, mc, ms⟩ := F
  obtain ⟨hx, hb, -⟩ := hF
  obtain ⟨d, rfl⟩ := d
  intro H locs cells slots lsA z1 z2 z3 z4 z5 z6
  exact lv_iand hx hb d (by rw [hc]; exact k H locs cells slots lsA z1 z2 z3 z4 z5 z6)
theorem q_ior (hF : q_ok G F Y h) {a b c0 : Int} (hc : Int32.ofInt a ||| Int32.ofInt b = Int32.ofInt c0) (d : q_d Y.2.1 pc pc' .ior 1) (k : qX G F Q kc ks pc' ls (qI c0 :: st) sz T I L P) : qX G F Q kc ks pc ls (qI b :: qI a :: st) sz T I L P := by
  obtain ⟨p, l, e, R, s, m, args, below, meth, c, mc, ms⟩ := F
  obtain ⟨hx, hb, -⟩ := hF
  obtain ⟨d, rfl⟩ := d
  intro H locs cells slots lsA z1 z2 z3 z4 z5 z6
  exact lv_ior hx hb d (by rw [hc]; exact k H locs cells slots lsA z1 z2 z3 z4 z5 z6)
theorem q_ixor (hF : q_ok G F Y h) {a b c0 : Int} (hc : Int32.ofInt a ^^^ Int32.ofInt b = Int32.ofInt c0) (d : q_d Y.2.1 pc pc' .ixor 1) (k : qX G F Q kc ks pc' ls (qI c0 :: st) sz T I L P) : qX G F Q kc ks pc ls (qI b :: qI a :: st) sz T I L P := by
  obtain ⟨p, l, e, R, s, m, args, below, meth, c, mc, ms⟩ := F
  obtain ⟨hx, hb, -⟩ := hF
  obtain ⟨d, rfl⟩ := d
  intro H locs cells slots lsA z1 z2 z3 z4 z5 z6
  exact lv_ixor hx hb d (by rw [hc]; exact k H locs cells slots lsA z1 z2 z3 z4 z5 z6)
theorem q_ishl (hF : q_ok G F Y h) {a b c0 : Int} (hc : Int32.ofInt a <<< (Int32.ofInt b &&& 31) = Int32.ofInt c0) (d : q_d Y.2.1 pc pc' .ishl 1) (k : qX G F Q kc ks pc' ls (qI c0 :: st) sz T I L P) : qX G F Q kc ks pc ls (qI b :: qI a :: st) sz T I L P := by
  obtain ⟨p, l, e, R, s, m, args, below, meth, c, mc, ms⟩ := F
  obtain ⟨hx, hb, -⟩ := hF
  obtain ⟨d, rfl⟩ := d
  intro H locs cells slots lsA z1 z2 z3 z4 z5 z6
  exact lv_ishl hx hb d (by rw [hc]; exact k H locs cells slots lsA z1 z2 z3 z4 z5 z6)
theorem q_ishr (hF : q_ok G F Y h) {a b c0 : Int} (hc : Int32.ofInt a >>> (Int32.ofInt b &&& 31) = Int32.ofInt c0) (d : q_d Y.2.1 pc pc' .ishr 1) (k : qX G F Q kc ks pc' ls (qI c0 :: st) sz T I L P) : qX G F Q kc ks pc ls (qI b :: qI a :: st) sz T I L P := by
  obtain ⟨p, l, e, R, s, m, args, below, meth, c, mc, ms⟩ := F
  obtain ⟨hx, hb, -⟩ := hF
  obtain ⟨d, rfl⟩ := d
  intro H locs cells slots lsA z1 z2 z3 z4 z5 z6
  exact lv_ishr hx hb d (by rw [hc]; exact k H locs cells slots lsA z1 z2 z3 z4 z5 z6)
theorem q_iushr (hF : q_ok G F Y h) {a b c0 : Int} (hc : ((Int32.ofInt a).toUInt32 >>> ((Int32.ofInt b).toUInt32 &&& Int32.toUInt32 31)).toInt32 = Int32.ofInt c0) (d : q_d Y.2.1 pc pc' .iushr 1) (k : qX G F Q kc ks pc' ls (qI c0 :: st) sz T I L P) : qX G F Q kc ks pc ls (qI b :: qI a :: st) sz T I L P := by
  obtain ⟨p, l, e, R, s, m, args, below, meth, c, mc, ms⟩ := F
  obtain ⟨hx, hb, -⟩ := hF
  obtain ⟨d, rfl⟩ := d
  intro H locs cells slots lsA z1 z2 z3 z4 z5 z6
  exact lv_iushr hx hb d hc (k H locs cells slots lsA z1 z2 z3 z4 z5 z6)
theorem q_ineg (hF : q_ok G F Y h) {a : Int} (d : q_d Y.2.1 pc pc' .ineg 1) (k : qX G F Q kc ks pc' ls (qI (-a) :: st) sz T I L P) : qX G F Q kc ks pc ls (qI a :: st) sz T I L P := by
  obtain ⟨p, l, e, R, s, m, args, below, meth, c, mc, ms⟩ := F
  obtain ⟨hx, hb, -⟩ := hF
  obtain ⟨d, rfl⟩ := d
  intro H locs cells slots lsA z1 z2 z3 z4 z5 z6
  exact lv_ineg hx hb d (by rw [← Int32.ofInt_neg]; exact k H locs cells slots lsA z1 z2 z3 z4 z5 z6)
theorem q_lneg (hF : q_ok G F Y h) {a : Int} (d : q_d Y.2.1 pc pc' .lneg 1) (k : qX G F Q kc ks pc' ls (qL (-a) :: st) sz T I L P) : qX G F Q kc ks pc ls (qL a :: st) sz T I L P := by
  obtain ⟨p, l, e, R, s, m, args, below, meth, c, mc, ms⟩ := F
  obtain ⟨hx, hb, -⟩ := hF
  obtain ⟨d, rfl⟩ := d
  intro H locs cells slots lsA z1 z2 z3 z4 z5 z6
  exact lv_lneg hx hb d (by rw [← Int64.ofInt_neg]; exact k H locs cells slots lsA z1 z2 z3 z4 z5 z6)
theorem q_i2l (hF : q_ok G F Y h) {a : Int} (ha : -2147483648 ≤ a ∧ a < 2147483648) (d : q_d Y.2.1 pc pc' .i2l 1) (k : qX G F Q kc ks pc' ls (qL a :: st) sz T I L P) : qX G F Q kc ks pc ls (qI a :: st) sz T I L P := by
  obtain ⟨p, l, e, R, s, m, args, below, meth, c, mc, ms⟩ := F
  obtain ⟨hx, hb, -⟩ := hF
  obtain ⟨d, rfl⟩ := d
  intro H locs cells slots lsA z1 z2 z3 z4 z5 z6
  exact lv_i2l hx hb d (qi_64 ha) (k H locs cells slots lsA z1 z2 z3 z4 z5 z6)
theorem q_l2i (hF : q_ok G F Y h) {a : Int} (d : q_d Y.2.1 pc pc' .l2i 1) (k : qX G F Q kc ks pc' ls (qI a :: st) sz T I L P) : qX G F Q kc ks pc ls (qL a :: st) sz T I L P := by
  obtain ⟨p, l, e, R, s, m, args, below, meth, c, mc, ms⟩ := F
  obtain ⟨hx, hb, -⟩ := hF
  obtain ⟨d, rfl⟩ := d
  intro H locs cells slots lsA z1 z2 z3 z4 z5 z6
  exact lv_l2i hx hb d Int64.toInt32_ofInt (k H locs cells slots lsA z1 z2 z3 z4 z5 z6)
theorem q_dup (hF : q_ok G F Y h) {v : Value} (hv : v.category = 1) (d : q_d Y.2.1 pc pc' .dup 1) (k : qX G F Q kc ks pc' ls (v :: v :: st) sz T I L P) : qX G F Q kc ks pc ls (v :: st) sz T I L P := by
  obtain ⟨p, l, e, R, s, m, args, below, meth, c, mc, ms⟩ := F
  obtain ⟨hx, hb, -⟩ := hF
  obtain ⟨d, rfl⟩ := d
  intro H locs cells slots lsA z1 z2 z3 z4 z5 z6
  exact lv_dup hx hb d hv (k H locs cells slots lsA z1 z2 z3 z4 z5 z6)
theorem q_pop (hF : q_ok G F Y h) {v : Value} (hv : v.category = 1) (d : q_d Y.2.1 pc pc' .pop 1) (k : qX G F Q kc ks pc' ls (st) sz T I L P) : qX G F Q kc ks pc ls (v :: st) sz T I L P := by
  obtain ⟨p, l, e, R, s, m, args, below, meth, c, mc, ms⟩ := F
  obtain ⟨hx, hb, -⟩ := hF
  obtain ⟨d, rfl⟩ := d
  intro H locs cells slots lsA z1 z2 z3 z4 z5 z6
  exact lv_pop hx hb d hv (k H locs cells slots lsA z1 z2 z3 z4 z5 z6)
theorem q_ifeq (hF : q_ok G F Y h) {a : Int} (ha : -2147483648 ≤ a ∧ a < 2147483648) (d : q_j Y.2.1 pc pc' tgt (fun o => .ifCond .eq o)) (kt : a = 0 → qX G F Q kc ks tgt ls st sz T I L P) (kf : a ≠ 0 → qX G F Q kc ks pc' ls st sz T I L P) : qX G F Q kc ks pc ls (qI a :: st) sz T I L P := by
  obtain ⟨p, l, e, R, s, m, args, below, meth, c, mc, ms⟩ := F
  obtain ⟨hx, hb, -⟩ := hF
  obtain ⟨off, d, rfl, ht⟩ := d
  intro H locs cells slots lsA z1 z2 z3 z4 z5 z6
  exact lv_if_eq hx hb d ht (fun q => kt ((qi_eq0 ha).mp q) H locs cells slots lsA z1 z2 z3 z4 z5 z6) (fun q => kf (fun e => q ((qi_eq0 ha).mpr e)) H locs cells slots lsA z1 z2 z3 z4 z5 z6)
theorem q_ifne (hF : q_ok G F Y h) {a : Int} (ha : -2147483648 ≤ a ∧ a < 2147483648) (d : q_j Y.2.1 pc pc' tgt (fun o => .ifCond .ne o)) (kt : a ≠ 0 → qX G F Q kc ks tgt ls st sz T I L P) (kf : a = 0 → qX G F Q kc ks pc' ls st sz T I L P) : qX G F Q kc ks pc ls (qI a :: st) sz T I L P := by
  obtain ⟨p, l, e, R, s, m, args, below, meth, c, mc, ms⟩ := F
  obtain ⟨hx, hb, -⟩ := hF
  obtain ⟨off, d, rfl, ht⟩ := d
  intro H locs cells slots lsA z1 z2 z3 z4 z5 z6
  exact lv_if_ne hx hb d ht (fun q => kt (fun e => q ((qi_eq0 ha).mpr e)) H locs cells slots lsA z1 z2 z3 z4 z5 z6) (fun q => kf ((qi_eq0 ha).mp q) H locs cells slots lsA z1 z2 z3 z4 z5 z6)
theorem q_iflt (hF : q_ok G F Y h) {a : Int} (ha : -2147483648 ≤ a ∧ a < 2147483648) (d : q_j Y.2.1 pc pc' tgt (fun o => .ifCond .lt o)) (kt : a < 0 → qX G F Q kc ks tgt ls st sz T I L P) (kf : 0 ≤ a → qX G F Q kc ks pc' ls st sz T I L P) : qX G F Q kc ks pc ls (qI a :: st) sz T I L P := by
  obtain ⟨p, l, e, R, s, m, args, below, meth, c, mc, ms⟩ := F
  obtain ⟨hx, hb, -⟩ := hF
  obtain ⟨off, d, rfl, ht⟩ := d
  intro H locs cells slots lsA z1 z2 z3 z4 z5 z6
  exact lv_if_lt hx hb d ht (fun q => kt ((qi_lt0 ha).mp q) H locs cells slots lsA z1 z2 z3 z4 z5 z6) (fun q => kf (by have := mt (qi_lt0 ha).mpr q; omega) H locs cells slots lsA z1 z2 z3 z4 z5 z6)
theorem q_ifge (hF : q_ok G F Y h) {a : Int} (ha : -2147483648 ≤ a ∧ a < 2147483648) (d : q_j Y.2.1 pc pc' tgt (fun o => .ifCond .ge o)) (kt : 0 ≤ a → qX G F Q kc ks tgt ls st sz T I L P) (kf : a < 0 → qX G F Q kc ks pc' ls st sz T I L P) : qX G F Q kc ks pc ls (qI a :: st) sz T I L P := by
  obtain ⟨p, l, e, R, s, m, args, below, meth, c, mc, ms⟩ := F
  obtain ⟨hx, hb, -⟩ := hF
  obtain ⟨off, d, rfl, ht⟩ := d
  intro H locs cells slots lsA z1 z2 z3 z4 z5 z6
  exact lv_if_ge hx hb d ht (fun q => kt ((qi_ge0 ha).mp q) H locs cells slots lsA z1 z2 z3 z4 z5 z6) (fun q => kf (by have := mt (qi_ge0 ha).mpr q; omega) H locs cells slots lsA z1 z2 z3 z4 z5 z6)
theorem q_ifgt (hF : q_ok G F Y h) {a : Int} (ha : -2147483648 ≤ a ∧ a < 2147483648) (d : q_j Y.2.1 pc pc' tgt (fun o => .ifCond .gt o)) (kt : 0 < a → qX G F Q kc ks tgt ls st sz T I L P) (kf : a ≤ 0 → qX G F Q kc ks pc' ls st sz T I L P) : qX G F Q kc ks pc ls (qI a :: st) sz T I L P := by
  obtain ⟨p, l, e, R, s, m, args, below, meth, c, mc, ms⟩ := F
  obtain ⟨hx, hb, -⟩ := hF
  obtain ⟨off, d, rfl, ht⟩ := d
  intro H locs cells slots lsA z1 z2 z3 z4 z5 z6
  exact lv_if_gt hx hb d ht (fun q => kt ((qi_gt0 ha).mp q) H locs cells slots lsA z1 z2 z3 z4 z5 z6) (fun q => kf (by have := mt (qi_gt0 ha).mpr q; omega) H locs cells slots lsA z1 z2 z3 z4 z5 z6)
theorem q_ifle (hF : q_ok G F Y h) {a : Int} (ha : -2147483648 ≤ a ∧ a < 2147483648) (d : q_j Y.2.1 pc pc' tgt (fun o => .ifCond .le o)) (kt : a ≤ 0 → qX G F Q kc ks tgt ls st sz T I L P) (kf : 0 < a → qX G F Q kc ks pc' ls st sz T I L P) : qX G F Q kc ks pc ls (qI a :: st) sz T I L P := by
  obtain ⟨p, l, e, R, s, m, args, below, meth, c, mc, ms⟩ := F
  obtain ⟨hx, hb, -⟩ := hF
  obtain ⟨off, d, rfl, ht⟩ := d
  intro H locs cells slots lsA z1 z2 z3 z4 z5 z6
  exact lv_if_le hx hb d ht (fun q => kt ((qi_le0 ha).mp q) H locs cells slots lsA z1 z2 z3 z4 z5 z6) (fun q => kf (by have := mt (qi_le0 ha).mpr q; omega) H locs cells slots lsA z1 z2 z3 z4 z5 z6)
theorem q_icmpeq (hF : q_ok G F Y h) {a b : Int} (ha : -2147483648 ≤ a ∧ a < 2147483648) (hb2 : -2147483648 ≤ b ∧ b < 2147483648) (d : q_j Y.2.1 pc pc' tgt (fun o => .if_icmp .eq o)) (kt : a = b → qX G F Q kc ks tgt ls st sz T I L P) (kf : a ≠ b → qX G F Q kc ks pc' ls st sz T I L P) : qX G F Q kc ks pc ls (qI b :: qI a :: st) sz T I L P := by
  obtain ⟨p, l, e, R, s, m, args, below, meth, c, mc, ms⟩ := F
  obtain ⟨hx, hb, -⟩ := hF
  obtain ⟨off, d, rfl, ht⟩ := d
  intro H locs cells slots lsA z1 z2 z3 z4 z5 z6
  exact lv_icmp_eq hx hb d ht (fun q => kt ((qi_eq ha hb2).mp q) H locs cells slots lsA z1 z2 z3 z4 z5 z6) (fun q => kf (fun e => q ((qi_eq ha hb2).mpr e)) H locs cells slots lsA z1 z2 z3 z4 z5 z6)
theorem q_icmpne (hF : q_ok G F Y h) {a b : Int} (ha : -2147483648 ≤ a ∧ a < 2147483648) (hb2 : -2147483648 ≤ b ∧ b < 2147483648) (d : q_j Y.2.1 pc pc' tgt (fun o => .if_icmp .ne o)) (kt : a ≠ b → qX G F Q kc ks tgt ls st sz T I L P) (kf : a = b → qX G F Q kc ks pc' ls st sz T I L P) : qX G F Q kc ks pc ls (qI b :: qI a :: st) sz T I L P := by
  obtain ⟨p, l, e, R, s, m, args, below, meth, c, mc, ms⟩ := F
  obtain ⟨hx, hb, -⟩ := hF
  obtain ⟨off, d, rfl, ht⟩ := d
  intro H locs cells slots lsA z1 z2 z3 z4 z5 z6
  exact lv_icmp_ne hx hb d ht (fun q => kt (fun e => q ((qi_eq ha hb2).mpr e)) H locs cells slots lsA z1 z2 z3 z4 z5 z6) (fun q => kf ((qi_eq ha hb2).mp q) H locs cells slots lsA z1 z2 z3 z4 z5 z6)
theorem q_icmplt (hF : q_ok G F Y h) {a b : Int} (ha : -2147483648 ≤ a ∧ a < 2147483648) (hb2 : -2147483648 ≤ b ∧ b < 2147483648) (d : q_j Y.2.1 pc pc' tgt (fun o => .if_icmp .lt o)) (kt : a < b → qX G F Q kc ks tgt ls st sz T I L P) (kf : b ≤ a → qX G F Q kc ks pc' ls st sz T I L P) : qX G F Q kc ks pc ls (qI b :: qI a :: st) sz T I L P := by
  obtain ⟨p, l, e, R, s, m, args, below, meth, c, mc, ms⟩ := F
  obtain ⟨hx, hb, -⟩ := hF
  obtain ⟨off, d, rfl, ht⟩ := d
  intro H locs cells slots lsA z1 z2 z3 z4 z5 z6
  exact lv_icmp_lt hx hb d ht (fun q => kt ((qi_lt ha hb2).mp q) H locs cells slots lsA z1 z2 z3 z4 z5 z6) (fun q => kf (by have := mt (qi_lt ha hb2).mpr q; omega) H locs cells slots lsA z1 z2 z3 z4 z5 z6)
theorem q_icmpge (hF : q_ok G F Y h) {a b : Int} (ha : -2147483648 ≤ a ∧ a < 2147483648) (hb2 : -2147483648 ≤ b ∧ b < 2147483648) (d : q_j Y.2.1 pc pc' tgt (fun o => .if_icmp .ge o)) (kt : b ≤ a → qX G F Q kc ks tgt ls st sz T I L P) (kf : a < b → qX G F Q kc ks pc' ls st sz T I L P) : qX G F Q kc ks pc ls (qI b :: qI a :: st) sz T I L P := by
  obtain ⟨p, l, e, R, s, m, args, below, meth, c, mc, ms⟩ := F
  obtain ⟨hx, hb, -⟩ := hF
  obtain ⟨off, d, rfl, ht⟩ := d
  intro H locs cells slots lsA z1 z2 z3 z4 z5 z6
  exact lv_icmp_ge hx hb d ht (fun q => kt ((qi_le hb2 ha).mp q) H locs cells slots lsA z1 z2 z3 z4 z5 z6) (fun q => kf (by have := mt (qi_le hb2 ha).mpr q; omega) H locs cells slots lsA z1 z2 z3 z4 z5 z6)
theorem q_icmpgt (hF : q_ok G F Y h) {a b : Int} (ha : -2147483648 ≤ a ∧ a < 2147483648) (hb2 : -2147483648 ≤ b ∧ b < 2147483648) (d : q_j Y.2.1 pc pc' tgt (fun o => .if_icmp .gt o)) (kt : b < a → qX G F Q kc ks tgt ls st sz T I L P) (kf : a ≤ b → qX G F Q kc ks pc' ls st sz T I L P) : qX G F Q kc ks pc ls (qI b :: qI a :: st) sz T I L P := by
  obtain ⟨p, l, e, R, s, m, args, below, meth, c, mc, ms⟩ := F
  obtain ⟨hx, hb, -⟩ := hF
  obtain ⟨off, d, rfl, ht⟩ := d
  intro H locs cells slots lsA z1 z2 z3 z4 z5 z6
  exact lv_icmp_gt hx hb d ht (fun q => kt ((qi_lt hb2 ha).mp q) H locs cells slots lsA z1 z2 z3 z4 z5 z6) (fun q => kf (by have := mt (qi_lt hb2 ha).mpr q; omega) H locs cells slots lsA z1 z2 z3 z4 z5 z6)
theorem q_icmple (hF : q_ok G F Y h) {a b : Int} (ha : -2147483648 ≤ a ∧ a < 2147483648) (hb2 : -2147483648 ≤ b ∧ b < 2147483648) (d : q_j Y.2.1 pc pc' tgt (fun o => .if_icmp .le o)) (kt : a ≤ b → qX G F Q kc ks tgt ls st sz T I L P) (kf : b < a → qX G F Q kc ks pc' ls st sz T I L P) : qX G F Q kc ks pc ls (qI b :: qI a :: st) sz T I L P := by
  obtain ⟨p, l, e, R, s, m, args, below, meth, c, mc, ms⟩ := F
  obtain ⟨hx, hb, -⟩ := hF
  obtain ⟨off, d, rfl, ht⟩ := d
  intro H locs cells slots lsA z1 z2 z3 z4 z5 z6
  exact lv_icmp_le hx hb d ht (fun q => kt ((qi_le ha hb2).mp q) H locs cells slots lsA z1 z2 z3 z4 z5 z6) (fun q => kf (by have := mt (qi_le ha hb2).mpr q; omega) H locs cells slots lsA z1 z2 z3 z4 z5 z6)
theorem q_goto (hF : q_ok G F Y h) (d : q_j Y.2.1 pc pc' tgt (fun o => .goto o)) (k : qX G F Q kc ks tgt ls st sz T I L P) : qX G F Q kc ks pc ls st sz T I L P := by
  obtain ⟨p, l, e, R, s, m, args, below, meth, c, mc, ms⟩ := F
  obtain ⟨hx, hb, -⟩ := hF
  obtain ⟨off, d, rfl, ht⟩ := d
  intro H locs cells slots lsA z1 z2 z3 z4 z5 z6
  exact lv_goto hx hb d ht (k H locs cells slots lsA z1 z2 z3 z4 z5 z6)
theorem q_lcmp (hF : q_ok G F Y h) {a b : Int} (ha : -9223372036854775808 ≤ a ∧ a < 9223372036854775808) (hb2 : -9223372036854775808 ≤ b ∧ b < 9223372036854775808) (d : q_d Y.2.1 pc pc' .lcmp 1) (k : qX G F Q kc ks pc' ls (qI (q_cmp a b) :: st) sz T I L P) : qX G F Q kc ks pc ls (qL b :: qL a :: st) sz T I L P := by
  obtain ⟨p, l, e, R, s, m, args, below, meth, c, mc, ms⟩ := F
  obtain ⟨hx, hb, -⟩ := hF
  obtain ⟨d, rfl⟩ := d
  intro H locs cells slots lsA z1 z2 z3 z4 z5 z6
  have q := k H locs cells slots lsA z1 z2 z3 z4 z5 z6
  rw [show qI (q_cmp a b) = .int (lg_cmp (Int64.ofInt a) (Int64.ofInt b)) from congrArg _ (q_lcmp_eq ha hb2).symm] at q
  exact W.lcmp hx hb d q
theorem q_ldc (hF : q_ok G F Y h) {n : Int} {i : Nat} (hw : Cond.constant Y.1.cls i (Int32.ofInt n) ∈ q_all) (d : q_d Y.2.1 pc pc' (.ldc i) 2) (k : qX G F Q kc ks pc' ls (qI n :: st) sz T I L P) : qX G F Q kc ks pc ls st sz T I L P := by
  obtain ⟨p, l, e, R, s, m, args, below, meth, c, mc, ms⟩ := F
  obtain ⟨hx, hb, hr, hlk, hml, ho, hnm, htb, hg, -⟩ := hF
  obtain ⟨d, rfl⟩ := d
  intro H locs cells slots lsA z1 z2 z3 z4 z5 z6
  exact lv_ldc hx hb ho (hg.at hw args) d (k H locs cells slots lsA z1 z2 z3 z4 z5 z6)
theorem q_ldc2 (hF : q_ok G F Y h) {n : Int} {i : Nat} (hw : Cond.constantLong Y.1.cls i (Int64.ofInt n) ∈ q_all) (d : q_d Y.2.1 pc pc' (.ldc2_w i) 3) (k : qX G F Q kc ks pc' ls (qL n :: st) sz T I L P) : qX G F Q kc ks pc ls st sz T I L P := by
  obtain ⟨p, l, e, R, s, m, args, below, meth, c, mc, ms⟩ := F
  obtain ⟨hx, hb, hr, hlk, hml, ho, hnm, htb, hg, -⟩ := hF
  obtain ⟨d, rfl⟩ := d
  intro H locs cells slots lsA z1 z2 z3 z4 z5 z6
  exact lv_ldc2 hx hb ho (hg.at hw args) d (k H locs cells slots lsA z1 z2 z3 z4 z5 z6)
/-- a field link, resolved: class ci of q_cl, its field k, of type ty -/
def q_FL (own : String) (idx ci k : Nat) (ty : FieldType) (fin : Bool) : Prop := ∃ r : vw_C, q_cl[ci]? = some r ∧ k < r.2.2 ∧ Cond.fieldLink own idx (r.2.1 k).1 (r.2.1 k).2.1 (r.2.1 k).2.2.1 ∈ q_all ∧ q_ft ci k = ty ∧ (r.2.1 k).2.2.2 = fin ∧ (r.2.1 k).1 = r.1
theorem q_Gs.ts {G : q_G} {s : State} (h : q_Gs G s) (args : Array Value) : ∀ w ∈ q_all, w.before args s = true := fun _ hw => h.at hw args
theorem q_getV (hF : q_ok G F Y h) {idx ci j a : Nat} {ty : FieldType} {fin : Bool} (fl : q_FL Y.1.cls idx ci j ty fin) (hT : T a = some (.inl ci)) (d : q_d Y.2.1 pc pc' (.getfield idx) 3) (k : qX G F Q kc ks pc' ls (q_fv ty I L P a j :: st) sz T I L P) : qX G F Q kc ks pc ls (.ref a :: st) sz T I L P := by
  obtain ⟨p, l, e, R, s, m, args, below, meth, c, mc, ms⟩ := F
  obtain ⟨hx, hb, hr, hlk, hml, ho, hnm, htb, hg, -⟩ := hF
  obtain ⟨d, rfl⟩ := d
  intro H locs cells slots lsA z1 z2 z3 z4 z5 z6
  obtain ⟨r, f1, f2, f3, rfl, -⟩ := fl
  obtain ⟨r', h1, cell, q1, q2, q3, q4⟩ := z2 a _ hT
  cases f1.symm.trans h1
  obtain ⟨hS, hfc, kC, hkC, hkind⟩ := hg.2.1.1 ci _ f1
  obtain ⟨cf, kf, fi, f, hi, hsl⟩ := hS j f2
  exact W.getf hx hb ho (hg.at f3 args) hi (u_facts hfc hkC (u_lays (hg.ts args) (q_lay_in f1) f2) hi).1 q1 (by rw [q3]; exact fun h => by cases h) (by rw [hsl, q4 j f2]) rfl rfl d (k H locs cells slots lsA z1 z2 z3 z4 z5 z6)
theorem q_getI (hF : q_ok G F Y h) {idx ci j a : Nat} {fin : Bool} (fl : q_FL Y.1.cls idx ci j .int fin) (hT : T a = some (.inl ci)) (d : q_d Y.2.1 pc pc' (.getfield idx) 3) (k : qX G F Q kc ks pc' ls (qI (I a j) :: st) sz T I L P) : qX G F Q kc ks pc ls (.ref a :: st) sz T I L P := q_getV hF fl hT d k
theorem q_getZ (hF : q_ok G F Y h) {idx ci j a : Nat} {fin : Bool} (fl : q_FL Y.1.cls idx ci j .boolean fin) (hT : T a = some (.inl ci)) (d : q_d Y.2.1 pc pc' (.getfield idx) 3) (k : qX G F Q kc ks pc' ls (qI (I a j) :: st) sz T I L P) : qX G F Q kc ks pc ls (.ref a :: st) sz T I L P := q_getV hF fl hT d k
theorem q_getL (hF : q_ok G F Y h) {idx ci j a : Nat} {fin : Bool} (fl : q_FL Y.1.cls idx ci j .long fin) (hT : T a = some (.inl ci)) (d : q_d Y.2.1 pc pc' (.getfield idx) 3) (k : qX G F Q kc ks pc' ls (qL (L a j) :: st) sz T I L P) : qX G F Q kc ks pc ls (.ref a :: st) sz T I L P := q_getV hF fl hT d k
/-- a reference that isn't null -/
theorem q_getA (hF : q_ok G F Y h) {idx ci j a b : Nat} {ty : FieldType} {fin : Bool} (fl : q_FL Y.1.cls idx ci j ty fin) (hty : refKind ty = true) (hT : T a = some (.inl ci)) (hp : P a j = some b) (d : q_d Y.2.1 pc pc' (.getfield idx) 3) (k : qX G F Q kc ks pc' ls (.ref b :: st) sz T I L P) : qX G F Q kc ks pc ls (.ref a :: st) sz T I L P := by
  refine q_getV hF fl hT d ?_
  have e : q_fv ty I L P a j = .ref b := by
    unfold q_fv
    cases ty <;> first | (cases hty; done) | (show qR (P a j) = _; rw [hp]; rfl)
  rw [e]
  exact k
theorem q_upd_ob {G : q_G} {I L I' L' : q_I} {P P' : q_P} {a j ci : Nat} {r : vw_C} {v : Value} {cell : Cell} {H' : Heap} {s : State} {cls cf fi : Nat} {f : Field}
    (q2 : cell.cls = G.2.1.1 ci) (q3 : cell.vm = .none) (q4 : ∀ k, k < r.2.2 → cell.slots[G.2.1.2 ci k]? = some (q_fv (q_ft ci k) I L P a k)) (f1 : q_cl[ci]? = some r) (hap : ∀ x y, x < r.2.2 → y < r.2.2 → x ≠ y → (G.2.1.2 ci) x ≠ (G.2.1.2 ci) y) (f2 : j < r.2.2)
    (e1 : H'[a]? = some (cell.setSlot (G.2.1.2 ci j) v)) (hv : q_fv (q_ft ci j) I' L' P' a j = v) (ho : ∀ k, k ≠ j → q_fv (q_ft ci k) I' L' P' a k = q_fv (q_ft ci k) I L P a k) : q_at G I' L' P' a (.inl ci) H' := by
  refine ⟨r, f1, t_OB.to (V := updV (fun k => q_fv (q_ft ci k) I L P a k) j v) ⟨_, e1, q2, q3, t_set q4 hap f2 v⟩ (fun k hk => ?_)⟩
  unfold updV
  by_cases e : k = j
  · rw [if_pos e, e, hv]
  · rw [if_neg e, ho k e]
/-- a store into a field that isn't final: the memory behind it is told by I', L', P' -/
theorem q_putV (hF : q_ok G F Y h) {idx ci j a : Nat} {ty : FieldType} {v : Value} {I' L' : q_I} {P' : q_P} (fl : q_FL Y.1.cls idx ci j ty false) (hT : T a = some (.inl ci)) (hA : q_A G a) (hn : narrow ty v = v) (hfit : fits ty v = true)
    (hI : ∀ q i, (q ≠ a ∨ i ≠ j) → I' q i = I q i) (hL : ∀ q i, (q ≠ a ∨ i ≠ j) → L' q i = L q i) (hP : ∀ q i, (q ≠ a ∨ i ≠ j) → P' q i = P q i) (hv : q_fv ty I' L' P' a j = v)
    (d : q_d Y.2.1 pc pc' (.putfield idx) 3) (k : qX G F Q kc ks pc' ls st sz T I' L' P') : qX G F Q kc ks pc ls (v :: .ref a :: st) sz T I L P := by
  obtain ⟨p, l, e, R, s, m, args, below, meth, c, mc, ms⟩ := F
  obtain ⟨hx, hb, hr, hlk, hml, ho, hnm, htb, hg, -⟩ := hF
  obtain ⟨d, rfl⟩ := d
  intro H locs cells slots lsA z1 z2 z3 z4 z5 z6
  obtain ⟨r, f1, f2, f3, rfl, f5, f6⟩ := fl
  obtain ⟨r', h1, cell, q1, q2, q3, q4⟩ := z2 a _ hT
  cases f1.symm.trans h1
  have hts := hg.ts args
  have hap := va_apart (own := Y.1.cls) hts (q_lay_in f1) (q_ft ci) (q_ft_ok ci r f1) (q_nm_ok ci r f1) hg.2.1 f1
  obtain ⟨hS, hfc, kC, hkC, hkind⟩ := hg.2.1.1 ci _ f1
  obtain ⟨cf, kf, fi, f, hi, hsl⟩ := hS j f2
  have hlay := hts _ (q_lay_in f1 _ (u_in_lay f2))
  unfold u_lay at hlay
  rw [if_neg (by rw [f5]; decide)] at hlay
  have hst := (u_facts hfc hkC (u_lays hts (q_lay_in f1) f2) hi).1
  have h6 := u_store hfc hkC hkind hlay hi (q_ft_ok ci r f1 j f2) hn hfit
  refine W.putK hx hb (f := f) ⟨ho, hg.at f3 args, ⟨_, _, _, hi⟩, hst⟩ (by rw [q2]; exact h6) q1 q3 (by rw [hsl]; exact k2_hasslot (q4 j f2)) rfl rfl d fun H' e1 e2 e3 => ?_
  rw [hsl] at e1 ⊢
  refine k H' _ cells slots lsA (e2.trans z1) (z2.put e3 (fun q i hq => hI q i (Or.inl hq)) (fun q i hq => hL q i (Or.inl hq)) (fun q i hq => hP q i (Or.inl hq)) (fun kk hk => ?_)) (z3.put e2 e3 hA) z4 z5 z6
  cases hT.symm.trans hk
  exact q_upd_ob (s := s) (cls := 0) (cf := 0) (fi := 0) (f := f) q2 q3 q4 f1 hap f2 e1 hv (fun i hi => by unfold q_fv; rw [hI a i (Or.inr hi), hL a i (Or.inr hi), hP a i (Or.inr hi)])
theorem q_u2o {α : Type} {f : Nat → Nat → α} {a j q i : Nat} {v : α} (h : q ≠ a ∨ i ≠ j) : u2 f a j v q i = f q i := by
  unfold u2
  rw [if_neg (fun e => h.elim (fun h => h e.1) (fun h => h e.2))]
theorem q_putI (hF : q_ok G F Y h) {idx ci j a : Nat} {z : Int} (fl : q_FL Y.1.cls idx ci j .int false) (hT : T a = some (.inl ci)) (hA : q_A G a) (d : q_d Y.2.1 pc pc' (.putfield idx) 3) (k : qX G F Q kc ks pc' ls st sz T (u2 I a j z) L P) : qX G F Q kc ks pc ls (qI z :: .ref a :: st) sz T I L P :=
  q_putV hF fl hT hA rfl rfl (fun _ _ h => q_u2o h) (fun _ _ _ => rfl) (fun _ _ _ => rfl) (by show qI (u2 I a j z a j) = _; rw [u2_s]) d k
theorem q_putZ (hF : q_ok G F Y h) {idx ci j a : Nat} {z : Int} (hz : z = 0 ∨ z = 1) (fl : q_FL Y.1.cls idx ci j .boolean false) (hT : T a = some (.inl ci)) (hA : q_A G a) (d : q_d Y.2.1 pc pc' (.putfield idx) 3) (k : qX G F Q kc ks pc' ls st sz T (u2 I a j z) L P) : qX G F Q kc ks pc ls (qI z :: .ref a :: st) sz T I L P :=
  q_putV hF fl hT hA (by rcases hz with rfl | rfl <;> decide +kernel) (by rcases hz with rfl | rfl <;> decide +kernel) (fun _ _ h => q_u2o h) (fun _ _ _ => rfl) (fun _ _ _ => rfl) (by show qI (u2 I a j z a j) = _; rw [u2_s]) d k
theorem q_putL (hF : q_ok G F Y h) {idx ci j a : Nat} {z : Int} (fl : q_FL Y.1.cls idx ci j .long false) (hT : T a = some (.inl ci)) (hA : q_A G a) (d : q_d Y.2.1 pc pc' (.putfield idx) 3) (k : qX G F Q kc ks pc' ls st sz T I (u2 L a j z) P) : qX G F Q kc ks pc ls (qL z :: .ref a :: st) sz T I L P :=
  q_putV hF fl hT hA rfl rfl (fun _ _ _ => rfl) (fun _ _ h => q_u2o h) (fun _ _ _ => rfl) (by show qL (u2 L a j z a j) = _; rw [u2_s]) d k
theorem q_putA (hF : q_ok G F Y h) {idx ci j a b : Nat} {ty : FieldType} (fl : q_FL Y.1.cls idx ci j ty false) (hty : refKind ty = true) (hT : T a = some (.inl ci)) (hA : q_A G a) (d : q_d Y.2.1 pc pc' (.putfield idx) 3) (k : qX G F Q kc ks pc' ls st sz T I L (u2 P a j (some b))) : qX G F Q kc ks pc ls (.ref b :: .ref a :: st) sz T I L P :=
  q_putV hF fl hT hA (by cases ty <;> first | (cases hty; done) | rfl) (by cases ty <;> first | (cases hty; done) | rfl) (fun _ _ _ => rfl) (fun _ _ _ => rfl) (fun _ _ h => q_u2o h) (by unfold q_fv; cases ty <;> first | (cases hty; done) | (show qR (u2 P a j (some b) a j) = _; rw [u2_s]; rfl)) d k
/-- a final reference field, in its class's constructor -/
theorem q_putF (hF : q_ok G F Y h) {idx ci j a b : Nat} {ty : FieldType} {r0 : vw_C} (fl : q_FL Y.1.cls idx ci j ty true) (hci : q_cl[ci]? = some r0) (hcls : r0.1 = Y.1.cls) (hini : Y.1.name = "<init>") (hty : refKind ty = true) (hT : T a = some (.inl ci)) (hA : q_A G a) (d : q_d Y.2.1 pc pc' (.putfield idx) 3) (k : qX G F Q kc ks pc' ls st sz T I L (u2 P a j (some b))) : qX G F Q kc ks pc ls (.ref b :: .ref a :: st) sz T I L P := by
  obtain ⟨p, l, e, R, s, m, args, below, meth, c, mc, ms⟩ := F
  obtain ⟨hx, hb, hr, hlk, hml, ho, hnm, htb, hg, -⟩ := hF
  obtain ⟨d, rfl⟩ := d
  intro H locs cells slots lsA z1 z2 z3 z4 z5 z6
  obtain ⟨r, f1, f2, f3, rfl, f5, f6⟩ := fl
  cases f1.symm.trans hci
  obtain ⟨r', h1, cell, q1, q2, q3, q4⟩ := z2 a _ hT
  cases f1.symm.trans h1
  have hts := hg.ts args
  have hap := va_apart (own := Y.1.cls) hts (q_lay_in f1) (q_ft ci) (q_ft_ok ci _ f1) (q_nm_ok ci _ f1) hg.2.1 f1
  obtain ⟨hS, hfc, kC, hkC, hkind⟩ := hg.2.1.1 ci _ f1
  obtain ⟨cf, kf, fi, f, hi, hsl⟩ := hS j f2
  have hlay := hts _ (q_lay_in f1 _ (u_in_lay f2))
  unfold u_lay at hlay
  rw [if_pos f5] at hlay
  have hst := (u_facts hfc hkC (u_lays hts (q_lay_in f1) f2) hi).1
  have hcf : m.cls = cf := by
    obtain ⟨_, _, c', _, _, _, -, -, hf', -, -, -, hown2, -⟩ := Cond.laysFinal_spec hlay
    have e1 : c' = cf := by have := hi.symm.trans hf'; simp at this; exact this.1.symm
    rw [f6, hcls] at hown2
    rw [← e1]; exact Option.some.inj (ho.symm.trans hown2)
  have h6 := u_fits hfc hkC hkind (Or.inr hlay) hi (q_ft_ok ci _ f1 j f2) (v := .ref b) (by generalize q_ft ci j = ty at hty; cases ty <;> first | (cases hty; done) | rfl) (by generalize q_ft ci j = ty at hty; cases ty <;> first | (cases hty; done) | rfl)
  refine W.putFinK hx hb ho (hg.at f3 args) hi hst hcf (hnm.trans hini) (by rw [q2]; exact h6) q1 q3 (by rw [hsl]; exact k2_hasslot (q4 j f2)) rfl rfl d fun H' e1 e2 e3 => ?_
  rw [hsl] at e1 ⊢
  refine k H' _ cells slots lsA (e2.trans z1) (z2.put e3 (fun _ _ _ => rfl) (fun _ _ _ => rfl) (fun q i hq => q_u2o (Or.inl hq)) (fun kk hk => ?_)) (z3.put e2 e3 hA) z4 z5 z6
  cases hT.symm.trans hk
  refine q_upd_ob (s := s) (cls := 0) (cf := 0) (fi := 0) (f := f) q2 q3 q4 f1 hap f2 e1 ?_ (fun i hi => by unfold q_fv; rw [q_u2o (Or.inr hi)])
  unfold q_fv
  generalize q_ft ci j = ty at hty
  cases ty <;> first | (cases hty; done) | (show qR (u2 P a j (some b) a j) = _; rw [u2_s]; rfl)
/-! arrays -/
theorem q_ix {i : Int} {n : Nat} (hi : 0 ≤ i ∧ i < (n : Int)) (hn : (n : Int) < 2147483648) : vp_in (Int32.ofInt i) n ∧ (Int32.ofInt i).toNatClampNeg = i.toNat ∧ i.toNat < n := ⟨qi_in hi (by omega), qi_cl (by omega), by omega⟩
theorem q_iaload (hF : q_ok G F Y h) {a n : Nat} {i : Int} (hT : T a = some (.inr (0, n))) (hi : 0 ≤ i ∧ i < (n : Int)) (hn : (n : Int) < 2147483648) (d : q_d Y.2.1 pc pc' .iaload 1) (k : qX G F Q kc ks pc' ls (qI (I a i.toNat) :: st) sz T I L P) : qX G F Q kc ks pc ls (qI i :: .ref a :: st) sz T I L P := by
  obtain ⟨p, l, e, R, s, m, args, below, meth, c, mc, ms⟩ := F
  obtain ⟨hx, hb, hr, hlk, hml, ho, hnm, htb, hg, -⟩ := hF
  obtain ⟨d, rfl⟩ := d
  intro H locs cells slots lsA z1 z2 z3 z4 z5 z6
  obtain ⟨w1, w2, w3⟩ := q_ix hi hn
  obtain ⟨-, hc⟩ := z2 a _ hT
  have hAr := (hg.2.1.2 0 _ rfl).1
  refine W.iald (v := qI (I a i.toNat)) hx hb hc (hAr n _) (fun q => by cases q) (by show ¬ (_ < 0 ∨ (arrV _ _ _).slots.size ≤ _); rw [arrV_size]; exact w1) (by show (arrV _ _ _).slots[_]? = _; rw [w2, arrV_read _ _ w3]; rfl) rfl rfl d (k H locs cells slots lsA z1 z2 z3 z4 z5 z6)
theorem q_laload (hF : q_ok G F Y h) {a n : Nat} {i : Int} (hT : T a = some (.inr (1, n))) (hi : 0 ≤ i ∧ i < (n : Int)) (hn : (n : Int) < 2147483648) (d : q_d Y.2.1 pc pc' .laload 1) (k : qX G F Q kc ks pc' ls (qL (L a i.toNat) :: st) sz T I L P) : qX G F Q kc ks pc ls (qI i :: .ref a :: st) sz T I L P := by
  obtain ⟨p, l, e, R, s, m, args, below, meth, c, mc, ms⟩ := F
  obtain ⟨hx, hb, hr, hlk, hml, ho, hnm, htb, hg, -⟩ := hF
  obtain ⟨d, rfl⟩ := d
  intro H locs cells slots lsA z1 z2 z3 z4 z5 z6
  obtain ⟨w1, w2, w3⟩ := q_ix hi hn
  obtain ⟨-, hc⟩ := z2 a _ hT
  have hAr := (hg.2.1.2 1 _ rfl).1
  refine W.lald (v := qL (L a i.toNat)) hx hb hc (hAr n _) (fun q => by cases q) (by show ¬ (_ < 0 ∨ (arrV _ _ _).slots.size ≤ _); rw [arrV_size]; exact w1) (by show (arrV _ _ _).slots[_]? = _; rw [w2, arrV_read _ _ w3]; rfl) rfl rfl d (k H locs cells slots lsA z1 z2 z3 z4 z5 z6)
theorem q_refty {t : Nat} (h2 : 2 ≤ t) (h8 : t < 8) : refKind (q_ty t) = true ∧ ∀ (I L : q_I) (P : q_P) (q k : Nat), q_fv (q_ty t) I L P q k = qR (P q k) := by
  match t, h2, h8 with
  | 2, _, _ => exact ⟨rfl, fun _ _ _ _ _ => rfl⟩
  | 3, _, _ => exact ⟨rfl, fun _ _ _ _ _ => rfl⟩
  | 4, _, _ => exact ⟨rfl, fun _ _ _ _ _ => rfl⟩
  | 5, _, _ => exact ⟨rfl, fun _ _ _ _ _ => rfl⟩
  | 6, _, _ => exact ⟨rfl, fun _ _ _ _ _ => rfl⟩
  | 7, _, _ => exact ⟨rfl, fun _ _ _ _ _ => rfl⟩
theorem q_aaloadR (hF : q_ok G F Y h) {a n t : Nat} {i : Int} (hT : T a = some (.inr (t, n))) (h2 : 2 ≤ t) (hi : 0 ≤ i ∧ i < (n : Int)) (hn : (n : Int) < 2147483648) (d : q_d Y.2.1 pc pc' .aaload 1) (k : qX G F Q kc ks pc' ls (qR (P a i.toNat) :: st) sz T I L P) : qX G F Q kc ks pc ls (qI i :: .ref a :: st) sz T I L P := by
  obtain ⟨p, l, e, R, s, m, args, below, meth, c, mc, ms⟩ := F
  obtain ⟨hx, hb, hr, hlk, hml, ho, hnm, htb, hg, -⟩ := hF
  obtain ⟨d, rfl⟩ := d
  intro H locs cells slots lsA z1 z2 z3 z4 z5 z6
  obtain ⟨w1, w2, w3⟩ := q_ix hi hn
  obtain ⟨ht, hc⟩ := z2 a _ hT
  have hAr := (hg.2.1.2 t _ (q_tys_at _ ht)).1
  obtain ⟨hk, hv⟩ := q_refty h2 ht
  refine W.aald (v := qR (P a i.toNat)) (ty := q_ty t) hx hb hc (hAr n _) hk (fun q => by cases q) (by show ¬ (_ < 0 ∨ (arrV _ _ _).slots.size ≤ _); rw [arrV_size]; exact w1) (by show (arrV _ _ _).slots[_]? = _; rw [w2, arrV_read _ _ w3, hv]) rfl rfl d (k H locs cells slots lsA z1 z2 z3 z4 z5 z6)
theorem q_aaload (hF : q_ok G F Y h) {a n t b : Nat} {i : Int} (hT : T a = some (.inr (t, n))) (h2 : 2 ≤ t) (hi : 0 ≤ i ∧ i < (n : Int)) (hn : (n : Int) < 2147483648) (hp : P a i.toNat = some b) (d : q_d Y.2.1 pc pc' .aaload 1) (k : qX G F Q kc ks pc' ls (.ref b :: st) sz T I L P) : qX G F Q kc ks pc ls (qI i :: .ref a :: st) sz T I L P :=
  q_aaloadR hF hT h2 hi hn d (by rw [hp]; exact k)
theorem q_alen (hF : q_ok G F Y h) {a n t : Nat} (hT : T a = some (.inr (t, n))) (d : q_d Y.2.1 pc pc' .arraylength 1) (k : qX G F Q kc ks pc' ls (qI (n : Int) :: st) sz T I L P) : qX G F Q kc ks pc ls (.ref a :: st) sz T I L P := by
  obtain ⟨p, l, e, R, s, m, args, below, meth, c, mc, ms⟩ := F
  obtain ⟨hx, hb, hr, hlk, hml, ho, hnm, htb, hg, -⟩ := hF
  obtain ⟨d, rfl⟩ := d
  intro H locs cells slots lsA z1 z2 z3 z4 z5 z6
  obtain ⟨ht, hc⟩ := z2 a _ hT
  have hAr := (hg.2.1.2 t _ (q_tys_at _ ht)).1
  exact W.alen (n := Int32.ofInt (n : Int)) hx hb hc (hAr n _) (by rw [arrV_size, qi_nat]) rfl rfl d (k H locs cells slots lsA z1 z2 z3 z4 z5 z6)
theorem q_upd_ar {G : q_G} {I L I' L' : q_I} {P P' : q_P} {a j t n : Nat} {v : Value} {H' : Heap} (ht : t < 8) (e1 : H'[a]? = some ((arrV (G.2.2.1 t) n (fun j => q_fv (q_ty t) I L P a j)).setSlot j v)) (hv : q_fv (q_ty t) I' L' P' a j = v) (ho : ∀ i, i ≠ j → q_fv (q_ty t) I' L' P' a i = q_fv (q_ty t) I L P a i) : q_at G I' L' P' a (.inr (t, n)) H' := by
  refine ⟨ht, e1.trans ?_⟩
  rw [arrV_store]
  congr 2
  funext i
  unfold updV
  by_cases e : i = j
  · rw [if_pos e, e, hv]
  · rw [if_neg e, ho i e]
theorem q_iastore (hF : q_ok G F Y h) {a n : Nat} {i z : Int} (hT : T a = some (.inr (0, n))) (hA : q_A G a) (hi : 0 ≤ i ∧ i < (n : Int)) (hn : (n : Int) < 2147483648) (d : q_d Y.2.1 pc pc' .iastore 1) (k : qX G F Q kc ks pc' ls st sz T (u2 I a i.toNat z) L P) : qX G F Q kc ks pc ls (qI z :: qI i :: .ref a :: st) sz T I L P := by
  obtain ⟨p, l, e, R, s, m, args, below, meth, c, mc, ms⟩ := F
  obtain ⟨hx, hb, hr, hlk, hml, ho, hnm, htb, hg, -⟩ := hF
  obtain ⟨d, rfl⟩ := d
  intro H locs cells slots lsA z1 z2 z3 z4 z5 z6
  obtain ⟨w1, w2, w3⟩ := q_ix hi hn
  obtain ⟨ht, hc⟩ := z2 a _ hT
  have hAr := (hg.2.1.2 0 _ rfl).1
  refine W.iast hx hb hc (hAr n _) (fun q => by cases q) (by show ¬ (_ < 0 ∨ (arrV _ _ _).slots.size ≤ _); rw [arrV_size]; exact w1) rfl rfl d fun H' e1 e2 e3 => ?_
  rw [w2] at e1 ⊢
  refine k H' _ cells slots lsA (e2.trans z1) (z2.put e3 (fun q i hq => q_u2o (Or.inl hq)) (fun _ _ _ => rfl) (fun _ _ _ => rfl) (fun kk hk => ?_)) (z3.put e2 e3 hA) z4 z5 z6
  cases hT.symm.trans hk
  exact q_upd_ar ht e1 (by show qI (u2 I a _ z a _) = _; rw [u2_s]) (fun i hi => by show qI (u2 I a _ z a i) = qI _; rw [q_u2o (Or.inr hi)])
theorem q_lastore (hF : q_ok G F Y h) {a n : Nat} {i z : Int} (hT : T a = some (.inr (1, n))) (hA : q_A G a) (hi : 0 ≤ i ∧ i < (n : Int)) (hn : (n : Int) < 2147483648) (d : q_d Y.2.1 pc pc' .lastore 1) (k : qX G F Q kc ks pc' ls st sz T I (u2 L a i.toNat z) P) : qX G F Q kc ks pc ls (qL z :: qI i :: .ref a :: st) sz T I L P := by
  obtain ⟨p, l, e, R, s, m, args, below, meth, c, mc, ms⟩ := F
  obtain ⟨hx, hb, hr, hlk, hml, ho, hnm, htb, hg, -⟩ := hF
  obtain ⟨d, rfl⟩ := d
  intro H locs cells slots lsA z1 z2 z3 z4 z5 z6
  obtain ⟨w1, w2, w3⟩ := q_ix hi hn
  obtain ⟨ht, hc⟩ := z2 a _ hT
  have hAr := (hg.2.1.2 1 _ rfl).1
  refine W.last hx hb hc (hAr n _) (fun q => by cases q) (by show ¬ (_ < 0 ∨ (arrV _ _ _).slots.size ≤ _); rw [arrV_size]; exact w1) rfl rfl d fun H' e1 e2 e3 => ?_
  rw [w2] at e1 ⊢
  refine k H' _ cells slots lsA (e2.trans z1) (z2.put e3 (fun _ _ _ => rfl) (fun q i hq => q_u2o (Or.inl hq)) (fun _ _ _ => rfl) (fun kk hk => ?_)) (z3.put e2 e3 hA) z4 z5 z6
  cases hT.symm.trans hk
  exact q_upd_ar ht e1 (by show qL (u2 L a _ z a _) = _; rw [u2_s]) (fun i hi => by show qL (u2 L a _ z a i) = qL _; rw [q_u2o (Or.inr hi)])
end QX
end
section
/-! how a method ends, begins, calls another, throws, makes cells -/
/-- behind a call: the answer on the stack, or the exception on its way -/
abbrev q_rt (G : q_G) (F : q_F) (Q : q_Q) (kc ks pc pc' : Nat) (ls : List (Nat × Value)) (st : List Value) : q_Q := fun o sz T I L P => match o with
  | .inl none => qX G F Q kc ks pc' ls st sz T I L P
  | .inl (some v) => qX G F Q kc ks pc' ls (v :: st) sz T I L P
  | .inr E => qT G F Q kc ks pc ls st E sz T I L P
theorem q_blind {G : q_G} {av : List Value} {sz : Nat} {T : q_T} {I L : q_I} {P : q_P} : FrameBlind (va_Pc av (fun U => q_Gs G U ∧ U.heap.size = sz ∧ q_Rep G T I L P U.heap)) := fun a U g mk q =>
  ⟨q.1, q.2.1.go (U := U.calling g mk a) (State.WarmedH.refl U) (fun _ _ _ => rfl), q.2.2.1, q.2.2.2⟩
/-- a method by its body -/
theorem qC_of {G : q_G} {h mc ms : Nat} {Y : q_Y} {av : List Value} {sz : Nat} {T : q_T} {I L : q_I} {P : q_P} {Q : q_Q} {la : List (Nat × Value)} (hp : plainName Y.1.cls = true) (hh : Y.2.2.2.2 = []) (hla : lv_args 0 av = la) (hlen : (lg_sl av).length ≤ Y.2.2.1)
    (body : ∀ F : q_F, q_ok G F Y h → F.2.2.2.2.2.2.2.2.2.2.1 = mc → F.2.2.2.2.2.2.2.2.2.2.2 = ms → qX G F Q mc ms 0 la [] sz T I L P) : qC G h mc ms Y av sz T I L P Q := by
  subst hla
  refine vx_ofW (cc := Y.2.1) (maxL := Y.2.2.1) (ret := Y.2.2.2.1) (ws' := q_all) hp (by unfold q_ws q_code; rw [hh]) ?_
  intro p e s m args below meth c s₁ B hml htab hv
  obtain ⟨rfl, hg, hsz, hR⟩ := hv
  have ht : c.exceptionTable.toList = tableOf Y.2.2.2.2 := by
    rw [hh]
    cases hc : c.exceptionTable.toList with
    | nil => rfl
    | cons a r => exact (htab a (by rw [hc]; exact List.mem_cons_self)).elim
  have q := body (p, G.1, e, q_rm h mc ms, s, m, av.toArray, below, meth, c, mc, ms) ⟨B.exec, B.bytes, B.returns, B.notSynchronized, hml, findClass_of_methodNamed B.named, (name_of_methodNamed B.named B.method).1, ht, hg, rfl, hg.1, rfl⟩ rfl rfl
  rw [lg_entry_eq]
  exact q s.heap [] 0 0 _ hsz hR va_S.rf (by rw [hml]; exact lv_entry av hlen) (by omega) (by omega)
theorem qC_ofH {G : q_G} {h mc ms : Nat} {Y : q_Y} {av : List Value} {sz : Nat} {T : q_T} {I L : q_I} {P : q_P} {Q : q_Q} {la : List (Nat × Value)} (hp : plainName Y.1.cls = true) {h1 : Nat × Nat × Nat × Nat} {hr : List (Nat × Nat × Nat × Nat)} (hh : Y.2.2.2.2 = h1 :: hr) (hla : lv_args 0 av = la) (hlen : (lg_sl av).length ≤ Y.2.2.1)
    (body : ∀ F : q_F, q_ok G F Y h → F.2.2.2.2.2.2.2.2.2.2.1 = mc → F.2.2.2.2.2.2.2.2.2.2.2 = ms → qX G F Q mc ms 0 la [] sz T I L P) : qC G h mc ms Y av sz T I L P Q := by
  subst hla
  have hcode : q_code Y = Cond.codeWith Y.1 Y.2.1 Y.2.2.1 Y.2.2.2.1 Y.2.2.2.2 := by unfold q_code; rw [hh]
  refine vx_ofWH (cc := Y.2.1) (maxL := Y.2.2.1) (ret := Y.2.2.2.1) (ws' := q_all) (hh := Y.2.2.2.2) hp (by unfold q_ws; rw [hcode]) ?_
  intro p e s m args below meth c s₁ B hml hv
  obtain ⟨rfl, hg, hsz, hR⟩ := hv
  have ht : c.exceptionTable.toList = tableOf Y.2.2.2.2 := vx_table (x := Y.1) (y := Y.1) (bytes := Y.2.1) (maxL' := Y.2.2.1) (ret' := Y.2.2.2.1) B (by rw [← hcode]; exact atoms_spec (ws := q_ws Y) B.pre _ List.mem_cons_self)
  have q := body (p, G.1, e, q_rm h mc ms, s, m, av.toArray, below, meth, c, mc, ms) ⟨B.exec, B.bytes, B.returns, B.notSynchronized, hml, findClass_of_methodNamed B.named, (name_of_methodNamed B.named B.method).1, ht, hg, rfl, hg.1, rfl⟩ rfl rfl
  rw [lg_entry_eq]
  exact q s.heap [] 0 0 _ hsz hR va_S.rf (by rw [hml]; exact lv_entry av hlen) (by omega) (by omega)
section QCALL
variable {G : q_G} {F : q_F} {Y : q_Y} {h : Nat} {Q : q_Q} {kc ks pc pc' tgt : Nat} {ls : List (Nat × Value)} {st : List Value} {sz : Nat} {T : q_T} {I L : q_I} {P : q_P}
/-! ends -/
theorem q_ireturn (hF : q_ok G F Y h) {z : Int} (hret : Y.2.2.2.1 = some .int) (d : q_d Y.2.1 pc pc' .ireturn 1) (hq : Q (.inl (some (qI z))) sz T I L P) : qX G F Q kc ks pc ls [qI z] sz T I L P := by
  obtain ⟨p, l, e, R, s, m, args, below, meth, c, mc, ms⟩ := F
  obtain ⟨hx, hb, hr, hlk, hml, ho, hnm, htb, hg, -⟩ := hF
  obtain ⟨d, rfl⟩ := d
  intro H locs cells slots lsA z1 z2 z3 z4 z5 z6
  refine W.widen (k := mc) (n := ms) (by omega) (by omega) (vx_ret (W.iret hx hb (hr.trans hret) (fun t ht hW => ⟨⟨_, sz, T, I, L, P, rfl, hq, by rw [ht]; exact z1, by rw [ht]; exact z2⟩, z3.F ht⟩) z3.2.2 d hlk))
theorem q_narb {z : Int} (hz : z = 0 ∨ z = 1) : narrow .boolean (qI z) = qI z := by rcases hz with rfl | rfl <;> decide +kernel
theorem q_zreturn (hF : q_ok G F Y h) {z : Int} (hz : z = 0 ∨ z = 1) (hret : Y.2.2.2.1 = some .boolean) (d : q_d Y.2.1 pc pc' .ireturn 1) (hq : Q (.inl (some (qI z))) sz T I L P) : qX G F Q kc ks pc ls [qI z] sz T I L P := by
  obtain ⟨p, l, e, R, s, m, args, below, meth, c, mc, ms⟩ := F
  obtain ⟨hx, hb, hr, hlk, hml, ho, hnm, htb, hg, -⟩ := hF
  obtain ⟨d, rfl⟩ := d
  intro H locs cells slots lsA z1 z2 z3 z4 z5 z6
  refine W.widen (k := mc) (n := ms) (by omega) (by omega) (vx_ret (W.zret hx hb (hr.trans hret) (q_narb hz) (fun t ht hW => ⟨⟨_, sz, T, I, L, P, rfl, hq, by rw [ht]; exact z1, by rw [ht]; exact z2⟩, z3.F ht⟩) z3.2.2 d hlk))
theorem q_lreturn (hF : q_ok G F Y h) {z : Int} (hret : Y.2.2.2.1 = some .long) (d : q_d Y.2.1 pc pc' .lreturn 1) (hq : Q (.inl (some (qL z))) sz T I L P) : qX G F Q kc ks pc ls [qL z] sz T I L P := by
  obtain ⟨p, l, e, R, s, m, args, below, meth, c, mc, ms⟩ := F
  obtain ⟨hx, hb, hr, hlk, hml, ho, hnm, htb, hg, -⟩ := hF
  obtain ⟨d, rfl⟩ := d
  intro H locs cells slots lsA z1 z2 z3 z4 z5 z6
  refine W.widen (k := mc) (n := ms) (by omega) (by omega) (vx_ret (W.lret hx hb (hr.trans hret) (fun t ht hW => ⟨⟨_, sz, T, I, L, P, rfl, hq, by rw [ht]; exact z1, by rw [ht]; exact z2⟩, z3.F ht⟩) z3.2.2 d hlk))
theorem q_return (hF : q_ok G F Y h) (hret : Y.2.2.2.1 = none) (d : q_d Y.2.1 pc pc' .return_ 1) (hq : Q (.inl none) sz T I L P) : qX G F Q kc ks pc ls [] sz T I L P := by
  obtain ⟨p, l, e, R, s, m, args, below, meth, c, mc, ms⟩ := F
  obtain ⟨hx, hb, hr, hlk, hml, ho, hnm, htb, hg, -⟩ := hF
  obtain ⟨d, rfl⟩ := d
  intro H locs cells slots lsA z1 z2 z3 z4 z5 z6
  refine W.widen (k := mc) (n := ms) (by omega) (by omega) (vx_ret (W.vret hx hb (hr.trans hret) (fun t ht hW => ⟨⟨_, sz, T, I, L, P, rfl, hq, by rw [ht]; exact z1, by rw [ht]; exact z2⟩, z3.F ht⟩) z3.2.2 d hlk))
theorem q_areturn (hF : q_ok G F Y h) {r : Option Nat} {cn : String} (hret : Y.2.2.2.1 = some (.object cn)) (d : q_d Y.2.1 pc pc' .areturn 1) (hq : Q (.inl (some (qR r))) sz T I L P) : qX G F Q kc ks pc ls [qR r] sz T I L P := by
  obtain ⟨p, l, e, R, s, m, args, below, meth, c, mc, ms⟩ := F
  obtain ⟨hx, hb, hr, hlk, hml, ho, hnm, htb, hg, -⟩ := hF
  obtain ⟨d, rfl⟩ := d
  intro H locs cells slots lsA z1 z2 z3 z4 z5 z6
  refine W.widen (k := mc) (n := ms) (by omega) (by omega) (vx_ret (W.aret hx hb (hr.trans hret) (Or.inl ⟨cn, rfl⟩) (va_rf_or r) (fun t ht hW => ⟨⟨_, sz, T, I, L, P, rfl, hq, by rw [ht]; exact z1, by rw [ht]; exact z2⟩, z3.F ht⟩) z3.2.2 d hlk))
/-! an exception that no row of the method's table catches -/
theorem q_out (hF : q_ok G F Y h) {E : String} (hh : Y.2.2.2.2 = []) (hq : Q (.inr E) sz T I L P) : qT G F Q kc ks pc ls st E sz T I L P := by
  obtain ⟨p, l, e, R, s, m, args, below, meth, c, mc, ms⟩ := F
  obtain ⟨hx, hb, hr, hlk, hml, ho, hnm, htb, hg, -⟩ := hF
  intro H locs cells slots lsA q9 ce z1 z2 z3 z4 z5 z6 y1 y2 y3
  exact vx_out (fun x hx => by rw [htb, hh] at hx; cases hx) hlk y1 y2 y3 (fun t ht hv => ⟨⟨sz, T, I, L, P, hq, by rw [ht]; exact z1, by rw [ht]; exact z2⟩, z3.F ht⟩) z3.2.2 (by omega) (by omega)
/-! calls -/
theorem q_behind {p : Program} {l : Launch} {e : Env} {R : Room} {s : State} {m : MethodId} {args : Array Value} {below : List Frame} {meth : Method} {c : Code} {mc ms : Nat} {H : Heap} {locs : List Loc} {cells slots : Nat} {lsA : Array Slot} {mc' ms' : Nat} {stk : List Value} {a : Array Value} (hpc : pc + 3 = pc')
    (hr : vx_Run p l e R s m args below meth c H locs cells slots mc' ms' (F0 m pc lsA stk) st (q_Qc G (q_rt G (p, l, e, R, s, m, args, below, meth, c, mc, ms) Q kc ks pc pc' ls st) a) (q_XC G (q_rt G (p, l, e, R, s, m, args, below, meth, c, mc, ms) Q kc ks pc pc' ls st)) (q_A G))
    (z3 : va_S (q_A G) s.heap H locs) (z4 : lv_has lsA c.maxLocals ls) (z5 : cells + (kc + mc') ≤ mc) (z6 : slots + (ks + ms') ≤ ms) :
    W p l e R s m args below meth c H locs cells slots (vx_MQ below (q_Qc G Q) (q_XC G Q) args s mc ms (q_A G)) (F0 m pc lsA stk) := by
  intro T0 hT0 X0
  rcases hr T0 hT0 X0 with ⟨v, st₀, t, T', Lc, h0, X', hL, e1, e2, ⟨⟨v', sz', T1, I1, L1, P1, hv, hQ, hsz, hRep⟩, hFr⟩, stp⟩ | ⟨q9, st₀, t, T', Lc, E, ce, h0, X', hL, e1, e2, ⟨⟨sz', T1, I1, L1, P1, hQ, hsz, hRep⟩, hFr⟩, hce, hcv, hcl, stp⟩
  · cases hv
    obtain ⟨-, -, k3⟩ := vx_keep h0 e1 z3 (fun q _ h => h) (fun q h => h) hL hFr
    subst hpc
    cases v with
    | none =>
      have k := hQ T'.heap (locs ++ Lc) (cells + mc') (slots + ms') lsA (by rw [e1]; exact hsz) (by rw [e1]; exact hRep) k3 z4 (by omega) (by omega)
      obtain ⟨t2, a1, b1⟩ := k T' rfl X'
      exact ⟨t2, stp t2 a1, b1⟩
    | some v =>
      have k := hQ T'.heap (locs ++ Lc) (cells + mc') (slots + ms') lsA (by rw [e1]; exact hsz) (by rw [e1]; exact hRep) k3 z4 (by omega) (by omega)
      obtain ⟨t2, a1, b1⟩ := k T' rfl X'
      exact ⟨t2, stp t2 a1, b1⟩
  · obtain ⟨-, -, k3⟩ := vx_keep h0 e1 z3 (fun q _ h => h) (fun q h => h) hL hFr
    have k := hQ T'.heap (locs ++ Lc) (cells + mc') (slots + ms') lsA q9 ce (by rw [e1]; exact hsz) (by rw [e1]; exact hRep) k3 z4 (by omega) (by omega) (by rw [e1]; exact hce) hcv hcl
    obtain ⟨t2, a1, b1⟩ := k T' rfl X'
    exact ⟨t2, stp.trans a1, b1⟩
theorem q_Gs.next {G : q_G} {s U : State} {H : Heap} {locs : List Loc} (hg : q_Gs G s) (z3 : va_S (q_A G) s.heap H locs) (hU : U.heap = H) (hW : s.WarmedH U.vm) : q_Gs G U := hg.go hW (fun a h1 h2 => by rw [hU]; exact z3.2.1 a h1 h2)
/-- the words of a call: 0 an instance method, 1 a static one -/
def q_ML (own : String) (idx n : Nat) (Y' : q_Y) : Prop := Cond.methodLink own idx Y'.1 ∈ q_all ∧ Cond.initialized Y'.1.cls ∈ q_all ∧ q_code Y' ∈ q_all ∧ (Y'.1.cls ≠ "java/lang/invoke/MethodHandle" ∧ Y'.1.cls ≠ "java/lang/invoke/VarHandle") ∧ (parseMethodDescriptor Y'.1.desc).map (fun d => d.parameters.length) = some n ∧ Y'.2.2.1 ≤ 40
def q_VL (own : String) (idx n ci : Nat) (Y' : q_Y) : Prop := q_ML own idx n Y' ∧ Cond.instanceMethod Y'.1 ∈ q_all ∧ Cond.selects Y'.1.cls Y'.1 Y'.1 ∈ q_all ∧ ∃ r : vw_C, q_cl[ci]? = some r ∧ r.1 = Y'.1.cls
def q_SL (own : String) (idx n : Nat) (Y' : q_Y) : Prop := q_ML own idx n Y' ∧ Cond.static Y'.1 ∈ q_all
theorem q_len {Y' : q_Y} {n : Nat} (h : (parseMethodDescriptor Y'.1.desc).map (fun d => d.parameters.length) = some n) : ∀ sig, parseMethodDescriptor Y'.1.desc = some sig → n = sig.parameters.length := fun sig hs => by
  rw [hs] at h
  exact (Option.some.inj h).symm
theorem q_pay {G : q_G} {s : State} (hg : q_Gs G s) {Y' : q_Y} (hc : q_code Y' ∈ q_all) : ∀ w ∈ q_ws Y', ∀ (a' : Array Value) (U : State), s.WarmedH U.vm → w.before a' U = true := fun w hw a' U hW => by
  rcases List.mem_cons.mp hw with rfl | hw
  · exact q_word hW (q_all_good hc) (hg.2.2.1 _ hc)
  · exact q_word hW (q_all_good hw) (hg.2.2.1 _ hw)
theorem q_callV (hF : q_ok G F Y h) {idx n ci b h' mc' ms' : Nat} {Y' : q_Y} {stk : List Value} (vl : q_VL Y.1.cls idx n ci Y') (hh : Y'.2.2.2.2 = []) (As : List Value) (hs : stk = As.reverse ++ .ref b :: st) (hn : As.length = n) (hT : T b = some (.inl ci)) (hh' : h' + 1 ≤ h) (hst : (st.map fun v => v.category).sum ≤ 8) (d : q_d Y.2.1 pc pc' (.invokevirtual idx) 3)
    (hC : qC G h' mc' ms' Y' (.ref b :: As) sz T I L P (q_rt G F Q kc ks pc pc' ls st)) : qX G F Q (kc + mc') (ks + ms') pc ls stk sz T I L P := by
  obtain ⟨p, l, e, R, s, m, args, below, meth, c, mc, ms⟩ := F
  obtain ⟨hx, hb, hr, hlk, hml, ho, hnm, htb, hg, rfl, hst2, rfl⟩ := hF
  obtain ⟨d, hpc⟩ := d
  intro H locs cells slots lsA z1 z2 z3 z4 z5 z6
  obtain ⟨⟨w1, w2, w3, w4, w5, w6⟩, w7, w8, r, w9, w10⟩ := vl
  have hcode : q_code Y' = Cond.code Y'.1 Y'.2.1 Y'.2.2.1 Y'.2.2.2.1 := by unfold q_code; rw [hh]
  refine q_behind hpc (vx_runV (Ts := q_all) (own := Y.1.cls) (C := Y'.1.cls) (n := n) (bytes := Y'.2.1) (maxL := Y'.2.2.1) (ret := Y'.2.2.2.1) (As := As) (b := b) ⟨hx, hb, hml, ho, hg.ts args⟩ hC ⟨⟨rfl, rfl, by show h' + 12 + 1 ≤ h + 12; omega, by show 8 + (_ + 11) + (260 + 60 * h') ≤ 260 + 60 * h; omega, q_pay hg w3, by rw [← hcode]; exact List.mem_cons_self, by rw [← hcode]; exact hg.at w3 args, hg.at w2 args, w4, q_len w5, hg.at w1 args⟩, hg.at w7 args, hg.at w8 args⟩ ⟨q_blind, ?_, fun U hU hW => ⟨rfl, hg.next z3 hU hW, by rw [hU]; exact z1, by rw [hU]; exact z2⟩⟩ rfl hn (z4.1.trans hml) hs (lv_room hst) d ⟨by show cells + mc' ≤ mc; omega, by show slots + ms' ≤ ms; omega⟩) z3 z4 z5 z6
  obtain ⟨r', h1, cell, q1, q2, q3, -⟩ := z2 b _ hT
  cases w9.symm.trans h1
  exact ⟨cell, q1, by rw [q3]; rfl, by rw [q2, ← w10]; exact (hg.2.1.1 ci _ w9).2.1⟩
theorem q_callS (hF : q_ok G F Y h) {idx n h' mc' ms' : Nat} {Y' : q_Y} {stk : List Value} (vl : q_SL Y.1.cls idx n Y') (hh : Y'.2.2.2.2 = []) (As : List Value) (hs : stk = As.reverse ++ st) (hn : As.length = n) (hh' : h' + 1 ≤ h) (hst : (st.map fun v => v.category).sum ≤ 8) (d : q_d Y.2.1 pc pc' (.invokestatic idx) 3)
    (hC : qC G h' mc' ms' Y' As sz T I L P (q_rt G F Q kc ks pc pc' ls st)) : qX G F Q (kc + mc') (ks + ms') pc ls stk sz T I L P := by
  obtain ⟨p, l, e, R, s, m, args, below, meth, c, mc, ms⟩ := F
  obtain ⟨hx, hb, hr, hlk, hml, ho, hnm, htb, hg, rfl, hst2, rfl⟩ := hF
  obtain ⟨d, hpc⟩ := d
  intro H locs cells slots lsA z1 z2 z3 z4 z5 z6
  obtain ⟨⟨w1, w2, w3, w4, w5, w6⟩, w7⟩ := vl
  have hcode : q_code Y' = Cond.code Y'.1 Y'.2.1 Y'.2.2.1 Y'.2.2.2.1 := by unfold q_code; rw [hh]
  exact q_behind hpc (vx_runS (Ts := q_all) (own := Y.1.cls) (n := n) (bytes := Y'.2.1) (maxL := Y'.2.2.1) (ret := Y'.2.2.2.1) (As := As) ⟨hx, hb, hml, ho, hg.ts args⟩ hC ⟨⟨rfl, rfl, by show h' + 12 + 1 ≤ h + 12; omega, by show 8 + (_ + 11) + (260 + 60 * h') ≤ 260 + 60 * h; omega, q_pay hg w3, by rw [← hcode]; exact List.mem_cons_self, by rw [← hcode]; exact hg.at w3 args, hg.at w2 args, w4, q_len w5, hg.at w1 args⟩, hg.at w7 args⟩ ⟨q_blind, fun U hU hW => ⟨rfl, hg.next z3 hU hW, by rw [hU]; exact z1, by rw [hU]; exact z2⟩⟩ rfl hn (z4.1.trans hml) hs (lv_room hst) d ⟨by show cells + mc' ≤ mc; omega, by show slots + ms' ≤ ms; omega⟩) z3 z4 z5 z6
theorem q_callSH (hF : q_ok G F Y h) {idx n h' mc' ms' : Nat} {Y' : q_Y} {stk : List Value} (vl : q_SL Y.1.cls idx n Y') {h1 : Nat × Nat × Nat × Nat} {hrr : List (Nat × Nat × Nat × Nat)} (hh : Y'.2.2.2.2 = h1 :: hrr) (As : List Value) (hs : stk = As.reverse ++ st) (hn : As.length = n) (hh' : h' + 1 ≤ h) (hst : (st.map fun v => v.category).sum ≤ 8) (d : q_d Y.2.1 pc pc' (.invokestatic idx) 3)
    (hC : qC G h' mc' ms' Y' As sz T I L P (q_rt G F Q kc ks pc pc' ls st)) : qX G F Q (kc + mc') (ks + ms') pc ls stk sz T I L P := by
  obtain ⟨p, l, e, R, s, m, args, below, meth, c, mc, ms⟩ := F
  obtain ⟨hx, hb, hr, hlk, hml, ho, hnm, htb, hg, rfl, hst2, rfl⟩ := hF
  obtain ⟨d, hpc⟩ := d
  intro H locs cells slots lsA z1 z2 z3 z4 z5 z6
  obtain ⟨⟨w1, w2, w3, w4, w5, w6⟩, w7⟩ := vl
  have hcode : q_code Y' = Cond.codeWith Y'.1 Y'.2.1 Y'.2.2.1 Y'.2.2.2.1 Y'.2.2.2.2 := by unfold q_code; rw [hh]
  exact q_behind hpc (vx_runSX (Ts := q_all) (own := Y.1.cls) (n := n) (bytes := Y'.2.1) (maxL := Y'.2.2.1) (ret := Y'.2.2.2.1) (hh := Y'.2.2.2.2) (As := As) ⟨hx, hb, hml, ho, hg.ts args⟩ hC ⟨⟨rfl, rfl, by show h' + 12 + 1 ≤ h + 12; omega, by show 8 + (_ + 11) + (260 + 60 * h') ≤ 260 + 60 * h; omega, q_pay hg w3, by rw [← hcode]; exact List.mem_cons_self⟩, by rw [← hcode]; exact hg.at w3 args, hg.at w2 args, w4, q_len w5, hg.at w1 args, hg.at w7 args⟩ ⟨q_blind, fun U hU hW => ⟨rfl, hg.next z3 hU hW, by rw [hU]; exact z1, by rw [hU]; exact z2⟩⟩ rfl hn (z4.1.trans hml) hs (lv_room hst) d ⟨by show cells + mc' ≤ mc; omega, by show slots + ms' ≤ ms; omega⟩) z3 z4 z5 z6
end QCALL
end
section
/-! cells made, exceptions thrown and caught, the JDK's own functions -/
def q_upT (T : q_T) (a : Nat) (k : q_K) : q_T := fun q => if q = a then some k else T q
theorem q_upT_s (T : q_T) (a : Nat) (k : q_K) : q_upT T a k a = some k := if_pos rfl
theorem q_upT_n (T : q_T) {a q : Nat} (k : q_K) (h : q ≠ a) : q_upT T a k q = T q := if_neg h
/-- the words of a constructor's call -/
def q_CL (own : String) (idx n ci : Nat) (Y' : q_Y) (nest : Bool) : Prop := (if nest = true then Cond.methodLinkNest own idx Y'.1 "IdleMoney" ∈ q_nst else Cond.methodLink own idx Y'.1 ∈ q_all) ∧ Cond.initialized Y'.1.cls ∈ q_all ∧ q_code Y' ∈ q_all ∧ (Y'.1.cls ≠ "java/lang/invoke/MethodHandle" ∧ Y'.1.cls ≠ "java/lang/invoke/VarHandle") ∧ (parseMethodDescriptor Y'.1.desc).map (fun d => d.parameters.length) = some n ∧ Y'.2.2.1 ≤ 40 ∧ Y'.1.name = "<init>" ∧ Cond.instanceMethod Y'.1 ∈ q_all ∧ Y'.2.2.2.1 = none
section QMAKE
variable {G : q_G} {F : q_F} {Y : q_Y} {h : Nat} {Q : q_Q} {kc ks pc pc' tgt : Nat} {ls : List (Nat × Value)} {st : List Value} {sz : Nat} {T : q_T} {I L : q_I} {P : q_P}
/-- a constructor's call -/
theorem q_runC {p : Program} {e : Env} {s : State} {m : MethodId} {args : Array Value} {below : List Frame} {meth : Method} {c : Code} {mc ms : Nat} {H : Heap} {locs : List Loc} {cells slots : Nat} {lsA : Array Slot} {idx n ci b h' mc' ms' : Nat} {Y' : q_Y} {nest : Bool} {As : List Value}
    (hx : p.tables.exec = Jvm.exec) (hb : c.code = Y.2.1) (hml : c.maxLocals = Y.2.2.1) (ho : s.vm.findClass Y.1.cls = some m.cls) (hg : q_Gs G s) (vl : q_CL Y.1.cls idx n ci Y' nest) (hh : Y'.2.2.2.2 = []) (hn : As.length = n) (hh' : h' + 1 ≤ h) (hst : (st.map fun v => v.category).sum ≤ 8) (d : decode Y.2.1 pc = .ok (.invokespecial idx, 3))
    (hC : qC G h' mc' ms' Y' (.ref b :: As) sz T I L P Q) (z1 : H.size = sz) (z2 : q_Rep G T I L P H) (z3 : va_S (q_A G) s.heap H locs) (z4 : lv_has lsA c.maxLocals ls) (z5 : cells + mc' ≤ mc) (z6 : slots + ms' ≤ ms) :
    vx_Run p G.1 e (q_rm h mc ms) s m args below meth c H locs cells slots mc' ms' (F0 m pc lsA (As.reverse ++ .ref b :: st)) st (q_Qc G Q (Value.ref b :: As).toArray) (q_XC G Q) (q_A G) := by
  obtain ⟨w1, w2, w3, w4, w5, w6, w7, w8, w9⟩ := vl
  have hcode : q_code Y' = Cond.code Y'.1 Y'.2.1 Y'.2.2.1 none := by unfold q_code; rw [hh, w9]
  have hK : vx_Back G.1 (q_rm h mc ms) p e below s args Y'.1 3 8 (PreOf (q_rm h mc ms) mc' ms' (va_Pc (.ref b :: As) (fun U => q_Gs G U ∧ U.heap.size = sz ∧ q_Rep G T I L P U.heap))) (PostOf (q_Qc G Q) mc' ms' (q_A G)) (vx_Post (q_XC G Q) mc' ms' (q_A G)) :=
    vx_back (bytes := Y'.2.1) (maxL := Y'.2.2.1) (ret := none) hC q_blind rfl rfl (by show h' + 12 + 1 ≤ h + 12; omega) (by show 8 + (_ + 11) + (260 + 60 * h') ≤ 260 + 60 * h; omega) (q_pay hg w3) (by rw [← hcode]; exact List.mem_cons_self) (fun a' U hW => q_word hW (q_all_good w2) (hg.2.2.1 _ w2))
  intro T0 hT0 X
  have hpl : e.platform.magicAccessors = ({} : Platform).magicAccessors := by rw [X.admits.platform]
  have key : ∃ (mk : MethodId) (vm₁ : Vm), s.WarmedH vm₁ ∧ s.methodNamed? Y'.1 = some mk ∧ ∀ target, (∀ acts : List Action, Steps p.tables e below (doInvoke e ((T0.setVm vm₁).setTop { F0 m pc lsA (As.reverse ++ .ref b :: st) with stack := st }) acts mk (Value.ref b :: As).toArray).1 target) → Steps p.tables e below (T0.setTop (F0 m pc lsA (As.reverse ++ .ref b :: st))) target := by
    cases nest with
    | true =>
      obtain ⟨mk, methM, cM, kP, vm₁, hnamed, hmethM, hcodeM, -, hlocalsM, -, hkP, -, hW₁, hstep₁⟩ := Steps.initColdArgsNest (e := e) X.here hx X.warmed hpl ho w7 w4 (va_Nw.use rfl (hg.2.2.2.1 _ w1)) (hg.at w8 args) (by rw [← hcode]; exact hg.at w3 args) (f := F0 m pc lsA (As.reverse ++ .ref b :: st)) (a := b) (argsL := As) (rest := st) rfl (fun sig hs => hn.trans (q_len w5 sig hs)) rfl (by rw [hb]; exact d)
      exact ⟨mk, vm₁, hW₁, hnamed, hstep₁⟩
    | false =>
      obtain ⟨mk, methM, cM, kP, vm₁, hnamed, hmethM, hcodeM, -, hlocalsM, -, hkP, -, hW₁, hstep₁⟩ := Steps.initColdArgs (e := e) X.here hx X.warmed hpl ho w7 w4 (hg.at w1 args) (hg.at w8 args) (by rw [← hcode]; exact hg.at w3 args) (f := F0 m pc lsA (As.reverse ++ .ref b :: st)) (a := b) (argsL := As) (rest := st) rfl (fun sig hs => hn.trans (q_len w5 sig hs)) rfl (by rw [hb]; exact d)
      exact ⟨mk, vm₁, hW₁, hnamed, hstep₁⟩
  obtain ⟨mk, vm₁, hW₁, hnamed, hstep₁⟩ := key
  have X₁ := X.noted hW₁
  rcases hK m meth c ⟨T0.setVm vm₁, locs, cells, slots⟩ { F0 m pc lsA (As.reverse ++ .ref b :: st) with stack := st } (.invokespecial idx) mk (Value.ref b :: As).toArray X₁ rfl z4.1 (by rw [hb]; exact d) (lv_room hst) (X₁.named hnamed)
    ⟨by show cells + mc' ≤ mc; omega, by show slots + ms' ≤ ms; omega, rfl, hg.next z3 hT0 hW₁, by rw [show (T0.setVm vm₁).heap = H from hT0]; exact z1, by rw [show (T0.setVm vm₁).heap = H from hT0]; exact z2⟩ with ⟨v, ⟨U', l2, c2, s2⟩, X', ⟨g', mk', t, L9, e1, e2, hq, h1, hL, h2, h3⟩, st9⟩ | ⟨q, ⟨U', l2, c2, s2⟩, X', ⟨g', mk', t, L9, E, ce, e1, e2, hq, hce, hcv, hcl, h1, hL, h2, h3⟩, st9⟩
  · dsimp only [Pt.U, Pt.locs, Pt.cells, Pt.slots] at X' e1 e2 h1 h2 h3 st9
    subst h1; subst h2; subst h3
    exact Or.inl ⟨v, (T0.setVm vm₁).calling g' mk' (Value.ref b :: As).toArray, t, U', L9, hT0, X', hL, e1, e2, hq, fun target h9 => hstep₁ _ fun acts => by rw [doInvoke_state]; exact st9.trans h9⟩
  · dsimp only [Pt.U, Pt.locs, Pt.cells, Pt.slots] at X' e1 e2 h1 h2 h3 st9 hcl
    subst h1; subst h2; subst h3
    exact Or.inr ⟨q, (T0.setVm vm₁).calling g' mk' (Value.ref b :: As).toArray, t, U', L9, E, ce, hT0, X', hL, e1, e2, hq, hce, hcv, vx_cls hW₁ hcl, hstep₁ _ fun acts => by rw [doInvoke_state]; exact st9⟩
theorem q_callC (hF : q_ok G F Y h) {idx n ci b h' mc' ms' : Nat} {Y' : q_Y} {nest : Bool} {stk : List Value} (vl : q_CL Y.1.cls idx n ci Y' nest) (hh : Y'.2.2.2.2 = []) (As : List Value) (hs : stk = As.reverse ++ .ref b :: st) (hn : As.length = n) (hh' : h' + 1 ≤ h) (hst : (st.map fun v => v.category).sum ≤ 8) (d : q_d Y.2.1 pc pc' (.invokespecial idx) 3)
    (hC : qC G h' mc' ms' Y' (.ref b :: As) sz T I L P (q_rt G F Q kc ks pc pc' ls st)) : qX G F Q (kc + mc') (ks + ms') pc ls stk sz T I L P := by
  obtain ⟨p, l, e, R, s, m, args, below, meth, c, mc, ms⟩ := F
  obtain ⟨hx, hb, hr, hlk, hml, ho, hnm, htb, hg, rfl, hst2, rfl⟩ := hF
  obtain ⟨d, hpc⟩ := d
  subst hs
  intro H locs cells slots lsA z1 z2 z3 z4 z5 z6
  exact q_behind hpc (q_runC hx hb hml ho hg vl hh hn hh' hst d hC z1 z2 z3 z4 (by omega) (by omega)) z3 z4 z5 z6
theorem q_objInit (hF : q_ok G F Y h) {idx a : Nat} (w1 : Cond.methodLink Y.1.cls idx Lib.objectInit ∈ q_all) (w2 : Cond.instanceMethod Lib.objectInit ∈ q_all) (w3 : Cond.code Lib.objectInit ⟨#[0xb1]⟩ 1 none ∈ q_all) (hst : (st.map fun v => v.category).sum ≤ 8) (d : q_d Y.2.1 pc pc' (.invokespecial idx) 3)
    (k : qX G F Q kc ks pc' ls st sz T I L P) : qX G F Q kc ks pc ls (.ref a :: st) sz T I L P := by
  obtain ⟨p, l, e, R, s, m, args, below, meth, c, mc, ms⟩ := F
  obtain ⟨hx, hb, hr, hlk, hml, ho, hnm, htb, hg, rfl, -⟩ := hF
  obtain ⟨d, rfl⟩ := d
  intro H locs cells slots lsA z1 z2 z3 z4 z5 z6
  exact W.objInit hx hb ho (hg.at w1 args) (hg.at w2 args) (hg.at w3 args) rfl z4.1 rfl d (by show 1 ≤ h + 12; omega) (by show 2 * 0 + _ + 12 ≤ 260 + 60 * h; omega) (k H locs cells slots lsA z1 z2 z3 z4 z5 z6)
/-- a new cell: what the memory functions hold at its address counts from now on -/
theorem q_Rep.push {G : q_G} {T : q_T} {I L : q_I} {P : q_P} {H H' : Heap} {sz : Nat} {kk : q_K} (z2 : q_Rep G T I L P H) (z1 : H.size = sz) (oq : ∀ q : Nat, q < sz → H'[q]? = H[q]?) (hk : q_at G I L P sz kk H') : q_Rep G (q_upT T sz kk) I L P H' := by
  intro q k9 hk9
  by_cases e : q = sz
  · subst e
    rw [q_upT_s] at hk9
    cases hk9
    exact hk
  · rw [q_upT_n _ _ e] at hk9
    have h0 := z2 q k9 hk9
    exact h0.kept (oq q (by rw [← z1]; exact h0.lt)) (fun _ => rfl) (fun _ => rfl) (fun _ => rfl)
theorem q_Sgrow {A : Nat → Prop} {H0 H H1 : Heap} {locs : List Loc} {sz : Nat} (h : va_S A H0 H locs) (z1 : H.size = sz) (z : sz ≤ H1.size) (o : ∀ q : Nat, q < sz → H1[q]? = H[q]?) : va_S A H0 H1 locs := by
  subst z1
  exact ⟨Nat.le_trans h.1 z, fun q h1 h2 => (o q (Nat.lt_of_lt_of_le h1 h.1)).trans (h.2.1 q h1 h2), h.2.2⟩
def q_NL (own : String) (idx ci : Nat) (N : Nat) : Prop := ∃ r : vw_C, q_cl[ci]? = some r ∧ r.2.2 = N ∧ Cond.classLink own idx r.1 ∈ q_all ∧ Cond.instantiable r.1 N ∈ q_all ∧ Cond.initialized r.1 ∈ q_all
theorem q_dflt (ty : FieldType) (I L : q_I) (P : q_P) (q k : Nat) (hI : I q k = 0) (hL : L q k = 0) (hP : P q k = none) (hty : ty = .int ∨ ty = .boolean ∨ ty = .long ∨ refKind ty = true) : q_fv ty I L P q k = defaultValue ty := by
  unfold q_fv
  rcases hty with rfl | rfl | rfl | hty
  · rw [hI]; rfl
  · rw [hI]; rfl
  · rw [hL]; rfl
  · cases ty <;> first | (cases hty; done) | (rw [hP]; rfl)
theorem q_ft_kind : ∀ (ci : Nat) (r : vw_C), q_cl[ci]? = some r → ∀ k, k < r.2.2 → (q_ft ci k = .int ∨ q_ft ci k = .boolean ∨ q_ft ci k = .long ∨ refKind (q_ft ci k) = true) := by
  intro ci r h
  match ci, h with
  | 0, h => cases h; decide +kernel
  | 1, h => cases h; decide +kernel
  | 2, h => cases h; decide +kernel
  | 3, h => cases h; decide +kernel
  | 4, h => cases h; decide +kernel
  | 5, h => cases h; decide +kernel
  | 6, h => cases h; decide +kernel
  | 7, h => cases h; decide +kernel
  | n + 8, h => simp at h
theorem q_new (hF : q_ok G F Y h) {idx ci N : Nat} (nl : q_NL Y.1.cls idx ci N) (hI : ∀ k, I sz k = 0) (hL : ∀ k, L sz k = 0) (hP : ∀ k, P sz k = none) (d : q_d Y.2.1 pc pc' (.new idx) 3)
    (k : qX G F Q kc ks pc' ls (.ref sz :: st) (sz + 1) (q_upT T sz (.inl ci)) I L P) : qX G F Q (kc + 1) (ks + N) pc ls st sz T I L P := by
  obtain ⟨p, l, e, R, s, m, args, below, meth, c, mc, ms⟩ := F
  obtain ⟨hx, hb, hr, hlk, hml, ho, hnm, htb, hg, rfl, -⟩ := hF
  obtain ⟨d, rfl⟩ := d
  obtain ⟨r, f1, rfl, f3, f4, f5⟩ := nl
  intro H locs cells slots lsA z1 z2 z3 z4 z5 z6
  have hKn := hg.2.1.1 ci _ f1
  refine W.newcK hx hb ho (hg.at f3 args) (hg.at f4 args) (hg.at f5 args) rfl d (by show cells + 1 ≤ mc; omega) (by show slots + _ ≤ ms; omega) hKn.2.1 z1 fun H1 kC hkC e1 y1 o1 => ?_
  refine k H1 locs (cells + 1) (slots + r.2.2) lsA y1 (z2.push z1 o1 ⟨r, f1, ?_⟩) (q_Sgrow z3 z1 (by omega) o1) z4 (by omega) (by omega)
  exact (u_born (q_ft ci) (hg.ts args) (q_lay_in f1) hKn hkC e1 (q_ft_ok ci r f1)).to (fun j hj => (q_dflt _ I L P sz j (hI j) (hL j) (hP j) (q_ft_kind ci r f1 j hj)).symm)
theorem q_arrA {cA cB : ClassId} {s : State} {ty : FieldType} (h1 : s.vm.findClass ("[" ++ ty.toString) = some cA) (h2 : s.vm.findClass ("[" ++ ty.toString) = some cB) : cA = cB := Option.some.inj (h1.symm.trans h2)
theorem q_newarr (hF : q_ok G F Y h) {t : Nat} {atype : ArrayType} {n : Int} (ht : t = 0 ∧ atype = .int ∨ t = 1 ∧ atype = .long) (hw : Cond.arrayClass (newarray.typeOf atype) ∈ q_all) (hn : 0 ≤ n ∧ n < 1000000) (hI : ∀ k, I sz k = 0) (hL : ∀ k, L sz k = 0) (d : q_d Y.2.1 pc pc' (.newarray atype) 2)
    (k : qX G F Q kc ks pc' ls (.ref sz :: st) (sz + 1) (q_upT T sz (.inr (t, n.toNat))) I L P) : qX G F Q (kc + 1) (ks + n.toNat) pc ls (qI n :: st) sz T I L P := by
  obtain ⟨p, l, e, R, s, m, args, below, meth, c, mc, ms⟩ := F
  obtain ⟨hx, hb, hr, hlk, hml, ho, hnm, htb, hg, rfl, -⟩ := hF
  obtain ⟨d, rfl⟩ := d
  intro H locs cells slots lsA z1 z2 z3 z4 z5 z6
  have hcl : (Int32.ofInt n).toNatClampNeg = n.toNat := qi_cl (by omega)
  have hcb : componentBytes (newarray.typeOf atype) ≤ 8 := by rcases ht with ⟨-, rfl⟩ | ⟨-, rfl⟩ <;> decide
  have hbt : n.toNat * componentBytes (newarray.typeOf atype) ≤ 536870912 := Nat.le_trans (Nat.mul_le_mul_left _ hcb) (by omega)
  refine va_newaK hx hb (hg.at hw args) rfl d rfl (by rw [qi_lt0 (by omega)]; omega) hcl hbt (by show cells + 1 ≤ mc; omega) (by show slots + n.toNat ≤ ms; omega) z1 fun H1 cA e1 y1 o1 hAr hNm => ?_
  have hcA : cA = G.2.2.1 t ∧ t < 8 ∧ ∀ j, q_fv (q_ty t) I L P sz j = defaultValue (newarray.typeOf atype) := by
    rcases ht with ⟨rfl, rfl⟩ | ⟨rfl, rfl⟩
    · exact ⟨q_arrA hNm (hg.2.1.2 0 _ rfl).2, by decide, fun j => by show qI (I sz j) = _; rw [hI j]; rfl⟩
    · exact ⟨q_arrA hNm (hg.2.1.2 1 _ rfl).2, by decide, fun j => by show qL (L sz j) = _; rw [hL j]; rfl⟩
  obtain ⟨rfl, h8, hv⟩ := hcA
  refine k H1 locs (cells + 1) (slots + n.toNat) lsA y1 (z2.push z1 o1 ⟨h8, e1.trans ?_⟩) (q_Sgrow z3 z1 (by omega) o1) z4 (by omega) (by omega)
  congr 2
  funext j
  exact (hv j).symm
theorem q_anew (hF : q_ok G F Y h) {t idx : Nat} {C : String} {n : Int} (hty : q_ty t = .object C) (h2 : 2 ≤ t) (h8 : t < 8) (w1 : Cond.classLink Y.1.cls idx C ∈ q_all) (w2 : Cond.arrayOver (.object C) ∈ q_nst) (hn : 0 ≤ n ∧ n < 1000000) (hP : ∀ k, P sz k = none) (d : q_d Y.2.1 pc pc' (.anewarray idx) 3)
    (k : qX G F Q kc ks pc' ls (.ref sz :: st) (sz + 1) (q_upT T sz (.inr (t, n.toNat))) I L P) : qX G F Q (kc + 1) (ks + n.toNat) pc ls (qI n :: st) sz T I L P := by
  obtain ⟨p, l, e, R, s, m, args, below, meth, c, mc, ms⟩ := F
  obtain ⟨hx, hb, hr, hlk, hml, ho, hnm, htb, hg, rfl, -⟩ := hF
  obtain ⟨d, rfl⟩ := d
  intro H locs cells slots lsA z1 z2 z3 z4 z5 z6
  have hcl : (Int32.ofInt n).toNatClampNeg = n.toNat := qi_cl (by omega)
  have hao : va_AO C s := hg.2.2.2.1 _ w2
  refine W.anew hx hb ho (hg.at w1 args) (va_AO.use hao) rfl d rfl (by rw [qi_lt0 (by omega)]; omega) (by rw [hcl]; omega) (by show cells + 1 ≤ mc; omega) (by show slots + _ ≤ ms; rw [hcl]; omega) fun cA kA comp f1 f2 f3 f4 => ?_
  rw [hcl]
  generalize hH1 : H.push ({ cls := cA, slots := Array.replicate n.toNat .null, vm := .none } : Cell) = H1
  have y1 : H1.size = sz + 1 := by rw [← hH1, Array.size_push, z1]
  have e1 : H1[sz]? = some (arrV cA n.toNat (fun _ => .null)) := by rw [← hH1, ← z1, Array.getElem?_push_size, ← arrV_new]
  have o1 : ∀ q : Nat, q < sz → H1[q]? = H[q]? := fun q hq => by rw [← hH1, Array.getElem?_push, if_neg (by rw [z1]; exact Nat.ne_of_lt hq)]
  have hcA : cA = G.2.2.1 t := by
    have hk := (hg.2.1.2 t _ (q_tys_at _ h8)).2
    rw [show (G.2.2.1 t, q_ty t).2 = .object C from hty] at hk
    obtain ⟨kA', comp', k1, k2, k3, k4⟩ := hk
    exact Option.some.inj (f1.symm.trans k4)
  rw [z1]
  subst hcA
  refine k H1 locs (cells + 1) (slots + n.toNat) lsA y1 (z2.push z1 o1 ⟨h8, e1.trans ?_⟩) (q_Sgrow z3 z1 (by omega) o1) z4 (by omega) (by omega)
  congr 2
  funext j
  rw [(q_refty h2 h8).2, hP j]
  rfl
/-! references compared -/
theorem q_ifnull (hF : q_ok G F Y h) {r : Option Nat} (d : q_j Y.2.1 pc pc' tgt (fun o => .ifnull o)) (kt : r = none → qX G F Q kc ks tgt ls st sz T I L P) (kf : r ≠ none → qX G F Q kc ks pc' ls st sz T I L P) : qX G F Q kc ks pc ls (qR r :: st) sz T I L P := by
  obtain ⟨p, l, e, R, s, m, args, below, meth, c, mc, ms⟩ := F
  obtain ⟨hx, hb, -⟩ := hF
  obtain ⟨off, d, rfl, ht⟩ := d
  intro H locs cells slots lsA z1 z2 z3 z4 z5 z6
  cases r with
  | none => exact lv_ifnullN hx hb d ht (kt rfl H locs cells slots lsA z1 z2 z3 z4 z5 z6)
  | some a => exact lv_ifnull hx hb d (kf (fun e => by cases e) H locs cells slots lsA z1 z2 z3 z4 z5 z6)
theorem q_ifnonnull (hF : q_ok G F Y h) {r : Option Nat} (d : q_j Y.2.1 pc pc' tgt (fun o => .ifnonnull o)) (kt : r ≠ none → qX G F Q kc ks tgt ls st sz T I L P) (kf : r = none → qX G F Q kc ks pc' ls st sz T I L P) : qX G F Q kc ks pc ls (qR r :: st) sz T I L P := by
  obtain ⟨p, l, e, R, s, m, args, below, meth, c, mc, ms⟩ := F
  obtain ⟨hx, hb, -⟩ := hF
  obtain ⟨off, d, rfl, ht⟩ := d
  intro H locs cells slots lsA z1 z2 z3 z4 z5 z6
  cases r with
  | none => exact lv_ifnonnullN hx hb d (kf rfl H locs cells slots lsA z1 z2 z3 z4 z5 z6)
  | some a => exact lv_ifnonnull hx hb d ht (kt (fun e => by cases e) H locs cells slots lsA z1 z2 z3 z4 z5 z6)
theorem q_acmpeq (hF : q_ok G F Y h) {rx ry : Option Nat} (d : q_j Y.2.1 pc pc' tgt (fun o => .if_acmp .eq o)) (kt : rx = ry → qX G F Q kc ks tgt ls st sz T I L P) (kf : rx ≠ ry → qX G F Q kc ks pc' ls st sz T I L P) : qX G F Q kc ks pc ls (qR ry :: qR rx :: st) sz T I L P := by
  obtain ⟨p, l, e, R, s, m, args, below, meth, c, mc, ms⟩ := F
  obtain ⟨hx, hb, -⟩ := hF
  obtain ⟨off, d, rfl, ht⟩ := d
  intro H locs cells slots lsA z1 z2 z3 z4 z5 z6
  exact lv_acmp_eq hx hb d ht (fun q => kt q H locs cells slots lsA z1 z2 z3 z4 z5 z6) (fun q => kf q H locs cells slots lsA z1 z2 z3 z4 z5 z6)
theorem q_acmpne (hF : q_ok G F Y h) {rx ry : Option Nat} (d : q_j Y.2.1 pc pc' tgt (fun o => .if_acmp .ne o)) (kt : rx ≠ ry → qX G F Q kc ks tgt ls st sz T I L P) (kf : rx = ry → qX G F Q kc ks pc' ls st sz T I L P) : qX G F Q kc ks pc ls (qR ry :: qR rx :: st) sz T I L P := by
  obtain ⟨p, l, e, R, s, m, args, below, meth, c, mc, ms⟩ := F
  obtain ⟨hx, hb, -⟩ := hF
  obtain ⟨off, d, rfl, ht⟩ := d
  intro H locs cells slots lsA z1 z2 z3 z4 z5 z6
  exact lv_acmp_ne hx hb d ht (fun q => kt q H locs cells slots lsA z1 z2 z3 z4 z5 z6) (fun q => kf q H locs cells slots lsA z1 z2 z3 z4 z5 z6)
/-! switch -/
theorem q_tableIn (hF : q_ok G F Y h) {dflt lo hi : Int} {offs : Array Int} {len : Nat} {z off : Int} (hd : decode Y.2.1 pc = .ok (.tableswitch dflt lo hi offs, len)) (hz : -2147483648 ≤ z ∧ z < 2147483648) (h1 : lo ≤ z) (h2 : z ≤ hi) (ho : offs[(z - lo).toNat]? = some off) (ht : (pc : Int) + off = (tgt : Int)) (k : qX G F Q kc ks tgt ls st sz T I L P) : qX G F Q kc ks pc ls (qI z :: st) sz T I L P := by
  obtain ⟨p, l, e, R, s, m, args, below, meth, c, mc, ms⟩ := F
  obtain ⟨hx, hb, -⟩ := hF
  intro H locs cells slots lsA z1 z2 z3 z4 z5 z6
  exact lv_tableIn hx hb hd (by rw [qi_toInt hz]; omega) (by rw [qi_toInt hz]; omega) (by rw [qi_toInt hz]; exact ho) ht (k H locs cells slots lsA z1 z2 z3 z4 z5 z6)
theorem q_tableOut (hF : q_ok G F Y h) {dflt lo hi : Int} {offs : Array Int} {len : Nat} {z : Int} (hd : decode Y.2.1 pc = .ok (.tableswitch dflt lo hi offs, len)) (hz : -2147483648 ≤ z ∧ z < 2147483648) (h1 : z < lo ∨ hi < z) (ht : (pc : Int) + dflt = (tgt : Int)) (k : qX G F Q kc ks tgt ls st sz T I L P) : qX G F Q kc ks pc ls (qI z :: st) sz T I L P := by
  obtain ⟨p, l, e, R, s, m, args, below, meth, c, mc, ms⟩ := F
  obtain ⟨hx, hb, -⟩ := hF
  intro H locs cells slots lsA z1 z2 z3 z4 z5 z6
  exact lv_tableOut hx hb hd (by rw [qi_toInt hz]; exact h1) ht (k H locs cells slots lsA z1 z2 z3 z4 z5 z6)
/-! Math -/
theorem q_mini (hF : q_ok G F Y h) {idx : Nat} {a b : Int} (w1 : Cond.methodLink Y.1.cls idx Lib.Math.min.name ∈ q_all) (w2 : Cond.static Lib.Math.min.name ∈ q_all) (w3 : Cond.initialized "java/lang/Math" ∈ q_all) (w4 : Cond.code Lib.Math.min.name Lib.Math.min.code 2 (some .int) ∈ q_all) (ha : -2147483648 ≤ a ∧ a < 2147483648) (hb2 : -2147483648 ≤ b ∧ b < 2147483648) (hst : (st.map fun v => v.category).sum ≤ 8) (d : q_d Y.2.1 pc pc' (.invokestatic idx) 3)
    (k : qX G F Q kc ks pc' ls (qI (min a b) :: st) sz T I L P) : qX G F Q kc ks pc ls (qI b :: qI a :: st) sz T I L P := by
  obtain ⟨p, l, e, R, s, m, args, below, meth, c, mc, ms⟩ := F
  obtain ⟨hx, hb, hr, hlk, hml, ho, hnm, htb, hg, rfl, -⟩ := hF
  obtain ⟨d, rfl⟩ := d
  intro H locs cells slots lsA z1 z2 z3 z4 z5 z6
  refine va_mmin hx hb z4.1.symm ho (hg.at w1 args) (hg.at w2 args) (hg.at w3 args) (hg.at w4 args) (by show 1 ≤ h + 12; omega) (by show _ + 13 ≤ 260 + 60 * h; omega) (by show cells ≤ mc; omega) (by show slots ≤ ms; omega) d ?_
  have e0 : (if Int32.ofInt b < Int32.ofInt a then Int32.ofInt b else Int32.ofInt a) = Int32.ofInt (min a b) := by
    by_cases q : b < a
    · rw [if_pos ((qi_lt hb2 ha).mpr q), Int.min_def, if_neg (by omega)]
    · rw [if_neg (mt (qi_lt hb2 ha).mp q), Int.min_def, if_pos (by omega)]
  rw [e0]
  exact k H locs cells slots lsA z1 z2 z3 z4 z5 z6
theorem q_maxi (hF : q_ok G F Y h) {idx : Nat} {a b : Int} (w1 : Cond.methodLink Y.1.cls idx Lib.Math.max.name ∈ q_all) (w2 : Cond.static Lib.Math.max.name ∈ q_all) (w3 : Cond.initialized "java/lang/Math" ∈ q_all) (w4 : Cond.code Lib.Math.max.name Lib.Math.max.code 2 (some .int) ∈ q_all) (ha : -2147483648 ≤ a ∧ a < 2147483648) (hb2 : -2147483648 ≤ b ∧ b < 2147483648) (hst : (st.map fun v => v.category).sum ≤ 8) (d : q_d Y.2.1 pc pc' (.invokestatic idx) 3)
    (k : qX G F Q kc ks pc' ls (qI (max a b) :: st) sz T I L P) : qX G F Q kc ks pc ls (qI b :: qI a :: st) sz T I L P := by
  obtain ⟨p, l, e, R, s, m, args, below, meth, c, mc, ms⟩ := F
  obtain ⟨hx, hb, hr, hlk, hml, ho, hnm, htb, hg, rfl, -⟩ := hF
  obtain ⟨d, rfl⟩ := d
  intro H locs cells slots lsA z1 z2 z3 z4 z5 z6
  refine va_mmax hx hb z4.1.symm ho (hg.at w1 args) (hg.at w2 args) (hg.at w3 args) (hg.at w4 args) (by show 1 ≤ h + 12; omega) (by show _ + 13 ≤ 260 + 60 * h; omega) (by show cells ≤ mc; omega) (by show slots ≤ ms; omega) d ?_
  have e0 : (if Int32.ofInt a < Int32.ofInt b then Int32.ofInt b else Int32.ofInt a) = Int32.ofInt (max a b) := by
    by_cases q : a < b
    · rw [if_pos ((qi_lt ha hb2).mpr q), Int.max_def, if_pos (by omega)]
    · rw [if_neg (mt (qi_lt ha hb2).mp q), Int.max_def]
      split
      · congr 1; omega
      · rfl
  rw [e0]
  exact k H locs cells slots lsA z1 z2 z3 z4 z5 z6
theorem q_minl (hF : q_ok G F Y h) {idx : Nat} {a b : Int} (w1 : Cond.methodLink Y.1.cls idx Lib.MathLoose.min_long.x ∈ q_all) (w2 : Cond.static Lib.MathLoose.min_long.x ∈ q_all) (w3 : Cond.initialized "java/lang/Math" ∈ q_all) (w4 : Cond.code Lib.MathLoose.min_long.x Lib.MathLoose.min_long.code 4 (some .long) ∈ q_all) (ha : -9223372036854775808 ≤ a ∧ a < 9223372036854775808) (hb2 : -9223372036854775808 ≤ b ∧ b < 9223372036854775808) (hst : (st.map fun v => v.category).sum ≤ 8) (d : q_d Y.2.1 pc pc' (.invokestatic idx) 3)
    (k : qX G F Q kc ks pc' ls (qL (min a b) :: st) sz T I L P) : qX G F Q kc ks pc ls (qL b :: qL a :: st) sz T I L P := by
  obtain ⟨p, l, e, R, s, m, args, below, meth, c, mc, ms⟩ := F
  obtain ⟨hx, hb, hr, hlk, hml, ho, hnm, htb, hg, rfl, -⟩ := hF
  obtain ⟨d, rfl⟩ := d
  intro H locs cells slots lsA z1 z2 z3 z4 z5 z6
  refine va_mmin_long hx hb z4.1.symm ho (hg.at w1 args) (hg.at w2 args) (hg.at w3 args) (hg.at w4 args) (by show 1 ≤ h + 12; omega) (by show _ + 15 ≤ 260 + 60 * h; omega) (by show cells ≤ mc; omega) (by show slots ≤ ms; omega) d ?_
  have e0 : (if Int64.ofInt b < Int64.ofInt a then Int64.ofInt b else Int64.ofInt a) = Int64.ofInt (min a b) := by
    by_cases q : b < a
    · rw [if_pos ((ql_lt hb2 ha).mpr q), Int.min_def, if_neg (by omega)]
    · rw [if_neg (mt (ql_lt hb2 ha).mp q), Int.min_def, if_pos (by omega)]
  rw [e0]
  exact k H locs cells slots lsA z1 z2 z3 z4 z5 z6
theorem q_maxl (hF : q_ok G F Y h) {idx : Nat} {a b : Int} (w1 : Cond.methodLink Y.1.cls idx Lib.MathLoose.max_long.x ∈ q_all) (w2 : Cond.static Lib.MathLoose.max_long.x ∈ q_all) (w3 : Cond.initialized "java/lang/Math" ∈ q_all) (w4 : Cond.code Lib.MathLoose.max_long.x Lib.MathLoose.max_long.code 4 (some .long) ∈ q_all) (ha : -9223372036854775808 ≤ a ∧ a < 9223372036854775808) (hb2 : -9223372036854775808 ≤ b ∧ b < 9223372036854775808) (hst : (st.map fun v => v.category).sum ≤ 8) (d : q_d Y.2.1 pc pc' (.invokestatic idx) 3)
    (k : qX G F Q kc ks pc' ls (qL (max a b) :: st) sz T I L P) : qX G F Q kc ks pc ls (qL b :: qL a :: st) sz T I L P := by
  obtain ⟨p, l, e, R, s, m, args, below, meth, c, mc, ms⟩ := F
  obtain ⟨hx, hb, hr, hlk, hml, ho, hnm, htb, hg, rfl, -⟩ := hF
  obtain ⟨d, rfl⟩ := d
  intro H locs cells slots lsA z1 z2 z3 z4 z5 z6
  refine va_mmax_long hx hb z4.1.symm ho (hg.at w1 args) (hg.at w2 args) (hg.at w3 args) (hg.at w4 args) (by show 1 ≤ h + 12; omega) (by show _ + 15 ≤ 260 + 60 * h; omega) (by show cells ≤ mc; omega) (by show slots ≤ ms; omega) d ?_
  have e0 : (if Int64.ofInt b < Int64.ofInt a then Int64.ofInt a else Int64.ofInt b) = Int64.ofInt (max a b) := by
    by_cases q : b < a
    · rw [if_pos ((ql_lt hb2 ha).mpr q), Int.max_def, if_neg (by omega)]
    · rw [if_neg (mt (ql_lt hb2 ha).mp q), Int.max_def, if_pos (by omega)]
  rw [e0]
  exact k H locs cells slots lsA z1 z2 z3 z4 z5 z6
theorem q_absl (hF : q_ok G F Y h) {idx : Nat} {a : Int} (w1 : Cond.methodLink Y.1.cls idx Lib.MathLoose.abs_long.x ∈ q_all) (w2 : Cond.static Lib.MathLoose.abs_long.x ∈ q_all) (w3 : Cond.initialized "java/lang/Math" ∈ q_all) (w4 : Cond.code Lib.MathLoose.abs_long.x Lib.MathLoose.abs_long.code 2 (some .long) ∈ q_all) (ha : -9223372036854775808 ≤ a ∧ a < 9223372036854775808) (hst : (st.map fun v => v.category).sum ≤ 8) (d : q_d Y.2.1 pc pc' (.invokestatic idx) 3)
    (k : qX G F Q kc ks pc' ls (qL (if 0 < a then a else -a) :: st) sz T I L P) : qX G F Q kc ks pc ls (qL a :: st) sz T I L P := by
  obtain ⟨p, l, e, R, s, m, args, below, meth, c, mc, ms⟩ := F
  obtain ⟨hx, hb, hr, hlk, hml, ho, hnm, htb, hg, rfl, -⟩ := hF
  obtain ⟨d, rfl⟩ := d
  intro H locs cells slots lsA z1 z2 z3 z4 z5 z6
  refine va_mabs_long hx hb z4.1.symm ho (hg.at w1 args) (hg.at w2 args) (hg.at w3 args) (hg.at w4 args) (by show 1 ≤ h + 12; omega) (by show _ + 13 ≤ 260 + 60 * h; omega) (by show cells ≤ mc; omega) (by show slots ≤ ms; omega) d ?_
  have e0 : (if 0 < Int64.ofInt a then Int64.ofInt a else -Int64.ofInt a) = Int64.ofInt (if 0 < a then a else -a) := by
    have h0 : (0 : Int64) = Int64.ofInt 0 := rfl
    by_cases q : 0 < a
    · rw [if_pos q, if_pos (by rw [h0]; exact (ql_lt (by decide) ha).mpr q)]
    · rw [if_neg q, if_neg (by rw [h0]; exact mt (ql_lt (by decide) ha).mp q), Int64.ofInt_neg]
  rw [e0]
  exact k H locs cells slots lsA z1 z2 z3 z4 z5 z6
end QMAKE
section QMORE
variable {G : q_G} {F : q_F} {Y : q_Y} {h : Nat} {Q : q_Q} {kc ks pc pc' pc1 tgt : Nat} {ls : List (Nat × Value)} {st : List Value} {sz : Nat} {T : q_T} {I L : q_I} {P : q_P}
theorem q_ifeq_b (hF : q_ok G F Y h) {c : Prop} [Decidable c] (d : q_j Y.2.1 pc pc' tgt (fun o => .ifCond .eq o)) (kt : ¬ c → qX G F Q kc ks tgt ls st sz T I L P) (kf : c → qX G F Q kc ks pc' ls st sz T I L P) : qX G F Q kc ks pc ls (qI (q_b c) :: st) sz T I L P :=
  q_ifeq hF (q_b_r c) d (fun e => kt (q_b_0.mp e)) (fun e => kf (Decidable.byContradiction fun n => e (q_b_0.mpr n)))
theorem q_ifne_b (hF : q_ok G F Y h) {c : Prop} [Decidable c] (d : q_j Y.2.1 pc pc' tgt (fun o => .ifCond .ne o)) (kt : c → qX G F Q kc ks tgt ls st sz T I L P) (kf : ¬ c → qX G F Q kc ks pc' ls st sz T I L P) : qX G F Q kc ks pc ls (qI (q_b c) :: st) sz T I L P :=
  q_ifne hF (q_b_r c) d (fun e => kt (Decidable.byContradiction fun n => e (q_b_0.mpr n))) (fun e => kf (q_b_0.mp e))
/-! a read, told by a value; an index, told by a Nat -/
theorem q_getIv (hF : q_ok G F Y h) {idx ci j a : Nat} {fin : Bool} {z : Int} (fl : q_FL Y.1.cls idx ci j .int fin) (hT : T a = some (.inl ci)) (hz : I a j = z) (d : q_d Y.2.1 pc pc' (.getfield idx) 3) (k : qX G F Q kc ks pc' ls (qI z :: st) sz T I L P) : qX G F Q kc ks pc ls (.ref a :: st) sz T I L P := by subst hz; exact q_getI hF fl hT d k
theorem q_getZv (hF : q_ok G F Y h) {idx ci j a : Nat} {fin : Bool} {z : Int} (fl : q_FL Y.1.cls idx ci j .boolean fin) (hT : T a = some (.inl ci)) (hz : I a j = z) (d : q_d Y.2.1 pc pc' (.getfield idx) 3) (k : qX G F Q kc ks pc' ls (qI z :: st) sz T I L P) : qX G F Q kc ks pc ls (.ref a :: st) sz T I L P := by subst hz; exact q_getZ hF fl hT d k
theorem q_getLv (hF : q_ok G F Y h) {idx ci j a : Nat} {fin : Bool} {z : Int} (fl : q_FL Y.1.cls idx ci j .long fin) (hT : T a = some (.inl ci)) (hz : L a j = z) (d : q_d Y.2.1 pc pc' (.getfield idx) 3) (k : qX G F Q kc ks pc' ls (qL z :: st) sz T I L P) : qX G F Q kc ks pc ls (.ref a :: st) sz T I L P := by subst hz; exact q_getL hF fl hT d k
theorem q_nat {i : Int} {j n : Nat} (hj : i = (j : Int)) (hn : j < n) : (0 ≤ i ∧ i < (n : Int)) ∧ i.toNat = j := by omega
theorem q_ialoadv (hF : q_ok G F Y h) {a n : Nat} {i z : Int} (j : Nat) (hT : T a = some (.inr (0, n))) (hj : i = (j : Int)) (hn : j < n) (hb : (n : Int) < 2147483648) (hz : I a j = z) (d : q_d Y.2.1 pc pc' .iaload 1) (k : qX G F Q kc ks pc' ls (qI z :: st) sz T I L P) : qX G F Q kc ks pc ls (qI i :: .ref a :: st) sz T I L P := by
  obtain ⟨h1, h2⟩ := q_nat hj hn
  subst hz
  exact q_iaload hF hT h1 hb d (by rw [h2]; exact k)
theorem q_laloadv (hF : q_ok G F Y h) {a n : Nat} {i z : Int} (j : Nat) (hT : T a = some (.inr (1, n))) (hj : i = (j : Int)) (hn : j < n) (hb : (n : Int) < 2147483648) (hz : L a j = z) (d : q_d Y.2.1 pc pc' .laload 1) (k : qX G F Q kc ks pc' ls (qL z :: st) sz T I L P) : qX G F Q kc ks pc ls (qI i :: .ref a :: st) sz T I L P := by
  obtain ⟨h1, h2⟩ := q_nat hj hn
  subst hz
  exact q_laload hF hT h1 hb d (by rw [h2]; exact k)
theorem q_aaloadv (hF : q_ok G F Y h) {a n t b : Nat} {i : Int} (j : Nat) (hT : T a = some (.inr (t, n))) (h2 : 2 ≤ t) (hj : i = (j : Int)) (hn : j < n) (hb : (n : Int) < 2147483648) (hp : P a j = some b) (d : q_d Y.2.1 pc pc' .aaload 1) (k : qX G F Q kc ks pc' ls (.ref b :: st) sz T I L P) : qX G F Q kc ks pc ls (qI i :: .ref a :: st) sz T I L P := by
  obtain ⟨h1, h3⟩ := q_nat hj hn
  exact q_aaload hF hT h2 h1 hb (by rw [h3]; exact hp) d k
theorem q_aaloadRv (hF : q_ok G F Y h) {a n t : Nat} {i : Int} {r : Option Nat} (j : Nat) (hT : T a = some (.inr (t, n))) (h2 : 2 ≤ t) (hj : i = (j : Int)) (hn : j < n) (hb : (n : Int) < 2147483648) (hp : P a j = r) (d : q_d Y.2.1 pc pc' .aaload 1) (k : qX G F Q kc ks pc' ls (qR r :: st) sz T I L P) : qX G F Q kc ks pc ls (qI i :: .ref a :: st) sz T I L P := by
  obtain ⟨h1, h3⟩ := q_nat hj hn
  subst hp
  exact q_aaloadR hF hT h2 h1 hb d (by rw [h3]; exact k)
theorem q_iastorev (hF : q_ok G F Y h) {a n : Nat} {i z : Int} (j : Nat) (hT : T a = some (.inr (0, n))) (hA : q_A G a) (hj : i = (j : Int)) (hn : j < n) (hb : (n : Int) < 2147483648) (d : q_d Y.2.1 pc pc' .iastore 1) (k : qX G F Q kc ks pc' ls st sz T (u2 I a j z) L P) : qX G F Q kc ks pc ls (qI z :: qI i :: .ref a :: st) sz T I L P := by
  obtain ⟨h1, h3⟩ := q_nat hj hn
  exact q_iastore hF hT hA h1 hb d (by rw [h3]; exact k)
theorem q_lastorev (hF : q_ok G F Y h) {a n : Nat} {i z : Int} (j : Nat) (hT : T a = some (.inr (1, n))) (hA : q_A G a) (hj : i = (j : Int)) (hn : j < n) (hb : (n : Int) < 2147483648) (d : q_d Y.2.1 pc pc' .lastore 1) (k : qX G F Q kc ks pc' ls st sz T I (u2 L a j z) P) : qX G F Q kc ks pc ls (qL z :: qI i :: .ref a :: st) sz T I L P := by
  obtain ⟨h1, h3⟩ := q_nat hj hn
  exact q_lastore hF hT hA h1 hb d (by rw [h3]; exact k)
theorem q_dup2 (hF : q_ok G F Y h) {v w : Value} (hv : v.category = 1) (hw : w.category = 1) (d : q_d Y.2.1 pc pc' .dup2 1) (k : qX G F Q kc ks pc' ls (v :: w :: v :: w :: st) sz T I L P) : qX G F Q kc ks pc ls (v :: w :: st) sz T I L P := by
  obtain ⟨p, l, e, R, s, m, args, below, meth, c, mc, ms⟩ := F
  obtain ⟨hx, hb, -⟩ := hF
  obtain ⟨d, rfl⟩ := d
  intro H locs cells slots lsA z1 z2 z3 z4 z5 z6
  exact lv_dup2_11 hx hb d hv hw (k H locs cells slots lsA z1 z2 z3 z4 z5 z6)
theorem q_Ale {G : q_G} {a b : Nat} (h : q_A G a) (hab : a ≤ b) : q_A G b := Nat.le_trans h hab
/-- the comparison of two longs and the branch on it -/
theorem q_cmplt (hF : q_ok G F Y h) {a b : Int} (ha : -9223372036854775808 ≤ a ∧ a < 9223372036854775808) (hb2 : -9223372036854775808 ≤ b ∧ b < 9223372036854775808) (d1 : q_d Y.2.1 pc pc1 .lcmp 1) (d2 : q_j Y.2.1 pc1 pc' tgt (fun o => .ifCond .lt o)) (kt : a < b → qX G F Q kc ks tgt ls st sz T I L P) (kf : b ≤ a → qX G F Q kc ks pc' ls st sz T I L P) : qX G F Q kc ks pc ls (qL b :: qL a :: st) sz T I L P :=
  q_lcmp hF ha hb2 d1 (q_iflt hF (q_cmp_r a b) d2 (fun e => kt (q_cmp_lt.mp e)) (fun e => kf (q_cmp_ge.mp e)))
theorem q_cmpge (hF : q_ok G F Y h) {a b : Int} (ha : -9223372036854775808 ≤ a ∧ a < 9223372036854775808) (hb2 : -9223372036854775808 ≤ b ∧ b < 9223372036854775808) (d1 : q_d Y.2.1 pc pc1 .lcmp 1) (d2 : q_j Y.2.1 pc1 pc' tgt (fun o => .ifCond .ge o)) (kt : b ≤ a → qX G F Q kc ks tgt ls st sz T I L P) (kf : a < b → qX G F Q kc ks pc' ls st sz T I L P) : qX G F Q kc ks pc ls (qL b :: qL a :: st) sz T I L P :=
  q_lcmp hF ha hb2 d1 (q_ifge hF (q_cmp_r a b) d2 (fun e => kt (q_cmp_ge.mp e)) (fun e => kf (q_cmp_lt.mp e)))
theorem q_cmpgt (hF : q_ok G F Y h) {a b : Int} (ha : -9223372036854775808 ≤ a ∧ a < 9223372036854775808) (hb2 : -9223372036854775808 ≤ b ∧ b < 9223372036854775808) (d1 : q_d Y.2.1 pc pc1 .lcmp 1) (d2 : q_j Y.2.1 pc1 pc' tgt (fun o => .ifCond .gt o)) (kt : b < a → qX G F Q kc ks tgt ls st sz T I L P) (kf : a ≤ b → qX G F Q kc ks pc' ls st sz T I L P) : qX G F Q kc ks pc ls (qL b :: qL a :: st) sz T I L P :=
  q_lcmp hF ha hb2 d1 (q_ifgt hF (q_cmp_r a b) d2 (fun e => kt (q_cmp_gt.mp e)) (fun e => kf (q_cmp_le.mp e)))
theorem q_cmple (hF : q_ok G F Y h) {a b : Int} (ha : -9223372036854775808 ≤ a ∧ a < 9223372036854775808) (hb2 : -9223372036854775808 ≤ b ∧ b < 9223372036854775808) (d1 : q_d Y.2.1 pc pc1 .lcmp 1) (d2 : q_j Y.2.1 pc1 pc' tgt (fun o => .ifCond .le o)) (kt : a ≤ b → qX G F Q kc ks tgt ls st sz T I L P) (kf : b < a → qX G F Q kc ks pc' ls st sz T I L P) : qX G F Q kc ks pc ls (qL b :: qL a :: st) sz T I L P :=
  q_lcmp hF ha hb2 d1 (q_ifle hF (q_cmp_r a b) d2 (fun e => kt (q_cmp_le.mp e)) (fun e => kf (q_cmp_gt.mp e)))
theorem q_cmpeq (hF : q_ok G F Y h) {a b : Int} (ha : -9223372036854775808 ≤ a ∧ a < 9223372036854775808) (hb2 : -9223372036854775808 ≤ b ∧ b < 9223372036854775808) (d1 : q_d Y.2.1 pc pc1 .lcmp 1) (d2 : q_j Y.2.1 pc1 pc' tgt (fun o => .ifCond .eq o)) (kt : a = b → qX G F Q kc ks tgt ls st sz T I L P) (kf : a ≠ b → qX G F Q kc ks pc' ls st sz T I L P) : qX G F Q kc ks pc ls (qL b :: qL a :: st) sz T I L P :=
  q_lcmp hF ha hb2 d1 (q_ifeq hF (q_cmp_r a b) d2 (fun e => kt (q_cmp_eq.mp e)) (fun e => kf (mt q_cmp_eq.mpr e)))
theorem q_cmpne (hF : q_ok G F Y h) {a b : Int} (ha : -9223372036854775808 ≤ a ∧ a < 9223372036854775808) (hb2 : -9223372036854775808 ≤ b ∧ b < 9223372036854775808) (d1 : q_d Y.2.1 pc pc1 .lcmp 1) (d2 : q_j Y.2.1 pc1 pc' tgt (fun o => .ifCond .ne o)) (kt : a ≠ b → qX G F Q kc ks tgt ls st sz T I L P) (kf : a = b → qX G F Q kc ks pc' ls st sz T I L P) : qX G F Q kc ks pc ls (qL b :: qL a :: st) sz T I L P :=
  q_lcmp hF ha hb2 d1 (q_ifne hF (q_cmp_r a b) d2 (fun e => kt (mt q_cmp_eq.mpr e)) (fun e => kf (q_cmp_eq.mp e)))
end QMORE
end
