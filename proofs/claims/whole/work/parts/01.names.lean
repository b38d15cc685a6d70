-- ===== PART A: goes FIRST, ahead of the names: the tables' words, and 'selects' of the private methods out of them =====
/-- a private method of a class that the tables say can be made, by its rows of tables_1 -/
def lw_okq (q : MethodName × Nat) : Prop := (q.1.cls ≠ "java/lang/invoke/MethodHandle" ∧ q.1.cls ≠ "java/lang/invoke/VarHandle") ∧ Cond.instantiable q.1.cls q.2 ∈ tables_1 ∧ Cond.privateMethod q.1 ∈ tables_1 ∧ Cond.instanceMethod q.1 ∈ tables_1
theorem lw_p0 : lw_okq (⟨"HeaviestFirst$Reader", "skipBlanks", "()V"⟩, 7) := ⟨⟨by decide +kernel, by decide +kernel⟩, List.mem_of_getElem? (i := 23) (by decide +kernel), List.mem_of_getElem? (i := 298) (by decide +kernel), List.mem_of_getElem? (i := 299) (by decide +kernel)⟩
theorem lw_p1 : lw_okq (⟨"HeaviestFirst$Reader", "byteAt", "(I)I"⟩, 7) := ⟨⟨by decide +kernel, by decide +kernel⟩, List.mem_of_getElem? (i := 23) (by decide +kernel), List.mem_of_getElem? (i := 302) (by decide +kernel), List.mem_of_getElem? (i := 303) (by decide +kernel)⟩
theorem lw_p2 : lw_okq (⟨"HeaviestFirst$Reader", "readClause", "()V"⟩, 7) := ⟨⟨by decide +kernel, by decide +kernel⟩, List.mem_of_getElem? (i := 23) (by decide +kernel), List.mem_of_getElem? (i := 306) (by decide +kernel), List.mem_of_getElem? (i := 307) (by decide +kernel)⟩
theorem lw_p3 : lw_okq (⟨"HeaviestFirst$Reader", "isBetween", "(CC)Z"⟩, 7) := ⟨⟨by decide +kernel, by decide +kernel⟩, List.mem_of_getElem? (i := 23) (by decide +kernel), List.mem_of_getElem? (i := 310) (by decide +kernel), List.mem_of_getElem? (i := 311) (by decide +kernel)⟩
theorem lw_p4 : lw_okq (⟨"HeaviestFirst$Reader", "isWord", "(ILjava/lang/String;)Z"⟩, 7) := ⟨⟨by decide +kernel, by decide +kernel⟩, List.mem_of_getElem? (i := 23) (by decide +kernel), List.mem_of_getElem? (i := 315) (by decide +kernel), List.mem_of_getElem? (i := 316) (by decide +kernel)⟩
theorem lw_p5 : lw_okq (⟨"HeaviestFirst$Reader", "readPlace", "(I)V"⟩, 7) := ⟨⟨by decide +kernel, by decide +kernel⟩, List.mem_of_getElem? (i := 23) (by decide +kernel), List.mem_of_getElem? (i := 367) (by decide +kernel), List.mem_of_getElem? (i := 368) (by decide +kernel)⟩
theorem lw_p6 : lw_okq (⟨"HeaviestFirst$Reader", "fail", "(II)V"⟩, 7) := ⟨⟨by decide +kernel, by decide +kernel⟩, List.mem_of_getElem? (i := 23) (by decide +kernel), List.mem_of_getElem? (i := 371) (by decide +kernel), List.mem_of_getElem? (i := 372) (by decide +kernel)⟩
theorem lw_p7 : lw_okq (⟨"HeaviestFirst$Reader", "readNumber", "(II)I"⟩, 7) := ⟨⟨by decide +kernel, by decide +kernel⟩, List.mem_of_getElem? (i := 23) (by decide +kernel), List.mem_of_getElem? (i := 375) (by decide +kernel), List.mem_of_getElem? (i := 376) (by decide +kernel)⟩
theorem lw_p8 : lw_okq (⟨"HeaviestFirst$Reader", "readEnd", "()V"⟩, 7) := ⟨⟨by decide +kernel, by decide +kernel⟩, List.mem_of_getElem? (i := 23) (by decide +kernel), List.mem_of_getElem? (i := 379) (by decide +kernel), List.mem_of_getElem? (i := 380) (by decide +kernel)⟩
theorem lw_p9 : lw_okq (⟨"HeaviestFirst$Reader", "readLetter", "(I)V"⟩, 7) := ⟨⟨by decide +kernel, by decide +kernel⟩, List.mem_of_getElem? (i := 23) (by decide +kernel), List.mem_of_getElem? (i := 391) (by decide +kernel), List.mem_of_getElem? (i := 392) (by decide +kernel)⟩
theorem lw_p10 : lw_okq (⟨"HeaviestFirst$Reader", "readStone", "(I)V"⟩, 7) := ⟨⟨by decide +kernel, by decide +kernel⟩, List.mem_of_getElem? (i := 23) (by decide +kernel), List.mem_of_getElem? (i := 400) (by decide +kernel), List.mem_of_getElem? (i := 401) (by decide +kernel)⟩
theorem lw_p11 : lw_okq (⟨"HeaviestFirst$Route", "walk", "(LHeaviestFirst$Town;)V"⟩, 4) := ⟨⟨by decide +kernel, by decide +kernel⟩, List.mem_of_getElem? (i := 137) (by decide +kernel), List.mem_of_getElem? (i := 438) (by decide +kernel), List.mem_of_getElem? (i := 439) (by decide +kernel)⟩
theorem lw_p12 : lw_okq (⟨"HeaviestFirst$Town", "draw", "(I)I"⟩, 12) := ⟨⟨by decide +kernel, by decide +kernel⟩, List.mem_of_getElem? (i := 29) (by decide +kernel), List.mem_of_getElem? (i := 523) (by decide +kernel), List.mem_of_getElem? (i := 524) (by decide +kernel)⟩
theorem lw_p13 : lw_okq (⟨"HeaviestFirst", "nothingCanBeTried", "()Z"⟩, 13) := ⟨⟨by decide +kernel, by decide +kernel⟩, List.mem_of_getElem? (i := 15) (by decide +kernel), List.mem_of_getElem? (i := 535) (by decide +kernel), List.mem_of_getElem? (i := 536) (by decide +kernel)⟩
theorem lw_p14 : lw_okq (⟨"HeaviestFirst$Search", "extend", "(LHeaviestFirst$Town;III)V"⟩, 6) := ⟨⟨by decide +kernel, by decide +kernel⟩, List.mem_of_getElem? (i := 160) (by decide +kernel), List.mem_of_getElem? (i := 543) (by decide +kernel), List.mem_of_getElem? (i := 544) (by decide +kernel)⟩
theorem lw_p15 : lw_okq (⟨"HeaviestFirst$Search", "consider", "(LHeaviestFirst$Town;I)V"⟩, 6) := ⟨⟨by decide +kernel, by decide +kernel⟩, List.mem_of_getElem? (i := 160) (by decide +kernel), List.mem_of_getElem? (i := 547) (by decide +kernel), List.mem_of_getElem? (i := 548) (by decide +kernel)⟩
def lw_privs_1 : List (MethodName × Nat) := [(⟨"HeaviestFirst$Reader", "skipBlanks", "()V"⟩, 7), (⟨"HeaviestFirst$Reader", "byteAt", "(I)I"⟩, 7), (⟨"HeaviestFirst$Reader", "readClause", "()V"⟩, 7), (⟨"HeaviestFirst$Reader", "isBetween", "(CC)Z"⟩, 7), (⟨"HeaviestFirst$Reader", "isWord", "(ILjava/lang/String;)Z"⟩, 7), (⟨"HeaviestFirst$Reader", "readPlace", "(I)V"⟩, 7), (⟨"HeaviestFirst$Reader", "fail", "(II)V"⟩, 7), (⟨"HeaviestFirst$Reader", "readNumber", "(II)I"⟩, 7), (⟨"HeaviestFirst$Reader", "readEnd", "()V"⟩, 7), (⟨"HeaviestFirst$Reader", "readLetter", "(I)V"⟩, 7), (⟨"HeaviestFirst$Reader", "readStone", "(I)V"⟩, 7), (⟨"HeaviestFirst$Route", "walk", "(LHeaviestFirst$Town;)V"⟩, 4), (⟨"HeaviestFirst$Town", "draw", "(I)I"⟩, 12), (⟨"HeaviestFirst", "nothingCanBeTried", "()Z"⟩, 13), (⟨"HeaviestFirst$Search", "extend", "(LHeaviestFirst$Town;III)V"⟩, 6), (⟨"HeaviestFirst$Search", "consider", "(LHeaviestFirst$Town;I)V"⟩, 6)]
theorem lw_r1 : ∀ q ∈ lw_privs_1, lw_okq q := List.forall_mem_cons.mpr ⟨lw_p0, List.forall_mem_cons.mpr ⟨lw_p1, List.forall_mem_cons.mpr ⟨lw_p2, List.forall_mem_cons.mpr ⟨lw_p3, List.forall_mem_cons.mpr ⟨lw_p4, List.forall_mem_cons.mpr ⟨lw_p5, List.forall_mem_cons.mpr ⟨lw_p6, List.forall_mem_cons.mpr ⟨lw_p7, List.forall_mem_cons.mpr ⟨lw_p8, List.forall_mem_cons.mpr ⟨lw_p9, List.forall_mem_cons.mpr ⟨lw_p10, List.forall_mem_cons.mpr ⟨lw_p11, List.forall_mem_cons.mpr ⟨lw_p12, List.forall_mem_cons.mpr ⟨lw_p13, List.forall_mem_cons.mpr ⟨lw_p14, List.forall_mem_cons.mpr ⟨lw_p15, fun _ h => absurd h List.not_mem_nil⟩⟩⟩⟩⟩⟩⟩⟩⟩⟩⟩⟩⟩⟩⟩⟩
theorem lw_p16 : lw_okq (⟨"HeaviestFirst$Search", "fewestStones", "(LHeaviestFirst$Town;)I"⟩, 6) := ⟨⟨by decide +kernel, by decide +kernel⟩, List.mem_of_getElem? (i := 160) (by decide +kernel), List.mem_of_getElem? (i := 551) (by decide +kernel), List.mem_of_getElem? (i := 552) (by decide +kernel)⟩
theorem lw_p17 : lw_okq (⟨"HeaviestFirst$Search", "isBetter", "(II)Z"⟩, 6) := ⟨⟨by decide +kernel, by decide +kernel⟩, List.mem_of_getElem? (i := 160) (by decide +kernel), List.mem_of_getElem? (i := 559) (by decide +kernel), List.mem_of_getElem? (i := 560) (by decide +kernel)⟩
theorem lw_p18 : lw_okq (⟨"HeaviestFirst$Search", "append", "(LHeaviestFirst$Town;IIII)V"⟩, 6) := ⟨⟨by decide +kernel, by decide +kernel⟩, List.mem_of_getElem? (i := 160) (by decide +kernel), List.mem_of_getElem? (i := 565) (by decide +kernel), List.mem_of_getElem? (i := 566) (by decide +kernel)⟩
theorem lw_p19 : lw_okq (⟨"HeaviestFirst$Search", "mayLead", "(LHeaviestFirst$Town;II)Z"⟩, 6) := ⟨⟨by decide +kernel, by decide +kernel⟩, List.mem_of_getElem? (i := 160) (by decide +kernel), List.mem_of_getElem? (i := 570) (by decide +kernel), List.mem_of_getElem? (i := 571) (by decide +kernel)⟩
theorem lw_p20 : lw_okq (⟨"HeaviestFirst$Senders", "packed", "()I"⟩, 4) := ⟨⟨by decide +kernel, by decide +kernel⟩, List.mem_of_getElem? (i := 188) (by decide +kernel), List.mem_of_getElem? (i := 609) (by decide +kernel), List.mem_of_getElem? (i := 610) (by decide +kernel)⟩
theorem lw_p21 : lw_okq (⟨"HeaviestFirst$Senders", "wasSeen", "(I)Z"⟩, 4) := ⟨⟨by decide +kernel, by decide +kernel⟩, List.mem_of_getElem? (i := 188) (by decide +kernel), List.mem_of_getElem? (i := 614) (by decide +kernel), List.mem_of_getElem? (i := 615) (by decide +kernel)⟩
theorem lw_p22 : lw_okq (⟨"HeaviestFirst", "agreeOnWeight", "(I)Z"⟩, 13) := ⟨⟨by decide +kernel, by decide +kernel⟩, List.mem_of_getElem? (i := 15) (by decide +kernel), List.mem_of_getElem? (i := 626) (by decide +kernel), List.mem_of_getElem? (i := 627) (by decide +kernel)⟩
theorem lw_p23 : lw_okq (⟨"HeaviestFirst", "imageOf", "(I)LHeaviestFirst$Image;"⟩, 13) := ⟨⟨by decide +kernel, by decide +kernel⟩, List.mem_of_getElem? (i := 15) (by decide +kernel), List.mem_of_getElem? (i := 675) (by decide +kernel), List.mem_of_getElem? (i := 676) (by decide +kernel)⟩
theorem lw_p24 : lw_okq (⟨"HeaviestFirstModel", "here", "()I"⟩, 43) := ⟨⟨by decide +kernel, by decide +kernel⟩, List.mem_of_getElem? (i := 692) (by decide +kernel), List.mem_of_getElem? (i := 844) (by decide +kernel), List.mem_of_getElem? (i := 845) (by decide +kernel)⟩
theorem lw_p25 : lw_okq (⟨"HeaviestFirstModel", "takeClause", "()I"⟩, 43) := ⟨⟨by decide +kernel, by decide +kernel⟩, List.mem_of_getElem? (i := 692) (by decide +kernel), List.mem_of_getElem? (i := 848) (by decide +kernel), List.mem_of_getElem? (i := 849) (by decide +kernel)⟩
theorem lw_p26 : lw_okq (⟨"HeaviestFirstModel", "readWord", "()V"⟩, 43) := ⟨⟨by decide +kernel, by decide +kernel⟩, List.mem_of_getElem? (i := 692) (by decide +kernel), List.mem_of_getElem? (i := 852) (by decide +kernel), List.mem_of_getElem? (i := 853) (by decide +kernel)⟩
theorem lw_p27 : lw_okq (⟨"HeaviestFirstModel", "fails", "(II)I"⟩, 43) := ⟨⟨by decide +kernel, by decide +kernel⟩, List.mem_of_getElem? (i := 692) (by decide +kernel), List.mem_of_getElem? (i := 866) (by decide +kernel), List.mem_of_getElem? (i := 867) (by decide +kernel)⟩
theorem lw_p28 : lw_okq (⟨"HeaviestFirstModel", "takeNumber", "(II)I"⟩, 43) := ⟨⟨by decide +kernel, by decide +kernel⟩, List.mem_of_getElem? (i := 692) (by decide +kernel), List.mem_of_getElem? (i := 870) (by decide +kernel), List.mem_of_getElem? (i := 871) (by decide +kernel)⟩
theorem lw_p29 : lw_okq (⟨"HeaviestFirstModel", "takePlace", "()I"⟩, 43) := ⟨⟨by decide +kernel, by decide +kernel⟩, List.mem_of_getElem? (i := 692) (by decide +kernel), List.mem_of_getElem? (i := 876) (by decide +kernel), List.mem_of_getElem? (i := 877) (by decide +kernel)⟩
theorem lw_p30 : lw_okq (⟨"HeaviestFirstModel", "into", "([IIII)I"⟩, 43) := ⟨⟨by decide +kernel, by decide +kernel⟩, List.mem_of_getElem? (i := 692) (by decide +kernel), List.mem_of_getElem? (i := 880) (by decide +kernel), List.mem_of_getElem? (i := 881) (by decide +kernel)⟩
theorem lw_p31 : lw_okq (⟨"HeaviestFirstModel", "takeLetter", "()I"⟩, 43) := ⟨⟨by decide +kernel, by decide +kernel⟩, List.mem_of_getElem? (i := 692) (by decide +kernel), List.mem_of_getElem? (i := 884) (by decide +kernel), List.mem_of_getElem? (i := 885) (by decide +kernel)⟩
def lw_privs_2 : List (MethodName × Nat) := [(⟨"HeaviestFirst$Search", "fewestStones", "(LHeaviestFirst$Town;)I"⟩, 6), (⟨"HeaviestFirst$Search", "isBetter", "(II)Z"⟩, 6), (⟨"HeaviestFirst$Search", "append", "(LHeaviestFirst$Town;IIII)V"⟩, 6), (⟨"HeaviestFirst$Search", "mayLead", "(LHeaviestFirst$Town;II)Z"⟩, 6), (⟨"HeaviestFirst$Senders", "packed", "()I"⟩, 4), (⟨"HeaviestFirst$Senders", "wasSeen", "(I)Z"⟩, 4), (⟨"HeaviestFirst", "agreeOnWeight", "(I)Z"⟩, 13), (⟨"HeaviestFirst", "imageOf", "(I)LHeaviestFirst$Image;"⟩, 13), (⟨"HeaviestFirstModel", "here", "()I"⟩, 43), (⟨"HeaviestFirstModel", "takeClause", "()I"⟩, 43), (⟨"HeaviestFirstModel", "readWord", "()V"⟩, 43), (⟨"HeaviestFirstModel", "fails", "(II)I"⟩, 43), (⟨"HeaviestFirstModel", "takeNumber", "(II)I"⟩, 43), (⟨"HeaviestFirstModel", "takePlace", "()I"⟩, 43), (⟨"HeaviestFirstModel", "into", "([IIII)I"⟩, 43), (⟨"HeaviestFirstModel", "takeLetter", "()I"⟩, 43)]
theorem lw_r2 : ∀ q ∈ lw_privs_2, lw_okq q := List.forall_mem_cons.mpr ⟨lw_p16, List.forall_mem_cons.mpr ⟨lw_p17, List.forall_mem_cons.mpr ⟨lw_p18, List.forall_mem_cons.mpr ⟨lw_p19, List.forall_mem_cons.mpr ⟨lw_p20, List.forall_mem_cons.mpr ⟨lw_p21, List.forall_mem_cons.mpr ⟨lw_p22, List.forall_mem_cons.mpr ⟨lw_p23, List.forall_mem_cons.mpr ⟨lw_p24, List.forall_mem_cons.mpr ⟨lw_p25, List.forall_mem_cons.mpr ⟨lw_p26, List.forall_mem_cons.mpr ⟨lw_p27, List.forall_mem_cons.mpr ⟨lw_p28, List.forall_mem_cons.mpr ⟨lw_p29, List.forall_mem_cons.mpr ⟨lw_p30, List.forall_mem_cons.mpr ⟨lw_p31, fun _ h => absurd h List.not_mem_nil⟩⟩⟩⟩⟩⟩⟩⟩⟩⟩⟩⟩⟩⟩⟩⟩
theorem lw_p32 : lw_okq (⟨"HeaviestFirstModel", "walkNow", "()I"⟩, 43) := ⟨⟨by decide +kernel, by decide +kernel⟩, List.mem_of_getElem? (i := 692) (by decide +kernel), List.mem_of_getElem? (i := 896) (by decide +kernel), List.mem_of_getElem? (i := 897) (by decide +kernel)⟩
theorem lw_p33 : lw_okq (⟨"HeaviestFirstModel", "setHeavy", "()V"⟩, 43) := ⟨⟨by decide +kernel, by decide +kernel⟩, List.mem_of_getElem? (i := 692) (by decide +kernel), List.mem_of_getElem? (i := 900) (by decide +kernel), List.mem_of_getElem? (i := 901) (by decide +kernel)⟩
theorem lw_p34 : lw_okq (⟨"HeaviestFirstModel", "putInOrder", "()V"⟩, 43) := ⟨⟨by decide +kernel, by decide +kernel⟩, List.mem_of_getElem? (i := 692) (by decide +kernel), List.mem_of_getElem? (i := 904) (by decide +kernel), List.mem_of_getElem? (i := 905) (by decide +kernel)⟩
theorem lw_p35 : lw_okq (⟨"HeaviestFirstModel", "nextOf", "(IZ)I"⟩, 43) := ⟨⟨by decide +kernel, by decide +kernel⟩, List.mem_of_getElem? (i := 692) (by decide +kernel), List.mem_of_getElem? (i := 908) (by decide +kernel), List.mem_of_getElem? (i := 909) (by decide +kernel)⟩
theorem lw_p36 : lw_okq (⟨"HeaviestFirstModel", "walkFrom", "(II)I"⟩, 43) := ⟨⟨by decide +kernel, by decide +kernel⟩, List.mem_of_getElem? (i := 692) (by decide +kernel), List.mem_of_getElem? (i := 915) (by decide +kernel), List.mem_of_getElem? (i := 916) (by decide +kernel)⟩
theorem lw_p37 : lw_okq (⟨"HeaviestFirstModel", "farOf", "(II)I"⟩, 43) := ⟨⟨by decide +kernel, by decide +kernel⟩, List.mem_of_getElem? (i := 692) (by decide +kernel), List.mem_of_getElem? (i := 919) (by decide +kernel), List.mem_of_getElem? (i := 920) (by decide +kernel)⟩
theorem lw_p38 : lw_okq (⟨"HeaviestFirstModel", "stonesAll", "()I"⟩, 43) := ⟨⟨by decide +kernel, by decide +kernel⟩, List.mem_of_getElem? (i := 692) (by decide +kernel), List.mem_of_getElem? (i := 926) (by decide +kernel), List.mem_of_getElem? (i := 927) (by decide +kernel)⟩
theorem lw_p39 : lw_okq (⟨"HeaviestFirstModel", "inTimeSet", "()I"⟩, 43) := ⟨⟨by decide +kernel, by decide +kernel⟩, List.mem_of_getElem? (i := 692) (by decide +kernel), List.mem_of_getElem? (i := 930) (by decide +kernel), List.mem_of_getElem? (i := 931) (by decide +kernel)⟩
theorem lw_p40 : lw_okq (⟨"HeaviestFirstModel", "hadAll", "()I"⟩, 43) := ⟨⟨by decide +kernel, by decide +kernel⟩, List.mem_of_getElem? (i := 692) (by decide +kernel), List.mem_of_getElem? (i := 934) (by decide +kernel), List.mem_of_getElem? (i := 935) (by decide +kernel)⟩
theorem lw_p41 : lw_okq (⟨"HeaviestFirstModel", "hadOf", "(I)I"⟩, 43) := ⟨⟨by decide +kernel, by decide +kernel⟩, List.mem_of_getElem? (i := 692) (by decide +kernel), List.mem_of_getElem? (i := 938) (by decide +kernel), List.mem_of_getElem? (i := 939) (by decide +kernel)⟩
theorem lw_p42 : lw_okq (⟨"HeaviestFirstModel", "isPlace", "(I)Z"⟩, 43) := ⟨⟨by decide +kernel, by decide +kernel⟩, List.mem_of_getElem? (i := 692) (by decide +kernel), List.mem_of_getElem? (i := 946) (by decide +kernel), List.mem_of_getElem? (i := 947) (by decide +kernel)⟩
theorem lw_p43 : lw_okq (⟨"HeaviestFirstModel", "isLetter", "(I)Z"⟩, 43) := ⟨⟨by decide +kernel, by decide +kernel⟩, List.mem_of_getElem? (i := 692) (by decide +kernel), List.mem_of_getElem? (i := 955) (by decide +kernel), List.mem_of_getElem? (i := 956) (by decide +kernel)⟩
theorem lw_p44 : lw_okq (⟨"HeaviestFirstModel", "placeIn", "(I)I"⟩, 43) := ⟨⟨by decide +kernel, by decide +kernel⟩, List.mem_of_getElem? (i := 692) (by decide +kernel), List.mem_of_getElem? (i := 959) (by decide +kernel), List.mem_of_getElem? (i := 960) (by decide +kernel)⟩
theorem lw_p45 : lw_okq (⟨"HeaviestFirstModel", "draw", "(I)I"⟩, 43) := ⟨⟨by decide +kernel, by decide +kernel⟩, List.mem_of_getElem? (i := 692) (by decide +kernel), List.mem_of_getElem? (i := 991) (by decide +kernel), List.mem_of_getElem? (i := 992) (by decide +kernel)⟩
theorem lw_p46 : lw_okq (⟨"HeaviestFirstModel", "findOrder", "(Z)Z"⟩, 43) := ⟨⟨by decide +kernel, by decide +kernel⟩, List.mem_of_getElem? (i := 692) (by decide +kernel), List.mem_of_getElem? (i := 1003) (by decide +kernel), List.mem_of_getElem? (i := 1004) (by decide +kernel)⟩
theorem lw_p47 : lw_okq (⟨"HeaviestFirstModel", "setOrder", "(I)Z"⟩, 43) := ⟨⟨by decide +kernel, by decide +kernel⟩, List.mem_of_getElem? (i := 692) (by decide +kernel), List.mem_of_getElem? (i := 1008) (by decide +kernel), List.mem_of_getElem? (i := 1009) (by decide +kernel)⟩
def lw_privs_3 : List (MethodName × Nat) := [(⟨"HeaviestFirstModel", "walkNow", "()I"⟩, 43), (⟨"HeaviestFirstModel", "setHeavy", "()V"⟩, 43), (⟨"HeaviestFirstModel", "putInOrder", "()V"⟩, 43), (⟨"HeaviestFirstModel", "nextOf", "(IZ)I"⟩, 43), (⟨"HeaviestFirstModel", "walkFrom", "(II)I"⟩, 43), (⟨"HeaviestFirstModel", "farOf", "(II)I"⟩, 43), (⟨"HeaviestFirstModel", "stonesAll", "()I"⟩, 43), (⟨"HeaviestFirstModel", "inTimeSet", "()I"⟩, 43), (⟨"HeaviestFirstModel", "hadAll", "()I"⟩, 43), (⟨"HeaviestFirstModel", "hadOf", "(I)I"⟩, 43), (⟨"HeaviestFirstModel", "isPlace", "(I)Z"⟩, 43), (⟨"HeaviestFirstModel", "isLetter", "(I)Z"⟩, 43), (⟨"HeaviestFirstModel", "placeIn", "(I)I"⟩, 43), (⟨"HeaviestFirstModel", "draw", "(I)I"⟩, 43), (⟨"HeaviestFirstModel", "findOrder", "(Z)Z"⟩, 43), (⟨"HeaviestFirstModel", "setOrder", "(I)Z"⟩, 43)]
theorem lw_r3 : ∀ q ∈ lw_privs_3, lw_okq q := List.forall_mem_cons.mpr ⟨lw_p32, List.forall_mem_cons.mpr ⟨lw_p33, List.forall_mem_cons.mpr ⟨lw_p34, List.forall_mem_cons.mpr ⟨lw_p35, List.forall_mem_cons.mpr ⟨lw_p36, List.forall_mem_cons.mpr ⟨lw_p37, List.forall_mem_cons.mpr ⟨lw_p38, List.forall_mem_cons.mpr ⟨lw_p39, List.forall_mem_cons.mpr ⟨lw_p40, List.forall_mem_cons.mpr ⟨lw_p41, List.forall_mem_cons.mpr ⟨lw_p42, List.forall_mem_cons.mpr ⟨lw_p43, List.forall_mem_cons.mpr ⟨lw_p44, List.forall_mem_cons.mpr ⟨lw_p45, List.forall_mem_cons.mpr ⟨lw_p46, List.forall_mem_cons.mpr ⟨lw_p47, fun _ h => absurd h List.not_mem_nil⟩⟩⟩⟩⟩⟩⟩⟩⟩⟩⟩⟩⟩⟩⟩⟩
theorem lw_p48 : lw_okq (⟨"HeaviestFirstModel", "stonesFor", "()I"⟩, 43) := ⟨⟨by decide +kernel, by decide +kernel⟩, List.mem_of_getElem? (i := 692) (by decide +kernel), List.mem_of_getElem? (i := 1012) (by decide +kernel), List.mem_of_getElem? (i := 1013) (by decide +kernel)⟩
theorem lw_p49 : lw_okq (⟨"HeaviestFirstModel", "areInTime", "()Z"⟩, 43) := ⟨⟨by decide +kernel, by decide +kernel⟩, List.mem_of_getElem? (i := 692) (by decide +kernel), List.mem_of_getElem? (i := 1016) (by decide +kernel), List.mem_of_getElem? (i := 1017) (by decide +kernel)⟩
theorem lw_p50 : lw_okq (⟨"HeaviestFirstModel", "answerOf", "(I)I"⟩, 43) := ⟨⟨by decide +kernel, by decide +kernel⟩, List.mem_of_getElem? (i := 692) (by decide +kernel), List.mem_of_getElem? (i := 1028) (by decide +kernel), List.mem_of_getElem? (i := 1029) (by decide +kernel)⟩
theorem lw_p51 : lw_okq (⟨"HeaviestFirstModel", "goToRest", "()I"⟩, 43) := ⟨⟨by decide +kernel, by decide +kernel⟩, List.mem_of_getElem? (i := 692) (by decide +kernel), List.mem_of_getElem? (i := 1039) (by decide +kernel), List.mem_of_getElem? (i := 1040) (by decide +kernel)⟩
theorem lw_p52 : lw_okq (⟨"HeaviestFirstModel", "roundChanges", "()Z"⟩, 43) := ⟨⟨by decide +kernel, by decide +kernel⟩, List.mem_of_getElem? (i := 692) (by decide +kernel), List.mem_of_getElem? (i := 1043) (by decide +kernel), List.mem_of_getElem? (i := 1044) (by decide +kernel)⟩
theorem lw_p53 : lw_okq (⟨"HeaviestFirstModel", "goBackFromRest", "()V"⟩, 43) := ⟨⟨by decide +kernel, by decide +kernel⟩, List.mem_of_getElem? (i := 692) (by decide +kernel), List.mem_of_getElem? (i := 1047) (by decide +kernel), List.mem_of_getElem? (i := 1048) (by decide +kernel)⟩
theorem lw_p54 : lw_okq (⟨"HeaviestFirstModel", "isTold", "(II)Z"⟩, 43) := ⟨⟨by decide +kernel, by decide +kernel⟩, List.mem_of_getElem? (i := 692) (by decide +kernel), List.mem_of_getElem? (i := 1071) (by decide +kernel), List.mem_of_getElem? (i := 1072) (by decide +kernel)⟩
def lw_privs_4 : List (MethodName × Nat) := [(⟨"HeaviestFirstModel", "stonesFor", "()I"⟩, 43), (⟨"HeaviestFirstModel", "areInTime", "()Z"⟩, 43), (⟨"HeaviestFirstModel", "answerOf", "(I)I"⟩, 43), (⟨"HeaviestFirstModel", "goToRest", "()I"⟩, 43), (⟨"HeaviestFirstModel", "roundChanges", "()Z"⟩, 43), (⟨"HeaviestFirstModel", "goBackFromRest", "()V"⟩, 43), (⟨"HeaviestFirstModel", "isTold", "(II)Z"⟩, 43)]
theorem lw_r4 : ∀ q ∈ lw_privs_4, lw_okq q := List.forall_mem_cons.mpr ⟨lw_p48, List.forall_mem_cons.mpr ⟨lw_p49, List.forall_mem_cons.mpr ⟨lw_p50, List.forall_mem_cons.mpr ⟨lw_p51, List.forall_mem_cons.mpr ⟨lw_p52, List.forall_mem_cons.mpr ⟨lw_p53, List.forall_mem_cons.mpr ⟨lw_p54, fun _ h => absurd h List.not_mem_nil⟩⟩⟩⟩⟩⟩⟩
def lw_privs : List (MethodName × Nat) := lw_privs_1 ++ (lw_privs_2 ++ (lw_privs_3 ++ (lw_privs_4)))
def lw_tbl : List Cond := k2_sels lw_privs ++ tables_1
theorem lw_privs_ok : ∀ q ∈ lw_privs, lw_okq q := by
  show ∀ q ∈ lw_privs_1 ++ (lw_privs_2 ++ (lw_privs_3 ++ (lw_privs_4))), lw_okq q
  exact List.forall_mem_append.mpr ⟨lw_r1, List.forall_mem_append.mpr ⟨lw_r2, List.forall_mem_append.mpr ⟨lw_r3, lw_r4⟩⟩⟩

def RX0 : String := "HeaviestFirst$Image"
def TX0 : u_T := fun k => match k with
  | 0 => ("HeaviestFirst$Image", "goals", "[I", true)
  | 1 => ("HeaviestFirst$Image", "weights", "[I", true)
  | 2 => ("HeaviestFirst$Image", "stones", "[I", true)
  | 3 => ("HeaviestFirst$Image", "cost", "I", false)
  | 4 => ("HeaviestFirst$Image", "law", "I", false)
  | 5 => ("HeaviestFirst$Image", "seedKept", "I", false)
  | _ => ("HeaviestFirst$Image", "kept", "Z", false)
def tyX0 : Nat → FieldType := fun k => match k with
  | 0 => .array .int
  | 1 => .array .int
  | 2 => .array .int
  | 3 => .int
  | 4 => .int
  | 5 => .int
  | _ => .boolean
abbrev wsX00 : List Cond := u_ws RX0 TX0 7
theorem nmX0 : ∀ a, a < 7 → ∀ b, b < 7 → a ≠ b → (TX0 a).2.1 ≠ (TX0 b).2.1 := by decide +kernel
theorem tyX0_ok : ∀ k, k < 7 → parseFieldDescriptor (TX0 k).2.2.1 = some (tyX0 k) := by decide +kernel
abbrev cX0_init : ByteArray := prog_2_method_1_code
def yX0_init : MethodName := ⟨RX0, "<init>", "()V"⟩
abbrev cX0_keepOf : ByteArray := prog_2_method_2_code
def yX0_keepOf : MethodName := ⟨RX0, "keepOf", "(LHeaviestFirst$Town;)V"⟩
abbrev cX0_giveTo : ByteArray := prog_2_method_3_code
def yX0_giveTo : MethodName := ⟨RX0, "giveTo", "(LHeaviestFirst$Town;)V"⟩
def RX1 : String := "HeaviestFirst$Reader"
def TX1 : u_T := fun k => match k with
  | 0 => ("HeaviestFirst$Reader", "text", "[B", true)
  | 1 => ("HeaviestFirst$Reader", "draft", "LHeaviestFirst$Town;", true)
  | 2 => ("HeaviestFirst$Reader", "length", "I", false)
  | 3 => ("HeaviestFirst$Reader", "faultPlace", "I", false)
  | 4 => ("HeaviestFirst$Reader", "position", "I", false)
  | 5 => ("HeaviestFirst$Reader", "fault", "I", false)
  | _ => ("HeaviestFirst$Reader", "costTold", "Z", false)
def tyX1 : Nat → FieldType := fun k => match k with
  | 0 => .array .byte
  | 1 => .object "HeaviestFirst$Town"
  | 2 => .int
  | 3 => .int
  | 4 => .int
  | 5 => .int
  | _ => .boolean
abbrev wsX10 : List Cond := u_ws RX1 TX1 7
theorem nmX1 : ∀ a, a < 7 → ∀ b, b < 7 → a ≠ b → (TX1 a).2.1 ≠ (TX1 b).2.1 := by decide +kernel
theorem tyX1_ok : ∀ k, k < 7 → parseFieldDescriptor (TX1 k).2.2.1 = some (tyX1 k) := by decide +kernel
abbrev cX1_init : ByteArray := prog_3_method_1_code
def yX1_init : MethodName := ⟨RX1, "<init>", "()V"⟩
abbrev cX1_add : ByteArray := prog_3_method_2_code
def yX1_add : MethodName := ⟨RX1, "add", "(B)V"⟩
abbrev cX1_read : ByteArray := prog_3_method_3_code
def yX1_read : MethodName := ⟨RX1, "read", "()I"⟩
abbrev cX1_readClause : ByteArray := prog_3_method_4_code
def yX1_readClause : MethodName := ⟨RX1, "readClause", "()V"⟩
abbrev cX1_readPlace : ByteArray := prog_3_method_5_code
def yX1_readPlace : MethodName := ⟨RX1, "readPlace", "(I)V"⟩
abbrev cX1_readLetter : ByteArray := prog_3_method_6_code
def yX1_readLetter : MethodName := ⟨RX1, "readLetter", "(I)V"⟩
abbrev cX1_readStone : ByteArray := prog_3_method_7_code
def yX1_readStone : MethodName := ⟨RX1, "readStone", "(I)V"⟩
abbrev cX1_readNumber : ByteArray := prog_3_method_8_code
def yX1_readNumber : MethodName := ⟨RX1, "readNumber", "(II)I"⟩
abbrev cX1_readEnd : ByteArray := prog_3_method_9_code
def yX1_readEnd : MethodName := ⟨RX1, "readEnd", "()V"⟩
abbrev cX1_fail : ByteArray := prog_3_method_10_code
def yX1_fail : MethodName := ⟨RX1, "fail", "(II)V"⟩
abbrev cX1_skipBlanks : ByteArray := prog_3_method_11_code
def yX1_skipBlanks : MethodName := ⟨RX1, "skipBlanks", "()V"⟩
abbrev cX1_isWord : ByteArray := prog_3_method_12_code
def yX1_isWord : MethodName := ⟨RX1, "isWord", "(ILjava/lang/String;)Z"⟩
abbrev cX1_isBetween : ByteArray := prog_3_method_13_code
def yX1_isBetween : MethodName := ⟨RX1, "isBetween", "(CC)Z"⟩
abbrev cX1_byteAt : ByteArray := prog_3_method_14_code
def yX1_byteAt : MethodName := ⟨RX1, "byteAt", "(I)I"⟩
def RX2 : String := "HeaviestFirst$Route"
def TX2 : u_T := fun k => match k with
  | 0 => ("HeaviestFirst$Route", "heavy", "[I", true)
  | 1 => ("HeaviestFirst$Route", "row", "[I", true)
  | 2 => ("HeaviestFirst$Route", "comes", "[I", true)
  | _ => ("HeaviestFirst$Route", "minutes", "I", false)
def tyX2 : Nat → FieldType := fun k => match k with
  | 0 => .array .int
  | 1 => .array .int
  | 2 => .array .int
  | _ => .int
abbrev wsX20 : List Cond := u_ws RX2 TX2 4
theorem nmX2 : ∀ a, a < 4 → ∀ b, b < 4 → a ≠ b → (TX2 a).2.1 ≠ (TX2 b).2.1 := by decide +kernel
theorem tyX2_ok : ∀ k, k < 4 → parseFieldDescriptor (TX2 k).2.2.1 = some (tyX2 k) := by decide +kernel
abbrev cX2_init : ByteArray := prog_4_method_1_code
def yX2_init : MethodName := ⟨RX2, "<init>", "()V"⟩
abbrev cX2_lay : ByteArray := prog_4_method_2_code
def yX2_lay : MethodName := ⟨RX2, "lay", "(LHeaviestFirst$Town;[I)V"⟩
abbrev cX2_weigh : ByteArray := prog_4_method_3_code
def yX2_weigh : MethodName := ⟨RX2, "weigh", "(LHeaviestFirst$Town;[I)V"⟩
abbrev cX2_sort : ByteArray := prog_4_method_4_code
def yX2_sort : MethodName := ⟨RX2, "sort", "(II)V"⟩
abbrev cX2_walk : ByteArray := prog_4_method_5_code
def yX2_walk : MethodName := ⟨RX2, "walk", "(LHeaviestFirst$Town;)V"⟩
abbrev cX2_rankOf : ByteArray := prog_4_method_6_code
def yX2_rankOf : MethodName := ⟨RX2, "rankOf", "(II)I"⟩
abbrev cX2_isInTime : ByteArray := prog_4_method_7_code
def yX2_isInTime : MethodName := ⟨RX2, "isInTime", "(LHeaviestFirst$Town;I)Z"⟩
abbrev cX2_lettersInTime : ByteArray := prog_4_method_8_code
def yX2_lettersInTime : MethodName := ⟨RX2, "lettersInTime", "(LHeaviestFirst$Town;)I"⟩
abbrev cX2_had : ByteArray := prog_4_method_9_code
def yX2_had : MethodName := ⟨RX2, "had", "(LHeaviestFirst$Town;III)I"⟩
abbrev cX2_hadOfAll : ByteArray := prog_4_method_10_code
def yX2_hadOfAll : MethodName := ⟨RX2, "hadOfAll", "(LHeaviestFirst$Town;[I)I"⟩
abbrev cX2_longerOfTwo : ByteArray := prog_4_method_11_code
def yX2_longerOfTwo : MethodName := ⟨RX2, "longerOfTwo", "(LHeaviestFirst$Town;I)I"⟩
def RX3 : String := "HeaviestFirst$Search"
def TX3 : u_T := fun k => match k with
  | 0 => ("HeaviestFirst$Search", "row", "[I", true)
  | 1 => ("HeaviestFirst$Search", "bestRow", "[I", true)
  | 2 => ("HeaviestFirst$Search", "allInTime", "Z", false)
  | 3 => ("HeaviestFirst$Search", "found", "Z", false)
  | 4 => ("HeaviestFirst$Search", "bestMinutes", "I", false)
  | _ => ("HeaviestFirst$Search", "bestStones", "I", false)
def tyX3 : Nat → FieldType := fun k => match k with
  | 0 => .array .int
  | 1 => .array .int
  | 2 => .boolean
  | 3 => .boolean
  | 4 => .int
  | _ => .int
abbrev wsX30 : List Cond := u_ws RX3 TX3 6
theorem nmX3 : ∀ a, a < 6 → ∀ b, b < 6 → a ≠ b → (TX3 a).2.1 ≠ (TX3 b).2.1 := by decide +kernel
theorem tyX3_ok : ∀ k, k < 6 → parseFieldDescriptor (TX3 k).2.2.1 = some (tyX3 k) := by decide +kernel
abbrev cX3_init : ByteArray := prog_5_method_1_code
def yX3_init : MethodName := ⟨RX3, "<init>", "()V"⟩
abbrev cX3_seek : ByteArray := prog_5_method_2_code
def yX3_seek : MethodName := ⟨RX3, "seek", "(LHeaviestFirst$Town;Z)V"⟩
abbrev cX3_letterAt : ByteArray := prog_5_method_3_code
def yX3_letterAt : MethodName := ⟨RX3, "letterAt", "(II)I"⟩
abbrev cX3_extend : ByteArray := prog_5_method_4_code
def yX3_extend : MethodName := ⟨RX3, "extend", "(LHeaviestFirst$Town;III)V"⟩
abbrev cX3_append : ByteArray := prog_5_method_5_code
def yX3_append : MethodName := ⟨RX3, "append", "(LHeaviestFirst$Town;IIII)V"⟩
abbrev cX3_mayLead : ByteArray := prog_5_method_6_code
def yX3_mayLead : MethodName := ⟨RX3, "mayLead", "(LHeaviestFirst$Town;II)Z"⟩
abbrev cX3_consider : ByteArray := prog_5_method_7_code
def yX3_consider : MethodName := ⟨RX3, "consider", "(LHeaviestFirst$Town;I)V"⟩
abbrev cX3_isBetter : ByteArray := prog_5_method_8_code
def yX3_isBetter : MethodName := ⟨RX3, "isBetter", "(II)Z"⟩
abbrev cX3_fewestStones : ByteArray := prog_5_method_9_code
def yX3_fewestStones : MethodName := ⟨RX3, "fewestStones", "(LHeaviestFirst$Town;)I"⟩
def RX4 : String := "HeaviestFirst$Senders"
def TX4 : u_T := fun k => match k with
  | 0 => ("HeaviestFirst$Senders", "stones", "[I", true)
  | 1 => ("HeaviestFirst$Senders", "route", "LHeaviestFirst$Route;", true)
  | 2 => ("HeaviestFirst$Senders", "seen", "[I", true)
  | _ => ("HeaviestFirst$Senders", "rounds", "I", false)
def tyX4 : Nat → FieldType := fun k => match k with
  | 0 => .array .int
  | 1 => .object "HeaviestFirst$Route"
  | 2 => .array .int
  | _ => .int
abbrev wsX40 : List Cond := u_ws RX4 TX4 4
theorem nmX4 : ∀ a, a < 4 → ∀ b, b < 4 → a ≠ b → (TX4 a).2.1 ≠ (TX4 b).2.1 := by decide +kernel
theorem tyX4_ok : ∀ k, k < 4 → parseFieldDescriptor (TX4 k).2.2.1 = some (tyX4 k) := by decide +kernel
abbrev cX4_init : ByteArray := prog_6_method_1_code
def yX4_init : MethodName := ⟨RX4, "<init>", "()V"⟩
abbrev cX4_begin : ByteArray := prog_6_method_2_code
def yX4_begin : MethodName := ⟨RX4, "begin", "(LHeaviestFirst$Town;)V"⟩
abbrev cX4_bestStones : ByteArray := prog_6_method_3_code
def yX4_bestStones : MethodName := ⟨RX4, "bestStones", "(LHeaviestFirst$Town;II)I"⟩
abbrev cX4_settle : ByteArray := prog_6_method_4_code
def yX4_settle : MethodName := ⟨RX4, "settle", "(LHeaviestFirst$Town;I)Z"⟩
abbrev cX4_wasSeen : ByteArray := prog_6_method_5_code
def yX4_wasSeen : MethodName := ⟨RX4, "wasSeen", "(I)Z"⟩
abbrev cX4_packed : ByteArray := prog_6_method_6_code
def yX4_packed : MethodName := ⟨RX4, "packed", "()I"⟩
def RX5 : String := "HeaviestFirst$Town"
def TX5 : u_T := fun k => match k with
  | 0 => ("HeaviestFirst$Town", "xs", "[I", true)
  | 1 => ("HeaviestFirst$Town", "ys", "[I", true)
  | 2 => ("HeaviestFirst$Town", "goals", "[I", true)
  | 3 => ("HeaviestFirst$Town", "weights", "[I", true)
  | 4 => ("HeaviestFirst$Town", "dues", "[I", true)
  | 5 => ("HeaviestFirst$Town", "worths", "[I", true)
  | 6 => ("HeaviestFirst$Town", "stones", "[I", true)
  | 7 => ("HeaviestFirst$Town", "placeCount", "I", false)
  | 8 => ("HeaviestFirst$Town", "letterCount", "I", false)
  | 9 => ("HeaviestFirst$Town", "cost", "I", false)
  | 10 => ("HeaviestFirst$Town", "law", "I", false)
  | _ => ("HeaviestFirst$Town", "seedNow", "I", false)
def tyX5 : Nat → FieldType := fun k => match k with
  | 0 => .array .int
  | 1 => .array .int
  | 2 => .array .int
  | 3 => .array .int
  | 4 => .array .int
  | 5 => .array .int
  | 6 => .array .int
  | 7 => .int
  | 8 => .int
  | 9 => .int
  | 10 => .int
  | _ => .int
abbrev wsX50 : List Cond := u_ws RX5 TX5 12
theorem nmX5 : ∀ a, a < 12 → ∀ b, b < 12 → a ≠ b → (TX5 a).2.1 ≠ (TX5 b).2.1 := by decide +kernel
theorem tyX5_ok : ∀ k, k < 12 → parseFieldDescriptor (TX5 k).2.2.1 = some (tyX5 k) := by decide +kernel
abbrev cX5_init : ByteArray := prog_7_method_1_code
def yX5_init : MethodName := ⟨RX5, "<init>", "()V"⟩
abbrev cX5_hasPlace : ByteArray := prog_7_method_2_code
def yX5_hasPlace : MethodName := ⟨RX5, "hasPlace", "(I)Z"⟩
abbrev cX5_hasLetter : ByteArray := prog_7_method_3_code
def yX5_hasLetter : MethodName := ⟨RX5, "hasLetter", "(I)Z"⟩
abbrev cX5_apart : ByteArray := prog_7_method_4_code
def yX5_apart : MethodName := ⟨RX5, "apart", "(II)I"⟩
abbrev cX5_addPlace : ByteArray := prog_7_method_5_code
def yX5_addPlace : MethodName := ⟨RX5, "addPlace", "(II)V"⟩
abbrev cX5_addLetter : ByteArray := prog_7_method_6_code
def yX5_addLetter : MethodName := ⟨RX5, "addLetter", "(IIII)V"⟩
abbrev cX5_becomeTold : ByteArray := prog_7_method_7_code
def yX5_becomeTold : MethodName := ⟨RX5, "becomeTold", "(LHeaviestFirst$Town;)V"⟩
abbrev cX5_drawLetters : ByteArray := prog_7_method_8_code
def yX5_drawLetters : MethodName := ⟨RX5, "drawLetters", "()V"⟩
abbrev cX5_draw : ByteArray := prog_7_method_9_code
def yX5_draw : MethodName := ⟨RX5, "draw", "(I)I"⟩
def RX6 : String := "HeaviestFirst"
def TX6 : u_T := fun k => match k with
  | 0 => ("HeaviestFirst", "reader", "LHeaviestFirst$Reader;", true)
  | 1 => ("HeaviestFirst", "current", "LHeaviestFirst$Town;", true)
  | 2 => ("HeaviestFirst", "route", "LHeaviestFirst$Route;", true)
  | 3 => ("HeaviestFirst", "search", "LHeaviestFirst$Search;", true)
  | 4 => ("HeaviestFirst", "senders", "LHeaviestFirst$Senders;", true)
  | 5 => ("HeaviestFirst", "firstImage", "LHeaviestFirst$Image;", true)
  | 6 => ("HeaviestFirst", "secondImage", "LHeaviestFirst$Image;", true)
  | 7 => ("HeaviestFirst", "agreedStones", "[I", true)
  | 8 => ("HeaviestFirst", "cameRow", "[I", true)
  | 9 => ("HeaviestFirst", "bookLetters", "[I", true)
  | 10 => ("HeaviestFirst", "bookMinutes", "[I", true)
  | 11 => ("HeaviestFirst", "cameCount", "I", false)
  | _ => ("HeaviestFirst", "bookCount", "I", false)
def tyX6 : Nat → FieldType := fun k => match k with
  | 0 => .object "HeaviestFirst$Reader"
  | 1 => .object "HeaviestFirst$Town"
  | 2 => .object "HeaviestFirst$Route"
  | 3 => .object "HeaviestFirst$Search"
  | 4 => .object "HeaviestFirst$Senders"
  | 5 => .object "HeaviestFirst$Image"
  | 6 => .object "HeaviestFirst$Image"
  | 7 => .array .int
  | 8 => .array .int
  | 9 => .array .int
  | 10 => .array .int
  | 11 => .int
  | _ => .int
abbrev wsX60 : List Cond := u_ws RX6 TX6 13
theorem nmX6 : ∀ a, a < 13 → ∀ b, b < 13 → a ≠ b → (TX6 a).2.1 ≠ (TX6 b).2.1 := by decide +kernel
theorem tyX6_ok : ∀ k, k < 13 → parseFieldDescriptor (TX6 k).2.2.1 = some (tyX6 k) := by decide +kernel
abbrev cX6_init : ByteArray := prog_1_method_1_code
def yX6_init : MethodName := ⟨RX6, "<init>", "()V"⟩
abbrev cX6_feed : ByteArray := prog_1_method_2_code
def yX6_feed : MethodName := ⟨RX6, "feed", "(IJ)I"⟩
abbrev cX6_town : ByteArray := prog_1_method_3_code
def yX6_town : MethodName := ⟨RX6, "town", "()I"⟩
abbrev cX6_fault : ByteArray := prog_1_method_4_code
def yX6_fault : MethodName := ⟨RX6, "fault", "()I"⟩
abbrev cX6_told : ByteArray := prog_1_method_5_code
def yX6_told : MethodName := ⟨RX6, "told", "(I)I"⟩
abbrev cX6_place : ByteArray := prog_1_method_6_code
def yX6_place : MethodName := ⟨RX6, "place", "(II)I"⟩
abbrev cX6_letter : ByteArray := prog_1_method_7_code
def yX6_letter : MethodName := ⟨RX6, "letter", "(II)I"⟩
abbrev cX6_far : ByteArray := prog_1_method_8_code
def yX6_far : MethodName := ⟨RX6, "far", "(II)I"⟩
abbrev cX6_order : ByteArray := prog_1_method_9_code
def yX6_order : MethodName := ⟨RX6, "order", "(I)I"⟩
abbrev cX6_stones : ByteArray := prog_1_method_10_code
def yX6_stones : MethodName := ⟨RX6, "stones", "(II)I"⟩
abbrev cX6_law : ByteArray := prog_1_method_11_code
def yX6_law : MethodName := ⟨RX6, "law", "(I)I"⟩
abbrev cX6_price : ByteArray := prog_1_method_12_code
def yX6_price : MethodName := ⟨RX6, "price", "(I)I"⟩
abbrev cX6_drift : ByteArray := prog_1_method_13_code
def yX6_drift : MethodName := ⟨RX6, "drift", "(I)I"⟩
abbrev cX6_shortest : ByteArray := prog_1_method_14_code
def yX6_shortest : MethodName := ⟨RX6, "shortest", "(I)I"⟩
abbrev cX6_inTime : ByteArray := prog_1_method_15_code
def yX6_inTime : MethodName := ⟨RX6, "inTime", "(I)I"⟩
abbrev cX6_answer : ByteArray := prog_1_method_16_code
def yX6_answer : MethodName := ⟨RX6, "answer", "(I)I"⟩
abbrev cX6_rests : ByteArray := prog_1_method_17_code
def yX6_rests : MethodName := ⟨RX6, "rests", "(I)I"⟩
abbrev cX6_best : ByteArray := prog_1_method_18_code
def yX6_best : MethodName := ⟨RX6, "best", "()I"⟩
abbrev cX6_agreed : ByteArray := prog_1_method_19_code
def yX6_agreed : MethodName := ⟨RX6, "agreed", "(II)I"⟩
abbrev cX6_two : ByteArray := prog_1_method_20_code
def yX6_two : MethodName := ⟨RX6, "two", "(I)I"⟩
abbrev cX6_came : ByteArray := prog_1_method_21_code
def yX6_came : MethodName := ⟨RX6, "came", "(I)I"⟩
abbrev cX6_ends : ByteArray := prog_1_method_22_code
def yX6_ends : MethodName := ⟨RX6, "ends", "(II)I"⟩
abbrev cX6_write : ByteArray := prog_1_method_23_code
def yX6_write : MethodName := ⟨RX6, "write", "(II)I"⟩
abbrev cX6_tear : ByteArray := prog_1_method_24_code
def yX6_tear : MethodName := ⟨RX6, "tear", "()I"⟩
abbrev cX6_judge : ByteArray := prog_1_method_25_code
def yX6_judge : MethodName := ⟨RX6, "judge", "()I"⟩
abbrev cX6_seed : ByteArray := prog_1_method_26_code
def yX6_seed : MethodName := ⟨RX6, "seed", "(I)I"⟩
abbrev cX6_keep : ByteArray := prog_1_method_27_code
def yX6_keep : MethodName := ⟨RX6, "keep", "(I)I"⟩
abbrev cX6_goBack : ByteArray := prog_1_method_28_code
def yX6_goBack : MethodName := ⟨RX6, "goBack", "(I)I"⟩
abbrev cX6_imageOf : ByteArray := prog_1_method_29_code
def yX6_imageOf : MethodName := ⟨RX6, "imageOf", "(I)LHeaviestFirst$Image;"⟩
abbrev cX6_nothingCanBeTried : ByteArray := prog_1_method_30_code
def yX6_nothingCanBeTried : MethodName := ⟨RX6, "nothingCanBeTried", "()Z"⟩
abbrev cX6_agreeOnWeight : ByteArray := prog_1_method_31_code
def yX6_agreeOnWeight : MethodName := ⟨RX6, "agreeOnWeight", "(I)Z"⟩
abbrev cX6_isIn : ByteArray := prog_1_method_32_code
def yX6_isIn : MethodName := ⟨RX6, "isIn", "(II)Z"⟩
abbrev cX6_at : ByteArray := prog_1_method_33_code
def yX6_at : MethodName := ⟨RX6, "at", "([II)I"⟩
abbrev cX6_put : ByteArray := prog_1_method_34_code
def yX6_put : MethodName := ⟨RX6, "put", "([III)V"⟩
abbrev cX6_copyRow : ByteArray := prog_1_method_35_code
def yX6_copyRow : MethodName := ⟨RX6, "copyRow", "([I[I)V"⟩
abbrev cX6_sum : ByteArray := prog_1_method_36_code
def yX6_sum : MethodName := ⟨RX6, "sum", "([II)I"⟩
abbrev cX6_sameRows : ByteArray := prog_1_method_37_code
def yX6_sameRows : MethodName := ⟨RX6, "sameRows", "([I[II)Z"⟩
def RX7 : String := "HeaviestFirstModel"
def TX7 : u_T := fun k => match k with
  | 0 => ("HeaviestFirstModel", "places", "I", false)
  | 1 => ("HeaviestFirstModel", "placeX", "[I", true)
  | 2 => ("HeaviestFirstModel", "placeY", "[I", true)
  | 3 => ("HeaviestFirstModel", "letters", "I", false)
  | 4 => ("HeaviestFirstModel", "to", "[I", true)
  | 5 => ("HeaviestFirstModel", "weight", "[I", true)
  | 6 => ("HeaviestFirstModel", "due", "[I", true)
  | 7 => ("HeaviestFirstModel", "worth", "[I", true)
  | 8 => ("HeaviestFirstModel", "stones", "[I", true)
  | 9 => ("HeaviestFirstModel", "stoneCost", "I", false)
  | 10 => ("HeaviestFirstModel", "law", "I", false)
  | 11 => ("HeaviestFirstModel", "seed", "I", false)
  | 12 => ("HeaviestFirstModel", "text", "[I", true)
  | 13 => ("HeaviestFirstModel", "texted", "I", false)
  | 14 => ("HeaviestFirstModel", "faultPlace", "I", false)
  | 15 => ("HeaviestFirstModel", "at0", "I", false)
  | 16 => ("HeaviestFirstModel", "said", "J", false)
  | 17 => ("HeaviestFirstModel", "wordEnd", "I", false)
  | 18 => ("HeaviestFirstModel", "number", "I", false)
  | 19 => ("HeaviestFirstModel", "numberAt", "I", false)
  | 20 => ("HeaviestFirstModel", "readPlaces", "I", false)
  | 21 => ("HeaviestFirstModel", "readX", "[I", true)
  | 22 => ("HeaviestFirstModel", "readY", "[I", true)
  | 23 => ("HeaviestFirstModel", "readLetters", "I", false)
  | 24 => ("HeaviestFirstModel", "readTo", "[I", true)
  | 25 => ("HeaviestFirstModel", "readWeight", "[I", true)
  | 26 => ("HeaviestFirstModel", "readDue", "[I", true)
  | 27 => ("HeaviestFirstModel", "readWorth", "[I", true)
  | 28 => ("HeaviestFirstModel", "readCost", "I", false)
  | 29 => ("HeaviestFirstModel", "order", "[I", true)
  | 30 => ("HeaviestFirstModel", "heavy", "[I", true)
  | 31 => ("HeaviestFirstModel", "comes", "[I", true)
  | 32 => ("HeaviestFirstModel", "bestOrder", "[I", true)
  | 33 => ("HeaviestFirstModel", "bestWalk", "I", false)
  | 34 => ("HeaviestFirstModel", "bestStones", "I", false)
  | 35 => ("HeaviestFirstModel", "wasStones", "[I", true)
  | 36 => ("HeaviestFirstModel", "came", "I", false)
  | 37 => ("HeaviestFirstModel", "cameWhich", "[I", true)
  | 38 => ("HeaviestFirstModel", "booked", "I", false)
  | 39 => ("HeaviestFirstModel", "bookLetter", "[I", true)
  | 40 => ("HeaviestFirstModel", "bookMinute", "[I", true)
  | 41 => ("HeaviestFirstModel", "images", "[I", true)
  | _ => ("HeaviestFirstModel", "isKept", "[Z", true)
def tyX7 : Nat → FieldType := fun k => match k with
  | 0 => .int
  | 1 => .array .int
  | 2 => .array .int
  | 3 => .int
  | 4 => .array .int
  | 5 => .array .int
  | 6 => .array .int
  | 7 => .array .int
  | 8 => .array .int
  | 9 => .int
  | 10 => .int
  | 11 => .int
  | 12 => .array .int
  | 13 => .int
  | 14 => .int
  | 15 => .int
  | 16 => .long
  | 17 => .int
  | 18 => .int
  | 19 => .int
  | 20 => .int
  | 21 => .array .int
  | 22 => .array .int
  | 23 => .int
  | 24 => .array .int
  | 25 => .array .int
  | 26 => .array .int
  | 27 => .array .int
  | 28 => .int
  | 29 => .array .int
  | 30 => .array .int
  | 31 => .array .int
  | 32 => .array .int
  | 33 => .int
  | 34 => .int
  | 35 => .array .int
  | 36 => .int
  | 37 => .array .int
  | 38 => .int
  | 39 => .array .int
  | 40 => .array .int
  | 41 => .array .int
  | _ => .array .boolean
abbrev wsX70 : List Cond := u_ws RX7 TX7 43
theorem nmX7 : ∀ a, a < 43 → ∀ b, b < 43 → a ≠ b → (TX7 a).2.1 ≠ (TX7 b).2.1 := by decide +kernel
theorem tyX7_ok : ∀ k, k < 43 → parseFieldDescriptor (TX7 k).2.2.1 = some (tyX7 k) := by decide +kernel
abbrev cX7_init : ByteArray := prog_9_method_1_code
def yX7_init : MethodName := ⟨RX7, "<init>", "()V"⟩
abbrev cX7_in : ByteArray := prog_9_method_3_code
def yX7_in : MethodName := ⟨RX7, "in", "(JJJ)Z"⟩
abbrev cX7_has : ByteArray := prog_9_method_4_code
def yX7_has : MethodName := ⟨RX7, "has", "(II)Z"⟩
abbrev cX7_size : ByteArray := prog_9_method_5_code
def yX7_size : MethodName := ⟨RX7, "size", "(I)I"⟩
abbrev cX7_isPlace : ByteArray := prog_9_method_6_code
def yX7_isPlace : MethodName := ⟨RX7, "isPlace", "(I)Z"⟩
abbrev cX7_isLetter : ByteArray := prog_9_method_7_code
def yX7_isLetter : MethodName := ⟨RX7, "isLetter", "(I)Z"⟩
abbrev cX7_feed : ByteArray := prog_9_method_8_code
def yX7_feed : MethodName := ⟨RX7, "feed", "(IJ)I"⟩
abbrev cX7_here : ByteArray := prog_9_method_9_code
def yX7_here : MethodName := ⟨RX7, "here", "()I"⟩
abbrev cX7_fails : ByteArray := prog_9_method_10_code
def yX7_fails : MethodName := ⟨RX7, "fails", "(II)I"⟩
abbrev cX7_readWord : ByteArray := prog_9_method_11_code
def yX7_readWord : MethodName := ⟨RX7, "readWord", "()V"⟩
abbrev cX7_code : ByteArray := prog_9_method_12_code
def yX7_code : MethodName := ⟨RX7, "code", "(IIIII)J"⟩
abbrev cX7_takeNumber : ByteArray := prog_9_method_13_code
def yX7_takeNumber : MethodName := ⟨RX7, "takeNumber", "(II)I"⟩
abbrev cX7_into : ByteArray := prog_9_method_14_code
def yX7_into : MethodName := ⟨RX7, "into", "([IIII)I"⟩
abbrev cX7_takePlace : ByteArray := prog_9_method_15_code
def yX7_takePlace : MethodName := ⟨RX7, "takePlace", "()I"⟩
abbrev cX7_takeLetter : ByteArray := prog_9_method_16_code
def yX7_takeLetter : MethodName := ⟨RX7, "takeLetter", "()I"⟩
abbrev cX7_takeClause : ByteArray := prog_9_method_17_code
def yX7_takeClause : MethodName := ⟨RX7, "takeClause", "()I"⟩
abbrev cX7_town : ByteArray := prog_9_method_18_code
def yX7_town : MethodName := ⟨RX7, "town", "()I"⟩
abbrev cX7_fault : ByteArray := prog_9_method_19_code
def yX7_fault : MethodName := ⟨RX7, "fault", "()I"⟩
abbrev cX7_farOf : ByteArray := prog_9_method_20_code
def yX7_farOf : MethodName := ⟨RX7, "farOf", "(II)I"⟩
abbrev cX7_nextOf : ByteArray := prog_9_method_21_code
def yX7_nextOf : MethodName := ⟨RX7, "nextOf", "(IZ)I"⟩
abbrev cX7_setHeavy : ByteArray := prog_9_method_22_code
def yX7_setHeavy : MethodName := ⟨RX7, "setHeavy", "()V"⟩
abbrev cX7_putInOrder : ByteArray := prog_9_method_23_code
def yX7_putInOrder : MethodName := ⟨RX7, "putInOrder", "()V"⟩
abbrev cX7_walkFrom : ByteArray := prog_9_method_24_code
def yX7_walkFrom : MethodName := ⟨RX7, "walkFrom", "(II)I"⟩
abbrev cX7_walkNow : ByteArray := prog_9_method_25_code
def yX7_walkNow : MethodName := ⟨RX7, "walkNow", "()I"⟩
abbrev cX7_hadOf : ByteArray := prog_9_method_26_code
def yX7_hadOf : MethodName := ⟨RX7, "hadOf", "(I)I"⟩
abbrev cX7_hadAll : ByteArray := prog_9_method_27_code
def yX7_hadAll : MethodName := ⟨RX7, "hadAll", "()I"⟩
abbrev cX7_stonesAll : ByteArray := prog_9_method_28_code
def yX7_stonesAll : MethodName := ⟨RX7, "stonesAll", "()I"⟩
abbrev cX7_inTimeSet : ByteArray := prog_9_method_29_code
def yX7_inTimeSet : MethodName := ⟨RX7, "inTimeSet", "()I"⟩
abbrev cX7_told : ByteArray := prog_9_method_30_code
def yX7_told : MethodName := ⟨RX7, "told", "(I)I"⟩
abbrev cX7_place : ByteArray := prog_9_method_31_code
def yX7_place : MethodName := ⟨RX7, "place", "(II)I"⟩
abbrev cX7_placeIn : ByteArray := prog_9_method_32_code
def yX7_placeIn : MethodName := ⟨RX7, "placeIn", "(I)I"⟩
abbrev cX7_letter : ByteArray := prog_9_method_33_code
def yX7_letter : MethodName := ⟨RX7, "letter", "(II)I"⟩
abbrev cX7_far : ByteArray := prog_9_method_34_code
def yX7_far : MethodName := ⟨RX7, "far", "(II)I"⟩
abbrev cX7_order : ByteArray := prog_9_method_35_code
def yX7_order : MethodName := ⟨RX7, "order", "(I)I"⟩
abbrev cX7_stones : ByteArray := prog_9_method_36_code
def yX7_stones : MethodName := ⟨RX7, "stones", "(II)I"⟩
abbrev cX7_law : ByteArray := prog_9_method_37_code
def yX7_law : MethodName := ⟨RX7, "law", "(I)I"⟩
abbrev cX7_price : ByteArray := prog_9_method_38_code
def yX7_price : MethodName := ⟨RX7, "price", "(I)I"⟩
abbrev cX7_draw : ByteArray := prog_9_method_39_code
def yX7_draw : MethodName := ⟨RX7, "draw", "(I)I"⟩
abbrev cX7_drift : ByteArray := prog_9_method_40_code
def yX7_drift : MethodName := ⟨RX7, "drift", "(I)I"⟩
abbrev cX7_setOrder : ByteArray := prog_9_method_41_code
def yX7_setOrder : MethodName := ⟨RX7, "setOrder", "(I)Z"⟩
abbrev cX7_stonesFor : ByteArray := prog_9_method_42_code
def yX7_stonesFor : MethodName := ⟨RX7, "stonesFor", "()I"⟩
abbrev cX7_areInTime : ByteArray := prog_9_method_43_code
def yX7_areInTime : MethodName := ⟨RX7, "areInTime", "()Z"⟩
abbrev cX7_findOrder : ByteArray := prog_9_method_44_code
def yX7_findOrder : MethodName := ⟨RX7, "findOrder", "(Z)Z"⟩
abbrev cX7_shortest : ByteArray := prog_9_method_45_code
def yX7_shortest : MethodName := ⟨RX7, "shortest", "(I)I"⟩
abbrev cX7_inTime : ByteArray := prog_9_method_46_code
def yX7_inTime : MethodName := ⟨RX7, "inTime", "(I)I"⟩
abbrev cX7_answerOf : ByteArray := prog_9_method_47_code
def yX7_answerOf : MethodName := ⟨RX7, "answerOf", "(I)I"⟩
abbrev cX7_answer : ByteArray := prog_9_method_48_code
def yX7_answer : MethodName := ⟨RX7, "answer", "(I)I"⟩
abbrev cX7_roundChanges : ByteArray := prog_9_method_49_code
def yX7_roundChanges : MethodName := ⟨RX7, "roundChanges", "()Z"⟩
abbrev cX7_goToRest : ByteArray := prog_9_method_50_code
def yX7_goToRest : MethodName := ⟨RX7, "goToRest", "()I"⟩
abbrev cX7_goBackFromRest : ByteArray := prog_9_method_51_code
def yX7_goBackFromRest : MethodName := ⟨RX7, "goBackFromRest", "()V"⟩
abbrev cX7_rests : ByteArray := prog_9_method_52_code
def yX7_rests : MethodName := ⟨RX7, "rests", "(I)I"⟩
abbrev cX7_best : ByteArray := prog_9_method_53_code
def yX7_best : MethodName := ⟨RX7, "best", "()I"⟩
abbrev cX7_agreed : ByteArray := prog_9_method_54_code
def yX7_agreed : MethodName := ⟨RX7, "agreed", "(II)I"⟩
abbrev cX7_two : ByteArray := prog_9_method_55_code
def yX7_two : MethodName := ⟨RX7, "two", "(I)I"⟩
abbrev cX7_came : ByteArray := prog_9_method_56_code
def yX7_came : MethodName := ⟨RX7, "came", "(I)I"⟩
abbrev cX7_isTold : ByteArray := prog_9_method_57_code
def yX7_isTold : MethodName := ⟨RX7, "isTold", "(II)Z"⟩
abbrev cX7_ends : ByteArray := prog_9_method_58_code
def yX7_ends : MethodName := ⟨RX7, "ends", "(II)I"⟩
abbrev cX7_write : ByteArray := prog_9_method_59_code
def yX7_write : MethodName := ⟨RX7, "write", "(II)I"⟩
abbrev cX7_tear : ByteArray := prog_9_method_60_code
def yX7_tear : MethodName := ⟨RX7, "tear", "()I"⟩
abbrev cX7_judge : ByteArray := prog_9_method_61_code
def yX7_judge : MethodName := ⟨RX7, "judge", "()I"⟩
abbrev cX7_seed : ByteArray := prog_9_method_62_code
def yX7_seed : MethodName := ⟨RX7, "seed", "(I)I"⟩
abbrev cX7_keep : ByteArray := prog_9_method_63_code
def yX7_keep : MethodName := ⟨RX7, "keep", "(I)I"⟩
abbrev cX7_goBack : ByteArray := prog_9_method_64_code
def yX7_goBack : MethodName := ⟨RX7, "goBack", "(I)I"⟩
def RJ9 : String := "java/lang/Math"
def TJ9 : u_T := fun k => match k with
  | _ => ("", "", "", false)
def tyJ9 : Nat → FieldType := fun k => match k with
  | _ => .int
abbrev wsJ90 : List Cond := u_ws RJ9 TJ9 0
theorem nmJ9 : ∀ a, a < 0 → ∀ b, b < 0 → a ≠ b → (TJ9 a).2.1 ≠ (TJ9 b).2.1 := by decide +kernel
theorem tyJ9_ok : ∀ k, k < 0 → parseFieldDescriptor (TJ9 k).2.2.1 = some (tyJ9 k) := by decide +kernel
abbrev cJ9_abs_0f7a4 : ByteArray := prog_10_method_59_code
def yJ9_abs_0f7a4 : MethodName := ⟨RJ9, "abs", "(I)I"⟩
abbrev cJ9_max_7cf53 : ByteArray := prog_10_method_65_code
def yJ9_max_7cf53 : MethodName := ⟨RJ9, "max", "(II)I"⟩
def RJ0 : String := "java/lang/String"
def TJ0 : u_T := fun k => match k with
  | _ => ("", "", "", false)
def tyJ0 : Nat → FieldType := fun k => match k with
  | _ => .int
abbrev wsJ00 : List Cond := u_ws RJ0 TJ0 0
theorem nmJ0 : ∀ a, a < 0 → ∀ b, b < 0 → a ≠ b → (TJ0 a).2.1 ≠ (TJ0 b).2.1 := by decide +kernel
theorem tyJ0_ok : ∀ k, k < 0 → parseFieldDescriptor (TJ0 k).2.2.1 = some (tyJ0 k) := by decide +kernel
abbrev cJ0_length_8abf5 : ByteArray := prog_11_method_54_code
def yJ0_length_8abf5 : MethodName := ⟨RJ0, "length", "()I"⟩
abbrev cJ0_charAt_5068e : ByteArray := prog_11_method_56_code
def yJ0_charAt_5068e : MethodName := ⟨RJ0, "charAt", "(I)C"⟩
abbrev cJ0_coder_7d493 : ByteArray := prog_11_method_152_code
def yJ0_coder_7d493 : MethodName := ⟨RJ0, "coder", "()B"⟩
abbrev cJ0_isLatin1_aae02 : ByteArray := prog_11_method_154_code
def yJ0_isLatin1_aae02 : MethodName := ⟨RJ0, "isLatin1", "()Z"⟩
abbrev cJ0_checkIndex_df160 : ByteArray := prog_11_method_155_code
def yJ0_checkIndex_df160 : MethodName := ⟨RJ0, "checkIndex", "(II)V"⟩
def RJ1 : String := "java/lang/StringLatin1"
def TJ1 : u_T := fun k => match k with
  | _ => ("", "", "", false)
def tyJ1 : Nat → FieldType := fun k => match k with
  | _ => .int
abbrev wsJ10 : List Cond := u_ws RJ1 TJ1 0
theorem nmJ1 : ∀ a, a < 0 → ∀ b, b < 0 → a ≠ b → (TJ1 a).2.1 ≠ (TJ1 b).2.1 := by decide +kernel
theorem tyJ1_ok : ∀ k, k < 0 → parseFieldDescriptor (TJ1 k).2.2.1 = some (tyJ1 k) := by decide +kernel
abbrev cJ1_charAt_3b067 : ByteArray := prog_12_method_2_code
def yJ1_charAt_3b067 : MethodName := ⟨RJ1, "charAt", "([BI)C"⟩
def RJ2 : String := "java/lang/StringUTF16"
def TJ2 : u_T := fun k => match k with
  | _ => ("", "", "", false)
def tyJ2 : Nat → FieldType := fun k => match k with
  | _ => .int
abbrev wsJ20 : List Cond := u_ws RJ2 TJ2 0
theorem nmJ2 : ∀ a, a < 0 → ∀ b, b < 0 → a ≠ b → (TJ2 a).2.1 ≠ (TJ2 b).2.1 := by decide +kernel
theorem tyJ2_ok : ∀ k, k < 0 → parseFieldDescriptor (TJ2 k).2.2.1 = some (tyJ2 k) := by decide +kernel
abbrev cJ2_getChar_3b067 : ByteArray := prog_13_method_5_code
def yJ2_getChar_3b067 : MethodName := ⟨RJ2, "getChar", "([BI)C"⟩
abbrev cJ2_length_9d52b : ByteArray := prog_13_method_6_code
def yJ2_length_9d52b : MethodName := ⟨RJ2, "length", "([B)I"⟩
abbrev cJ2_charAt_3b067 : ByteArray := prog_13_method_83_code
def yJ2_charAt_3b067 : MethodName := ⟨RJ2, "charAt", "([BI)C"⟩
abbrev cJ2_checkIndex_2214a : ByteArray := prog_13_method_91_code
def yJ2_checkIndex_2214a : MethodName := ⟨RJ2, "checkIndex", "(I[B)V"⟩
def RJ3 : String := "jdk/internal/util/Preconditions"
def TJ3 : u_T := fun k => match k with
  | _ => ("", "", "", false)
def tyJ3 : Nat → FieldType := fun k => match k with
  | _ => .int
abbrev wsJ30 : List Cond := u_ws RJ3 TJ3 0
theorem nmJ3 : ∀ a, a < 0 → ∀ b, b < 0 → a ≠ b → (TJ3 a).2.1 ≠ (TJ3 b).2.1 := by decide +kernel
theorem tyJ3_ok : ∀ k, k < 0 → parseFieldDescriptor (TJ3 k).2.2.1 = some (tyJ3 k) := by decide +kernel
abbrev cJ3_checkIndex_8e157 : ByteArray := prog_14_method_11_code
def yJ3_checkIndex_8e157 : MethodName := ⟨RJ3, "checkIndex", "(IILjava/util/function/BiFunction;)I"⟩
def RL : String := "HeaviestFirstLaw"
abbrev cL_law : ByteArray := code
def yL_law : MethodName := ⟨RL, "law", "([I)Z"⟩
abbrev vwCl : List vw_C := [(RX0, TX0, 7), (RX1, TX1, 7), (RX2, TX2, 4), (RX3, TX3, 6), (RX4, TX4, 4), (RX5, TX5, 12), (RX6, TX6, 13), (RX7, TX7, 43)]
theorem inX0 : ∀ w ∈ wsX00, w ∈ lw_tbl := by decide +kernel
theorem inX1 : ∀ w ∈ wsX10, w ∈ lw_tbl := by decide +kernel
theorem inX2 : ∀ w ∈ wsX20, w ∈ lw_tbl := by decide +kernel
theorem inX3 : ∀ w ∈ wsX30, w ∈ lw_tbl := by decide +kernel
theorem inX4 : ∀ w ∈ wsX40, w ∈ lw_tbl := by decide +kernel
theorem inX5 : ∀ w ∈ wsX50, w ∈ lw_tbl := by decide +kernel
theorem inX6 : ∀ w ∈ wsX60, w ∈ lw_tbl := by decide +kernel
theorem inX7 : ∀ w ∈ wsX70, w ∈ lw_tbl := by decide +kernel
