-- ===== PART A: goes FIRST, ahead of the names: the tables' words, and 'selects' of the private methods out of them =====
/-- a private method of a class that the tables say can be made, by its rows of tables_1 -/
def lw_okq (q : MethodName × Nat) : Prop := (q.1.cls ≠ "java/lang/invoke/MethodHandle" ∧ q.1.cls ≠ "java/lang/invoke/VarHandle") ∧ Cond.instantiable q.1.cls q.2 ∈ tables_1 ∧ Cond.privateMethod q.1 ∈ tables_1 ∧ Cond.instanceMethod q.1 ∈ tables_1
theorem lw_p0 : lw_okq (⟨"RemoteDesks", "feedNumber", "(I)V"⟩, 16) := ⟨⟨by decide +kernel, by decide +kernel⟩, List.mem_of_getElem? (i := 24) (by decide +kernel), List.mem_of_getElem? (i := 239) (by decide +kernel), List.mem_of_getElem? (i := 240) (by decide +kernel)⟩
theorem lw_p1 : lw_okq (⟨"RemoteDesks$BookReader", "next", "()V"⟩, 9) := ⟨⟨by decide +kernel, by decide +kernel⟩, List.mem_of_getElem? (i := 253) (by decide +kernel), List.mem_of_getElem? (i := 299) (by decide +kernel), List.mem_of_getElem? (i := 300) (by decide +kernel)⟩
theorem lw_p2 : lw_okq (⟨"RemoteDesks$BookReader", "readWord", "()I"⟩, 9) := ⟨⟨by decide +kernel, by decide +kernel⟩, List.mem_of_getElem? (i := 253) (by decide +kernel), List.mem_of_getElem? (i := 306) (by decide +kernel), List.mem_of_getElem? (i := 307) (by decide +kernel)⟩
theorem lw_p3 : lw_okq (⟨"RemoteDesks$BookReader", "readKind", "()Z"⟩, 9) := ⟨⟨by decide +kernel, by decide +kernel⟩, List.mem_of_getElem? (i := 253) (by decide +kernel), List.mem_of_getElem? (i := 315) (by decide +kernel), List.mem_of_getElem? (i := 316) (by decide +kernel)⟩
theorem lw_p4 : lw_okq (⟨"RemoteDesks$BookReader", "canBeTold", "(II)Z"⟩, 9) := ⟨⟨by decide +kernel, by decide +kernel⟩, List.mem_of_getElem? (i := 253) (by decide +kernel), List.mem_of_getElem? (i := 319) (by decide +kernel), List.mem_of_getElem? (i := 320) (by decide +kernel)⟩
theorem lw_p5 : lw_okq (⟨"RemoteDesks$BookReader", "stray", "()Z"⟩, 9) := ⟨⟨by decide +kernel, by decide +kernel⟩, List.mem_of_getElem? (i := 253) (by decide +kernel), List.mem_of_getElem? (i := 323) (by decide +kernel), List.mem_of_getElem? (i := 324) (by decide +kernel)⟩
theorem lw_p6 : lw_okq (⟨"RemoteDesks$BookReader", "flaw", "(I)Z"⟩, 9) := ⟨⟨by decide +kernel, by decide +kernel⟩, List.mem_of_getElem? (i := 253) (by decide +kernel), List.mem_of_getElem? (i := 327) (by decide +kernel), List.mem_of_getElem? (i := 328) (by decide +kernel)⟩
theorem lw_p7 : lw_okq (⟨"RemoteDesks$BookReader", "pass", "(I)Z"⟩, 9) := ⟨⟨by decide +kernel, by decide +kernel⟩, List.mem_of_getElem? (i := 253) (by decide +kernel), List.mem_of_getElem? (i := 344) (by decide +kernel), List.mem_of_getElem? (i := 345) (by decide +kernel)⟩
theorem lw_p8 : lw_okq (⟨"RemoteDesks$BookReader", "readRecord", "()Z"⟩, 9) := ⟨⟨by decide +kernel, by decide +kernel⟩, List.mem_of_getElem? (i := 253) (by decide +kernel), List.mem_of_getElem? (i := 348) (by decide +kernel), List.mem_of_getElem? (i := 349) (by decide +kernel)⟩
theorem lw_p9 : lw_okq (⟨"RemoteDesks$BookReader", "readField", "(II)Z"⟩, 9) := ⟨⟨by decide +kernel, by decide +kernel⟩, List.mem_of_getElem? (i := 253) (by decide +kernel), List.mem_of_getElem? (i := 352) (by decide +kernel), List.mem_of_getElem? (i := 353) (by decide +kernel)⟩
theorem lw_p10 : lw_okq (⟨"RemoteDesks$BookReader", "sortAtHand", "()I"⟩, 9) := ⟨⟨by decide +kernel, by decide +kernel⟩, List.mem_of_getElem? (i := 253) (by decide +kernel), List.mem_of_getElem? (i := 356) (by decide +kernel), List.mem_of_getElem? (i := 357) (by decide +kernel)⟩
theorem lw_p11 : lw_okq (⟨"RemoteDesks$BookReader", "isSortLike", "()Z"⟩, 9) := ⟨⟨by decide +kernel, by decide +kernel⟩, List.mem_of_getElem? (i := 253) (by decide +kernel), List.mem_of_getElem? (i := 361) (by decide +kernel), List.mem_of_getElem? (i := 362) (by decide +kernel)⟩
theorem lw_p12 : lw_okq (⟨"RemoteDesks$BookReader", "sortFlaw", "()Z"⟩, 9) := ⟨⟨by decide +kernel, by decide +kernel⟩, List.mem_of_getElem? (i := 253) (by decide +kernel), List.mem_of_getElem? (i := 365) (by decide +kernel), List.mem_of_getElem? (i := 366) (by decide +kernel)⟩
theorem lw_p13 : lw_okq (⟨"RemoteDesks$BookReader", "canBeMember", "(II)Z"⟩, 9) := ⟨⟨by decide +kernel, by decide +kernel⟩, List.mem_of_getElem? (i := 253) (by decide +kernel), List.mem_of_getElem? (i := 369) (by decide +kernel), List.mem_of_getElem? (i := 370) (by decide +kernel)⟩
theorem lw_p14 : lw_okq (⟨"RemoteDesks$BookReader", "readService", "()Z"⟩, 9) := ⟨⟨by decide +kernel, by decide +kernel⟩, List.mem_of_getElem? (i := 253) (by decide +kernel), List.mem_of_getElem? (i := 373) (by decide +kernel), List.mem_of_getElem? (i := 374) (by decide +kernel)⟩
theorem lw_p15 : lw_okq (⟨"RemoteDesks$BookReader", "readMethod", "(II)Z"⟩, 9) := ⟨⟨by decide +kernel, by decide +kernel⟩, List.mem_of_getElem? (i := 253) (by decide +kernel), List.mem_of_getElem? (i := 377) (by decide +kernel), List.mem_of_getElem? (i := 378) (by decide +kernel)⟩
def lw_privs_1 : List (MethodName × Nat) := [(⟨"RemoteDesks", "feedNumber", "(I)V"⟩, 16), (⟨"RemoteDesks$BookReader", "next", "()V"⟩, 9), (⟨"RemoteDesks$BookReader", "readWord", "()I"⟩, 9), (⟨"RemoteDesks$BookReader", "readKind", "()Z"⟩, 9), (⟨"RemoteDesks$BookReader", "canBeTold", "(II)Z"⟩, 9), (⟨"RemoteDesks$BookReader", "stray", "()Z"⟩, 9), (⟨"RemoteDesks$BookReader", "flaw", "(I)Z"⟩, 9), (⟨"RemoteDesks$BookReader", "pass", "(I)Z"⟩, 9), (⟨"RemoteDesks$BookReader", "readRecord", "()Z"⟩, 9), (⟨"RemoteDesks$BookReader", "readField", "(II)Z"⟩, 9), (⟨"RemoteDesks$BookReader", "sortAtHand", "()I"⟩, 9), (⟨"RemoteDesks$BookReader", "isSortLike", "()Z"⟩, 9), (⟨"RemoteDesks$BookReader", "sortFlaw", "()Z"⟩, 9), (⟨"RemoteDesks$BookReader", "canBeMember", "(II)Z"⟩, 9), (⟨"RemoteDesks$BookReader", "readService", "()Z"⟩, 9), (⟨"RemoteDesks$BookReader", "readMethod", "(II)Z"⟩, 9)]
theorem lw_r1 : ∀ q ∈ lw_privs_1, lw_okq q := List.forall_mem_cons.mpr ⟨lw_p0, List.forall_mem_cons.mpr ⟨lw_p1, List.forall_mem_cons.mpr ⟨lw_p2, List.forall_mem_cons.mpr ⟨lw_p3, List.forall_mem_cons.mpr ⟨lw_p4, List.forall_mem_cons.mpr ⟨lw_p5, List.forall_mem_cons.mpr ⟨lw_p6, List.forall_mem_cons.mpr ⟨lw_p7, List.forall_mem_cons.mpr ⟨lw_p8, List.forall_mem_cons.mpr ⟨lw_p9, List.forall_mem_cons.mpr ⟨lw_p10, List.forall_mem_cons.mpr ⟨lw_p11, List.forall_mem_cons.mpr ⟨lw_p12, List.forall_mem_cons.mpr ⟨lw_p13, List.forall_mem_cons.mpr ⟨lw_p14, List.forall_mem_cons.mpr ⟨lw_p15, fun _ h => absurd h List.not_mem_nil⟩⟩⟩⟩⟩⟩⟩⟩⟩⟩⟩⟩⟩⟩⟩⟩
theorem lw_p16 : lw_okq (⟨"RemoteDesks$BookReader", "readArguments", "(I)Z"⟩, 9) := ⟨⟨by decide +kernel, by decide +kernel⟩, List.mem_of_getElem? (i := 253) (by decide +kernel), List.mem_of_getElem? (i := 381) (by decide +kernel), List.mem_of_getElem? (i := 382) (by decide +kernel)⟩
theorem lw_p17 : lw_okq (⟨"java/util/ArrayList", "add", "(Ljava/lang/Object;[Ljava/lang/Object;I)V"⟩, 3) := ⟨⟨by decide +kernel, by decide +kernel⟩, List.mem_of_getElem? (i := 102) (by decide +kernel), List.mem_of_getElem? (i := 456) (by decide +kernel), List.mem_of_getElem? (i := 457) (by decide +kernel)⟩
theorem lw_p18 : lw_okq (⟨"java/util/ArrayList", "grow", "()[Ljava/lang/Object;"⟩, 3) := ⟨⟨by decide +kernel, by decide +kernel⟩, List.mem_of_getElem? (i := 102) (by decide +kernel), List.mem_of_getElem? (i := 460) (by decide +kernel), List.mem_of_getElem? (i := 461) (by decide +kernel)⟩
theorem lw_p19 : lw_okq (⟨"java/util/ArrayList", "grow", "(I)[Ljava/lang/Object;"⟩, 3) := ⟨⟨by decide +kernel, by decide +kernel⟩, List.mem_of_getElem? (i := 102) (by decide +kernel), List.mem_of_getElem? (i := 464) (by decide +kernel), List.mem_of_getElem? (i := 465) (by decide +kernel)⟩
theorem lw_p20 : lw_okq (⟨"RemoteDesks", "fieldAt", "(II)LRemoteDesks$Value;"⟩, 16) := ⟨⟨by decide +kernel, by decide +kernel⟩, List.mem_of_getElem? (i := 24) (by decide +kernel), List.mem_of_getElem? (i := 515) (by decide +kernel), List.mem_of_getElem? (i := 516) (by decide +kernel)⟩
theorem lw_p21 : lw_okq (⟨"RemoteDesks", "nodeAt", "(J)LRemoteDesks$Node;"⟩, 16) := ⟨⟨by decide +kernel, by decide +kernel⟩, List.mem_of_getElem? (i := 24) (by decide +kernel), List.mem_of_getElem? (i := 519) (by decide +kernel), List.mem_of_getElem? (i := 520) (by decide +kernel)⟩
theorem lw_p22 : lw_okq (⟨"RemoteDesks", "isOf", "(IJ)Z"⟩, 16) := ⟨⟨by decide +kernel, by decide +kernel⟩, List.mem_of_getElem? (i := 24) (by decide +kernel), List.mem_of_getElem? (i := 537) (by decide +kernel), List.mem_of_getElem? (i := 538) (by decide +kernel)⟩
theorem lw_p23 : lw_okq (⟨"RemoteDesks", "sortOfNamed", "(IJ)I"⟩, 16) := ⟨⟨by decide +kernel, by decide +kernel⟩, List.mem_of_getElem? (i := 24) (by decide +kernel), List.mem_of_getElem? (i := 542) (by decide +kernel), List.mem_of_getElem? (i := 543) (by decide +kernel)⟩
theorem lw_p24 : lw_okq (⟨"RemoteDesks", "thingAt", "(J)LRemoteDesks$Thing;"⟩, 16) := ⟨⟨by decide +kernel, by decide +kernel⟩, List.mem_of_getElem? (i := 24) (by decide +kernel), List.mem_of_getElem? (i := 546) (by decide +kernel), List.mem_of_getElem? (i := 547) (by decide +kernel)⟩
theorem lw_p25 : lw_okq (⟨"RemoteDesks", "makeValue", "(IJ)LRemoteDesks$Value;"⟩, 16) := ⟨⟨by decide +kernel, by decide +kernel⟩, List.mem_of_getElem? (i := 24) (by decide +kernel), List.mem_of_getElem? (i := 551) (by decide +kernel), List.mem_of_getElem? (i := 552) (by decide +kernel)⟩
theorem lw_p26 : lw_okq (⟨"RemoteDesks", "deskAt", "(I)LRemoteDesks$Desk;"⟩, 16) := ⟨⟨by decide +kernel, by decide +kernel⟩, List.mem_of_getElem? (i := 24) (by decide +kernel), List.mem_of_getElem? (i := 654) (by decide +kernel), List.mem_of_getElem? (i := 655) (by decide +kernel)⟩
theorem lw_p27 : lw_okq (⟨"RemoteDesks", "failureAt", "(I)LRemoteDesks$Failure;"⟩, 16) := ⟨⟨by decide +kernel, by decide +kernel⟩, List.mem_of_getElem? (i := 24) (by decide +kernel), List.mem_of_getElem? (i := 658) (by decide +kernel), List.mem_of_getElem? (i := 659) (by decide +kernel)⟩
theorem lw_p28 : lw_okq (⟨"RemoteDesks", "allSizesFit", "()Z"⟩, 16) := ⟨⟨by decide +kernel, by decide +kernel⟩, List.mem_of_getElem? (i := 24) (by decide +kernel), List.mem_of_getElem? (i := 744) (by decide +kernel), List.mem_of_getElem? (i := 745) (by decide +kernel)⟩
theorem lw_p29 : lw_okq (⟨"RemoteDesks", "holders", "(LRemoteDesks$Thing;)I"⟩, 16) := ⟨⟨by decide +kernel, by decide +kernel⟩, List.mem_of_getElem? (i := 24) (by decide +kernel), List.mem_of_getElem? (i := 772) (by decide +kernel), List.mem_of_getElem? (i := 773) (by decide +kernel)⟩
theorem lw_p30 : lw_okq (⟨"RemoteDesks", "handValues", "()[LRemoteDesks$Value;"⟩, 16) := ⟨⟨by decide +kernel, by decide +kernel⟩, List.mem_of_getElem? (i := 24) (by decide +kernel), List.mem_of_getElem? (i := 784) (by decide +kernel), List.mem_of_getElem? (i := 785) (by decide +kernel)⟩
theorem lw_p31 : lw_okq (⟨"RemoteDesks", "writeRequest", "(LRemoteDesks$Desk;LRemoteDesks$Thing;I[LRemoteDesks$Value;)Z"⟩, 16) := ⟨⟨by decide +kernel, by decide +kernel⟩, List.mem_of_getElem? (i := 24) (by decide +kernel), List.mem_of_getElem? (i := 796) (by decide +kernel), List.mem_of_getElem? (i := 797) (by decide +kernel)⟩
def lw_privs_2 : List (MethodName × Nat) := [(⟨"RemoteDesks$BookReader", "readArguments", "(I)Z"⟩, 9), (⟨"java/util/ArrayList", "add", "(Ljava/lang/Object;[Ljava/lang/Object;I)V"⟩, 3), (⟨"java/util/ArrayList", "grow", "()[Ljava/lang/Object;"⟩, 3), (⟨"java/util/ArrayList", "grow", "(I)[Ljava/lang/Object;"⟩, 3), (⟨"RemoteDesks", "fieldAt", "(II)LRemoteDesks$Value;"⟩, 16), (⟨"RemoteDesks", "nodeAt", "(J)LRemoteDesks$Node;"⟩, 16), (⟨"RemoteDesks", "isOf", "(IJ)Z"⟩, 16), (⟨"RemoteDesks", "sortOfNamed", "(IJ)I"⟩, 16), (⟨"RemoteDesks", "thingAt", "(J)LRemoteDesks$Thing;"⟩, 16), (⟨"RemoteDesks", "makeValue", "(IJ)LRemoteDesks$Value;"⟩, 16), (⟨"RemoteDesks", "deskAt", "(I)LRemoteDesks$Desk;"⟩, 16), (⟨"RemoteDesks", "failureAt", "(I)LRemoteDesks$Failure;"⟩, 16), (⟨"RemoteDesks", "allSizesFit", "()Z"⟩, 16), (⟨"RemoteDesks", "holders", "(LRemoteDesks$Thing;)I"⟩, 16), (⟨"RemoteDesks", "handValues", "()[LRemoteDesks$Value;"⟩, 16), (⟨"RemoteDesks", "writeRequest", "(LRemoteDesks$Desk;LRemoteDesks$Thing;I[LRemoteDesks$Value;)Z"⟩, 16)]
theorem lw_r2 : ∀ q ∈ lw_privs_2, lw_okq q := List.forall_mem_cons.mpr ⟨lw_p16, List.forall_mem_cons.mpr ⟨lw_p17, List.forall_mem_cons.mpr ⟨lw_p18, List.forall_mem_cons.mpr ⟨lw_p19, List.forall_mem_cons.mpr ⟨lw_p20, List.forall_mem_cons.mpr ⟨lw_p21, List.forall_mem_cons.mpr ⟨lw_p22, List.forall_mem_cons.mpr ⟨lw_p23, List.forall_mem_cons.mpr ⟨lw_p24, List.forall_mem_cons.mpr ⟨lw_p25, List.forall_mem_cons.mpr ⟨lw_p26, List.forall_mem_cons.mpr ⟨lw_p27, List.forall_mem_cons.mpr ⟨lw_p28, List.forall_mem_cons.mpr ⟨lw_p29, List.forall_mem_cons.mpr ⟨lw_p30, List.forall_mem_cons.mpr ⟨lw_p31, fun _ h => absurd h List.not_mem_nil⟩⟩⟩⟩⟩⟩⟩⟩⟩⟩⟩⟩⟩⟩⟩⟩
theorem lw_p32 : lw_okq (⟨"RemoteDesks$Writer", "putBytes", "([B)V"⟩, 5) := ⟨⟨by decide +kernel, by decide +kernel⟩, List.mem_of_getElem? (i := 162) (by decide +kernel), List.mem_of_getElem? (i := 816) (by decide +kernel), List.mem_of_getElem? (i := 817) (by decide +kernel)⟩
theorem lw_p33 : lw_okq (⟨"RemoteDesks$Writer", "putNode", "(ILjava/util/ArrayList;)V"⟩, 5) := ⟨⟨by decide +kernel, by decide +kernel⟩, List.mem_of_getElem? (i := 162) (by decide +kernel), List.mem_of_getElem? (i := 821) (by decide +kernel), List.mem_of_getElem? (i := 822) (by decide +kernel)⟩
theorem lw_p34 : lw_okq (⟨"RemoteDesks", "addCall", "(LRemoteDesks$Desk;LRemoteDesks$Desk;LRemoteDesks$Thing;ILRemoteDesks$Call;)LRemoteDesks$Call;"⟩, 16) := ⟨⟨by decide +kernel, by decide +kernel⟩, List.mem_of_getElem? (i := 24) (by decide +kernel), List.mem_of_getElem? (i := 831) (by decide +kernel), List.mem_of_getElem? (i := 832) (by decide +kernel)⟩
theorem lw_p35 : lw_okq (⟨"RemoteDesks", "sendRequest", "(LRemoteDesks$Call;)V"⟩, 16) := ⟨⟨by decide +kernel, by decide +kernel⟩, List.mem_of_getElem? (i := 24) (by decide +kernel), List.mem_of_getElem? (i := 911) (by decide +kernel), List.mem_of_getElem? (i := 912) (by decide +kernel)⟩
theorem lw_p36 : lw_okq (⟨"RemoteDesks", "sendMessage", "(LRemoteDesks$Call;I[B)V"⟩, 16) := ⟨⟨by decide +kernel, by decide +kernel⟩, List.mem_of_getElem? (i := 24) (by decide +kernel), List.mem_of_getElem? (i := 915) (by decide +kernel), List.mem_of_getElem? (i := 916) (by decide +kernel)⟩
theorem lw_p37 : lw_okq (⟨"RemoteDesks", "perform", "(LRemoteDesks$Call;[LRemoteDesks$Value;)V"⟩, 16) := ⟨⟨by decide +kernel, by decide +kernel⟩, List.mem_of_getElem? (i := 24) (by decide +kernel), List.mem_of_getElem? (i := 934) (by decide +kernel), List.mem_of_getElem? (i := 935) (by decide +kernel)⟩
theorem lw_p38 : lw_okq (⟨"RemoteDesks", "endDeed", "(LRemoteDesks$Call;LRemoteDesks$Value;[I)V"⟩, 16) := ⟨⟨by decide +kernel, by decide +kernel⟩, List.mem_of_getElem? (i := 24) (by decide +kernel), List.mem_of_getElem? (i := 944) (by decide +kernel), List.mem_of_getElem? (i := 945) (by decide +kernel)⟩
theorem lw_p39 : lw_okq (⟨"RemoteDesks", "putOnShelf", "(LRemoteDesks$Call;LRemoteDesks$Value;[I)V"⟩, 16) := ⟨⟨by decide +kernel, by decide +kernel⟩, List.mem_of_getElem? (i := 24) (by decide +kernel), List.mem_of_getElem? (i := 948) (by decide +kernel), List.mem_of_getElem? (i := 949) (by decide +kernel)⟩
theorem lw_p40 : lw_okq (⟨"RemoteDesks", "answerSort", "(LRemoteDesks$Call;)I"⟩, 16) := ⟨⟨by decide +kernel, by decide +kernel⟩, List.mem_of_getElem? (i := 24) (by decide +kernel), List.mem_of_getElem? (i := 963) (by decide +kernel), List.mem_of_getElem? (i := 964) (by decide +kernel)⟩
theorem lw_p41 : lw_okq (⟨"RemoteDesks", "answerOf", "(LRemoteDesks$Thing;I[LRemoteDesks$Value;)LRemoteDesks$Value;"⟩, 16) := ⟨⟨by decide +kernel, by decide +kernel⟩, List.mem_of_getElem? (i := 24) (by decide +kernel), List.mem_of_getElem? (i := 967) (by decide +kernel), List.mem_of_getElem? (i := 968) (by decide +kernel)⟩
theorem lw_p42 : lw_okq (⟨"RemoteDesks", "keepLast", "(LRemoteDesks$Thing;I[LRemoteDesks$Value;)LRemoteDesks$Value;"⟩, 16) := ⟨⟨by decide +kernel, by decide +kernel⟩, List.mem_of_getElem? (i := 24) (by decide +kernel), List.mem_of_getElem? (i := 982) (by decide +kernel), List.mem_of_getElem? (i := 983) (by decide +kernel)⟩
theorem lw_p43 : lw_okq (⟨"RemoteDesks", "raiseReached", "([LRemoteDesks$Value;)V"⟩, 16) := ⟨⟨by decide +kernel, by decide +kernel⟩, List.mem_of_getElem? (i := 24) (by decide +kernel), List.mem_of_getElem? (i := 986) (by decide +kernel), List.mem_of_getElem? (i := 987) (by decide +kernel)⟩
theorem lw_p44 : lw_okq (⟨"RemoteDesks", "relayFault", "(LRemoteDesks$Call;LRemoteDesks$Thing;LRemoteDesks$Thing;[LRemoteDesks$Value;)I"⟩, 16) := ⟨⟨by decide +kernel, by decide +kernel⟩, List.mem_of_getElem? (i := 24) (by decide +kernel), List.mem_of_getElem? (i := 1008) (by decide +kernel), List.mem_of_getElem? (i := 1009) (by decide +kernel)⟩
theorem lw_p45 : lw_okq (⟨"RemoteDesks", "callAt", "(I)LRemoteDesks$Call;"⟩, 16) := ⟨⟨by decide +kernel, by decide +kernel⟩, List.mem_of_getElem? (i := 24) (by decide +kernel), List.mem_of_getElem? (i := 1016) (by decide +kernel), List.mem_of_getElem? (i := 1017) (by decide +kernel)⟩
theorem lw_p46 : lw_okq (⟨"RemoteDesks", "takeRequest", "(LRemoteDesks$Call;LRemoteDesks$Incoming;)V"⟩, 16) := ⟨⟨by decide +kernel, by decide +kernel⟩, List.mem_of_getElem? (i := 24) (by decide +kernel), List.mem_of_getElem? (i := 1100) (by decide +kernel), List.mem_of_getElem? (i := 1101) (by decide +kernel)⟩
theorem lw_p47 : lw_okq (⟨"RemoteDesks", "deliver", "(LRemoteDesks$Call;LRemoteDesks$Incoming;)V"⟩, 16) := ⟨⟨by decide +kernel, by decide +kernel⟩, List.mem_of_getElem? (i := 24) (by decide +kernel), List.mem_of_getElem? (i := 1114) (by decide +kernel), List.mem_of_getElem? (i := 1115) (by decide +kernel)⟩
def lw_privs_3 : List (MethodName × Nat) := [(⟨"RemoteDesks$Writer", "putBytes", "([B)V"⟩, 5), (⟨"RemoteDesks$Writer", "putNode", "(ILjava/util/ArrayList;)V"⟩, 5), (⟨"RemoteDesks", "addCall", "(LRemoteDesks$Desk;LRemoteDesks$Desk;LRemoteDesks$Thing;ILRemoteDesks$Call;)LRemoteDesks$Call;"⟩, 16), (⟨"RemoteDesks", "sendRequest", "(LRemoteDesks$Call;)V"⟩, 16), (⟨"RemoteDesks", "sendMessage", "(LRemoteDesks$Call;I[B)V"⟩, 16), (⟨"RemoteDesks", "perform", "(LRemoteDesks$Call;[LRemoteDesks$Value;)V"⟩, 16), (⟨"RemoteDesks", "endDeed", "(LRemoteDesks$Call;LRemoteDesks$Value;[I)V"⟩, 16), (⟨"RemoteDesks", "putOnShelf", "(LRemoteDesks$Call;LRemoteDesks$Value;[I)V"⟩, 16), (⟨"RemoteDesks", "answerSort", "(LRemoteDesks$Call;)I"⟩, 16), (⟨"RemoteDesks", "answerOf", "(LRemoteDesks$Thing;I[LRemoteDesks$Value;)LRemoteDesks$Value;"⟩, 16), (⟨"RemoteDesks", "keepLast", "(LRemoteDesks$Thing;I[LRemoteDesks$Value;)LRemoteDesks$Value;"⟩, 16), (⟨"RemoteDesks", "raiseReached", "([LRemoteDesks$Value;)V"⟩, 16), (⟨"RemoteDesks", "relayFault", "(LRemoteDesks$Call;LRemoteDesks$Thing;LRemoteDesks$Thing;[LRemoteDesks$Value;)I"⟩, 16), (⟨"RemoteDesks", "callAt", "(I)LRemoteDesks$Call;"⟩, 16), (⟨"RemoteDesks", "takeRequest", "(LRemoteDesks$Call;LRemoteDesks$Incoming;)V"⟩, 16), (⟨"RemoteDesks", "deliver", "(LRemoteDesks$Call;LRemoteDesks$Incoming;)V"⟩, 16)]
theorem lw_r3 : ∀ q ∈ lw_privs_3, lw_okq q := List.forall_mem_cons.mpr ⟨lw_p32, List.forall_mem_cons.mpr ⟨lw_p33, List.forall_mem_cons.mpr ⟨lw_p34, List.forall_mem_cons.mpr ⟨lw_p35, List.forall_mem_cons.mpr ⟨lw_p36, List.forall_mem_cons.mpr ⟨lw_p37, List.forall_mem_cons.mpr ⟨lw_p38, List.forall_mem_cons.mpr ⟨lw_p39, List.forall_mem_cons.mpr ⟨lw_p40, List.forall_mem_cons.mpr ⟨lw_p41, List.forall_mem_cons.mpr ⟨lw_p42, List.forall_mem_cons.mpr ⟨lw_p43, List.forall_mem_cons.mpr ⟨lw_p44, List.forall_mem_cons.mpr ⟨lw_p45, List.forall_mem_cons.mpr ⟨lw_p46, List.forall_mem_cons.mpr ⟨lw_p47, fun _ h => absurd h List.not_mem_nil⟩⟩⟩⟩⟩⟩⟩⟩⟩⟩⟩⟩⟩⟩⟩⟩
theorem lw_p48 : lw_okq (⟨"RemoteDesks", "come", "(LRemoteDesks$Desk;LRemoteDesks$Incoming;[I)[LRemoteDesks$Value;"⟩, 16) := ⟨⟨by decide +kernel, by decide +kernel⟩, List.mem_of_getElem? (i := 24) (by decide +kernel), List.mem_of_getElem? (i := 1137) (by decide +kernel), List.mem_of_getElem? (i := 1138) (by decide +kernel)⟩
theorem lw_p49 : lw_okq (⟨"RemoteDesks$Incoming", "readText", "()[B"⟩, 8) := ⟨⟨by decide +kernel, by decide +kernel⟩, List.mem_of_getElem? (i := 1057) (by decide +kernel), List.mem_of_getElem? (i := 1149) (by decide +kernel), List.mem_of_getElem? (i := 1150) (by decide +kernel)⟩
theorem lw_p50 : lw_okq (⟨"RemoteDesks$Incoming", "readNode", "(ILRemoteDesks$Book;Ljava/util/ArrayList;)I"⟩, 8) := ⟨⟨by decide +kernel, by decide +kernel⟩, List.mem_of_getElem? (i := 1057) (by decide +kernel), List.mem_of_getElem? (i := 1155) (by decide +kernel), List.mem_of_getElem? (i := 1156) (by decide +kernel)⟩
theorem lw_p51 : lw_okq (⟨"java/util/ArrayList", "fastRemove", "([Ljava/lang/Object;I)V"⟩, 3) := ⟨⟨by decide +kernel, by decide +kernel⟩, List.mem_of_getElem? (i := 102) (by decide +kernel), List.mem_of_getElem? (i := 1168) (by decide +kernel), List.mem_of_getElem? (i := 1169) (by decide +kernel)⟩
theorem lw_p52 : lw_okq (⟨"RemoteDesks", "giveAll", "(LRemoteDesks$Desk;[LRemoteDesks$Value;)V"⟩, 16) := ⟨⟨by decide +kernel, by decide +kernel⟩, List.mem_of_getElem? (i := 24) (by decide +kernel), List.mem_of_getElem? (i := 1173) (by decide +kernel), List.mem_of_getElem? (i := 1174) (by decide +kernel)⟩
theorem lw_p53 : lw_okq (⟨"RemoteDesks", "takeAnswer", "(LRemoteDesks$Call;LRemoteDesks$Incoming;)V"⟩, 16) := ⟨⟨by decide +kernel, by decide +kernel⟩, List.mem_of_getElem? (i := 24) (by decide +kernel), List.mem_of_getElem? (i := 1177) (by decide +kernel), List.mem_of_getElem? (i := 1178) (by decide +kernel)⟩
theorem lw_p54 : lw_okq (⟨"RemoteDesks", "ask", "(LRemoteDesks$Call;)V"⟩, 16) := ⟨⟨by decide +kernel, by decide +kernel⟩, List.mem_of_getElem? (i := 24) (by decide +kernel), List.mem_of_getElem? (i := 1212) (by decide +kernel), List.mem_of_getElem? (i := 1213) (by decide +kernel)⟩
theorem lw_p55 : lw_okq (⟨"RemoteDesks", "shelved", "(LRemoteDesks$Desk;)I"⟩, 16) := ⟨⟨by decide +kernel, by decide +kernel⟩, List.mem_of_getElem? (i := 24) (by decide +kernel), List.mem_of_getElem? (i := 1229) (by decide +kernel), List.mem_of_getElem? (i := 1230) (by decide +kernel)⟩
theorem lw_p56 : lw_okq (⟨"RemoteDesks", "begunAt", "(LRemoteDesks$Desk;)I"⟩, 16) := ⟨⟨by decide +kernel, by decide +kernel⟩, List.mem_of_getElem? (i := 24) (by decide +kernel), List.mem_of_getElem? (i := 1233) (by decide +kernel), List.mem_of_getElem? (i := 1234) (by decide +kernel)⟩
theorem lw_p57 : lw_okq (⟨"RemoteDesks", "partsKept", "(LRemoteDesks$Desk;)I"⟩, 16) := ⟨⟨by decide +kernel, by decide +kernel⟩, List.mem_of_getElem? (i := 24) (by decide +kernel), List.mem_of_getElem? (i := 1237) (by decide +kernel), List.mem_of_getElem? (i := 1238) (by decide +kernel)⟩
theorem lw_p58 : lw_okq (⟨"RemoteDesks", "moved", "(I)I"⟩, 16) := ⟨⟨by decide +kernel, by decide +kernel⟩, List.mem_of_getElem? (i := 24) (by decide +kernel), List.mem_of_getElem? (i := 1258) (by decide +kernel), List.mem_of_getElem? (i := 1259) (by decide +kernel)⟩
theorem lw_p59 : lw_okq (⟨"RemoteDesksModel", "next", "()V"⟩, 101) := ⟨⟨by decide +kernel, by decide +kernel⟩, List.mem_of_getElem? (i := 1262) (by decide +kernel), List.mem_of_getElem? (i := 1590) (by decide +kernel), List.mem_of_getElem? (i := 1591) (by decide +kernel)⟩
theorem lw_p60 : lw_okq (⟨"RemoteDesksModel", "reserved", "()I"⟩, 101) := ⟨⟨by decide +kernel, by decide +kernel⟩, List.mem_of_getElem? (i := 1262) (by decide +kernel), List.mem_of_getElem? (i := 1597) (by decide +kernel), List.mem_of_getElem? (i := 1598) (by decide +kernel)⟩
theorem lw_p61 : lw_okq (⟨"RemoteDesksModel", "stands", "(Z)V"⟩, 101) := ⟨⟨by decide +kernel, by decide +kernel⟩, List.mem_of_getElem? (i := 1262) (by decide +kernel), List.mem_of_getElem? (i := 1604) (by decide +kernel), List.mem_of_getElem? (i := 1605) (by decide +kernel)⟩
theorem lw_p62 : lw_okq (⟨"RemoteDesksModel", "stop", "(ZI)V"⟩, 101) := ⟨⟨by decide +kernel, by decide +kernel⟩, List.mem_of_getElem? (i := 1262) (by decide +kernel), List.mem_of_getElem? (i := 1608) (by decide +kernel), List.mem_of_getElem? (i := 1609) (by decide +kernel)⟩
theorem lw_p63 : lw_okq (⟨"RemoteDesksModel", "readKind", "()V"⟩, 101) := ⟨⟨by decide +kernel, by decide +kernel⟩, List.mem_of_getElem? (i := 1262) (by decide +kernel), List.mem_of_getElem? (i := 1612) (by decide +kernel), List.mem_of_getElem? (i := 1613) (by decide +kernel)⟩
def lw_privs_4 : List (MethodName × Nat) := [(⟨"RemoteDesks", "come", "(LRemoteDesks$Desk;LRemoteDesks$Incoming;[I)[LRemoteDesks$Value;"⟩, 16), (⟨"RemoteDesks$Incoming", "readText", "()[B"⟩, 8), (⟨"RemoteDesks$Incoming", "readNode", "(ILRemoteDesks$Book;Ljava/util/ArrayList;)I"⟩, 8), (⟨"java/util/ArrayList", "fastRemove", "([Ljava/lang/Object;I)V"⟩, 3), (⟨"RemoteDesks", "giveAll", "(LRemoteDesks$Desk;[LRemoteDesks$Value;)V"⟩, 16), (⟨"RemoteDesks", "takeAnswer", "(LRemoteDesks$Call;LRemoteDesks$Incoming;)V"⟩, 16), (⟨"RemoteDesks", "ask", "(LRemoteDesks$Call;)V"⟩, 16), (⟨"RemoteDesks", "shelved", "(LRemoteDesks$Desk;)I"⟩, 16), (⟨"RemoteDesks", "begunAt", "(LRemoteDesks$Desk;)I"⟩, 16), (⟨"RemoteDesks", "partsKept", "(LRemoteDesks$Desk;)I"⟩, 16), (⟨"RemoteDesks", "moved", "(I)I"⟩, 16), (⟨"RemoteDesksModel", "next", "()V"⟩, 101), (⟨"RemoteDesksModel", "reserved", "()I"⟩, 101), (⟨"RemoteDesksModel", "stands", "(Z)V"⟩, 101), (⟨"RemoteDesksModel", "stop", "(ZI)V"⟩, 101), (⟨"RemoteDesksModel", "readKind", "()V"⟩, 101)]
theorem lw_r4 : ∀ q ∈ lw_privs_4, lw_okq q := List.forall_mem_cons.mpr ⟨lw_p48, List.forall_mem_cons.mpr ⟨lw_p49, List.forall_mem_cons.mpr ⟨lw_p50, List.forall_mem_cons.mpr ⟨lw_p51, List.forall_mem_cons.mpr ⟨lw_p52, List.forall_mem_cons.mpr ⟨lw_p53, List.forall_mem_cons.mpr ⟨lw_p54, List.forall_mem_cons.mpr ⟨lw_p55, List.forall_mem_cons.mpr ⟨lw_p56, List.forall_mem_cons.mpr ⟨lw_p57, List.forall_mem_cons.mpr ⟨lw_p58, List.forall_mem_cons.mpr ⟨lw_p59, List.forall_mem_cons.mpr ⟨lw_p60, List.forall_mem_cons.mpr ⟨lw_p61, List.forall_mem_cons.mpr ⟨lw_p62, List.forall_mem_cons.mpr ⟨lw_p63, fun _ h => absurd h List.not_mem_nil⟩⟩⟩⟩⟩⟩⟩⟩⟩⟩⟩⟩⟩⟩⟩⟩
theorem lw_p64 : lw_okq (⟨"RemoteDesksModel", "isTold", "()Z"⟩, 101) := ⟨⟨by decide +kernel, by decide +kernel⟩, List.mem_of_getElem? (i := 1262) (by decide +kernel), List.mem_of_getElem? (i := 1616) (by decide +kernel), List.mem_of_getElem? (i := 1617) (by decide +kernel)⟩
theorem lw_p65 : lw_okq (⟨"RemoteDesksModel", "name", "(ZZ)J"⟩, 101) := ⟨⟨by decide +kernel, by decide +kernel⟩, List.mem_of_getElem? (i := 1262) (by decide +kernel), List.mem_of_getElem? (i := 1623) (by decide +kernel), List.mem_of_getElem? (i := 1624) (by decide +kernel)⟩
theorem lw_p66 : lw_okq (⟨"RemoteDesksModel", "isName", "()Z"⟩, 101) := ⟨⟨by decide +kernel, by decide +kernel⟩, List.mem_of_getElem? (i := 1262) (by decide +kernel), List.mem_of_getElem? (i := 1627) (by decide +kernel), List.mem_of_getElem? (i := 1628) (by decide +kernel)⟩
theorem lw_p67 : lw_okq (⟨"RemoteDesksModel", "sign", "(I)V"⟩, 101) := ⟨⟨by decide +kernel, by decide +kernel⟩, List.mem_of_getElem? (i := 1262) (by decide +kernel), List.mem_of_getElem? (i := 1631) (by decide +kernel), List.mem_of_getElem? (i := 1632) (by decide +kernel)⟩
theorem lw_p68 : lw_okq (⟨"RemoteDesksModel", "readRecord", "()V"⟩, 101) := ⟨⟨by decide +kernel, by decide +kernel⟩, List.mem_of_getElem? (i := 1262) (by decide +kernel), List.mem_of_getElem? (i := 1635) (by decide +kernel), List.mem_of_getElem? (i := 1636) (by decide +kernel)⟩
theorem lw_p69 : lw_okq (⟨"RemoteDesksModel", "sort", "()I"⟩, 101) := ⟨⟨by decide +kernel, by decide +kernel⟩, List.mem_of_getElem? (i := 1262) (by decide +kernel), List.mem_of_getElem? (i := 1639) (by decide +kernel), List.mem_of_getElem? (i := 1640) (by decide +kernel)⟩
theorem lw_p70 : lw_okq (⟨"RemoteDesksModel", "readService", "()V"⟩, 101) := ⟨⟨by decide +kernel, by decide +kernel⟩, List.mem_of_getElem? (i := 1262) (by decide +kernel), List.mem_of_getElem? (i := 1643) (by decide +kernel), List.mem_of_getElem? (i := 1644) (by decide +kernel)⟩
theorem lw_p71 : lw_okq (⟨"RemoteDesksModel", "readMethod", "(IIJ)V"⟩, 101) := ⟨⟨by decide +kernel, by decide +kernel⟩, List.mem_of_getElem? (i := 1262) (by decide +kernel), List.mem_of_getElem? (i := 1647) (by decide +kernel), List.mem_of_getElem? (i := 1648) (by decide +kernel)⟩
theorem lw_p72 : lw_okq (⟨"RemoteDesksModel", "fresh", "(I)I"⟩, 101) := ⟨⟨by decide +kernel, by decide +kernel⟩, List.mem_of_getElem? (i := 1262) (by decide +kernel), List.mem_of_getElem? (i := 1660) (by decide +kernel), List.mem_of_getElem? (i := 1661) (by decide +kernel)⟩
theorem lw_p73 : lw_okq (⟨"RemoteDesksModel", "zero", "(II)V"⟩, 101) := ⟨⟨by decide +kernel, by decide +kernel⟩, List.mem_of_getElem? (i := 1262) (by decide +kernel), List.mem_of_getElem? (i := 1664) (by decide +kernel), List.mem_of_getElem? (i := 1665) (by decide +kernel)⟩
theorem lw_p74 : lw_okq (⟨"RemoteDesksModel", "isField", "(II)Z"⟩, 101) := ⟨⟨by decide +kernel, by decide +kernel⟩, List.mem_of_getElem? (i := 1262) (by decide +kernel), List.mem_of_getElem? (i := 1673) (by decide +kernel), List.mem_of_getElem? (i := 1674) (by decide +kernel)⟩
theorem lw_p75 : lw_okq (⟨"RemoteDesksModel", "isNode", "(I)Z"⟩, 101) := ⟨⟨by decide +kernel, by decide +kernel⟩, List.mem_of_getElem? (i := 1262) (by decide +kernel), List.mem_of_getElem? (i := 1677) (by decide +kernel), List.mem_of_getElem? (i := 1678) (by decide +kernel)⟩
theorem lw_p76 : lw_okq (⟨"RemoteDesksModel", "sortOf", "(II)I"⟩, 101) := ⟨⟨by decide +kernel, by decide +kernel⟩, List.mem_of_getElem? (i := 1262) (by decide +kernel), List.mem_of_getElem? (i := 1681) (by decide +kernel), List.mem_of_getElem? (i := 1682) (by decide +kernel)⟩
theorem lw_p77 : lw_okq (⟨"RemoteDesksModel", "isOf", "(IJ)Z"⟩, 101) := ⟨⟨by decide +kernel, by decide +kernel⟩, List.mem_of_getElem? (i := 1262) (by decide +kernel), List.mem_of_getElem? (i := 1685) (by decide +kernel), List.mem_of_getElem? (i := 1686) (by decide +kernel)⟩
theorem lw_p78 : lw_okq (⟨"RemoteDesksModel", "put", "(IIJ)V"⟩, 101) := ⟨⟨by decide +kernel, by decide +kernel⟩, List.mem_of_getElem? (i := 1262) (by decide +kernel), List.mem_of_getElem? (i := 1689) (by decide +kernel), List.mem_of_getElem? (i := 1690) (by decide +kernel)⟩
theorem lw_p79 : lw_okq (⟨"RemoteDesksModel", "tells", "(II)J"⟩, 101) := ⟨⟨by decide +kernel, by decide +kernel⟩, List.mem_of_getElem? (i := 1262) (by decide +kernel), List.mem_of_getElem? (i := 1697) (by decide +kernel), List.mem_of_getElem? (i := 1698) (by decide +kernel)⟩
def lw_privs_5 : List (MethodName × Nat) := [(⟨"RemoteDesksModel", "isTold", "()Z"⟩, 101), (⟨"RemoteDesksModel", "name", "(ZZ)J"⟩, 101), (⟨"RemoteDesksModel", "isName", "()Z"⟩, 101), (⟨"RemoteDesksModel", "sign", "(I)V"⟩, 101), (⟨"RemoteDesksModel", "readRecord", "()V"⟩, 101), (⟨"RemoteDesksModel", "sort", "()I"⟩, 101), (⟨"RemoteDesksModel", "readService", "()V"⟩, 101), (⟨"RemoteDesksModel", "readMethod", "(IIJ)V"⟩, 101), (⟨"RemoteDesksModel", "fresh", "(I)I"⟩, 101), (⟨"RemoteDesksModel", "zero", "(II)V"⟩, 101), (⟨"RemoteDesksModel", "isField", "(II)Z"⟩, 101), (⟨"RemoteDesksModel", "isNode", "(I)Z"⟩, 101), (⟨"RemoteDesksModel", "sortOf", "(II)I"⟩, 101), (⟨"RemoteDesksModel", "isOf", "(IJ)Z"⟩, 101), (⟨"RemoteDesksModel", "put", "(IIJ)V"⟩, 101), (⟨"RemoteDesksModel", "tells", "(II)J"⟩, 101)]
theorem lw_r5 : ∀ q ∈ lw_privs_5, lw_okq q := List.forall_mem_cons.mpr ⟨lw_p64, List.forall_mem_cons.mpr ⟨lw_p65, List.forall_mem_cons.mpr ⟨lw_p66, List.forall_mem_cons.mpr ⟨lw_p67, List.forall_mem_cons.mpr ⟨lw_p68, List.forall_mem_cons.mpr ⟨lw_p69, List.forall_mem_cons.mpr ⟨lw_p70, List.forall_mem_cons.mpr ⟨lw_p71, List.forall_mem_cons.mpr ⟨lw_p72, List.forall_mem_cons.mpr ⟨lw_p73, List.forall_mem_cons.mpr ⟨lw_p74, List.forall_mem_cons.mpr ⟨lw_p75, List.forall_mem_cons.mpr ⟨lw_p76, List.forall_mem_cons.mpr ⟨lw_p77, List.forall_mem_cons.mpr ⟨lw_p78, List.forall_mem_cons.mpr ⟨lw_p79, fun _ h => absurd h List.not_mem_nil⟩⟩⟩⟩⟩⟩⟩⟩⟩⟩⟩⟩⟩⟩⟩⟩
theorem lw_p80 : lw_okq (⟨"RemoteDesksModel", "letterIn", "(III)I"⟩, 101) := ⟨⟨by decide +kernel, by decide +kernel⟩, List.mem_of_getElem? (i := 1262) (by decide +kernel), List.mem_of_getElem? (i := 1706) (by decide +kernel), List.mem_of_getElem? (i := 1707) (by decide +kernel)⟩
theorem lw_p81 : lw_okq (⟨"RemoteDesksModel", "isSort", "(I)Z"⟩, 101) := ⟨⟨by decide +kernel, by decide +kernel⟩, List.mem_of_getElem? (i := 1262) (by decide +kernel), List.mem_of_getElem? (i := 1718) (by decide +kernel), List.mem_of_getElem? (i := 1719) (by decide +kernel)⟩
theorem lw_p82 : lw_okq (⟨"RemoteDesksModel", "isDesk", "(I)Z"⟩, 101) := ⟨⟨by decide +kernel, by decide +kernel⟩, List.mem_of_getElem? (i := 1262) (by decide +kernel), List.mem_of_getElem? (i := 1737) (by decide +kernel), List.mem_of_getElem? (i := 1738) (by decide +kernel)⟩
theorem lw_p83 : lw_okq (⟨"RemoteDesksModel", "reckons", "()Z"⟩, 101) := ⟨⟨by decide +kernel, by decide +kernel⟩, List.mem_of_getElem? (i := 1262) (by decide +kernel), List.mem_of_getElem? (i := 1752) (by decide +kernel), List.mem_of_getElem? (i := 1753) (by decide +kernel)⟩
theorem lw_p84 : lw_okq (⟨"RemoteDesksModel", "isObject", "(I)Z"⟩, 101) := ⟨⟨by decide +kernel, by decide +kernel⟩, List.mem_of_getElem? (i := 1262) (by decide +kernel), List.mem_of_getElem? (i := 1764) (by decide +kernel), List.mem_of_getElem? (i := 1765) (by decide +kernel)⟩
theorem lw_p85 : lw_okq (⟨"RemoteDesksModel", "refer", "(II)V"⟩, 101) := ⟨⟨by decide +kernel, by decide +kernel⟩, List.mem_of_getElem? (i := 1262) (by decide +kernel), List.mem_of_getElem? (i := 1768) (by decide +kernel), List.mem_of_getElem? (i := 1769) (by decide +kernel)⟩
theorem lw_p86 : lw_okq (⟨"RemoteDesksModel", "layRequest", "(IIII)V"⟩, 101) := ⟨⟨by decide +kernel, by decide +kernel⟩, List.mem_of_getElem? (i := 1262) (by decide +kernel), List.mem_of_getElem? (i := 1788) (by decide +kernel), List.mem_of_getElem? (i := 1789) (by decide +kernel)⟩
theorem lw_p87 : lw_okq (⟨"RemoteDesksModel", "beginMessage", "()V"⟩, 101) := ⟨⟨by decide +kernel, by decide +kernel⟩, List.mem_of_getElem? (i := 1262) (by decide +kernel), List.mem_of_getElem? (i := 1792) (by decide +kernel), List.mem_of_getElem? (i := 1793) (by decide +kernel)⟩
theorem lw_p88 : lw_okq (⟨"RemoteDesksModel", "octet", "(I)V"⟩, 101) := ⟨⟨by decide +kernel, by decide +kernel⟩, List.mem_of_getElem? (i := 1262) (by decide +kernel), List.mem_of_getElem? (i := 1796) (by decide +kernel), List.mem_of_getElem? (i := 1797) (by decide +kernel)⟩
theorem lw_p89 : lw_okq (⟨"RemoteDesksModel", "lay", "(II)V"⟩, 101) := ⟨⟨by decide +kernel, by decide +kernel⟩, List.mem_of_getElem? (i := 1262) (by decide +kernel), List.mem_of_getElem? (i := 1800) (by decide +kernel), List.mem_of_getElem? (i := 1801) (by decide +kernel)⟩
theorem lw_p90 : lw_okq (⟨"RemoteDesksModel", "later", "(II)V"⟩, 101) := ⟨⟨by decide +kernel, by decide +kernel⟩, List.mem_of_getElem? (i := 1262) (by decide +kernel), List.mem_of_getElem? (i := 1804) (by decide +kernel), List.mem_of_getElem? (i := 1805) (by decide +kernel)⟩
theorem lw_p91 : lw_okq (⟨"RemoteDesksModel", "octets", "(JI)V"⟩, 101) := ⟨⟨by decide +kernel, by decide +kernel⟩, List.mem_of_getElem? (i := 1262) (by decide +kernel), List.mem_of_getElem? (i := 1808) (by decide +kernel), List.mem_of_getElem? (i := 1809) (by decide +kernel)⟩
theorem lw_p92 : lw_okq (⟨"RemoteDesksModel", "layNode", "(I)V"⟩, 101) := ⟨⟨by decide +kernel, by decide +kernel⟩, List.mem_of_getElem? (i := 1262) (by decide +kernel), List.mem_of_getElem? (i := 1813) (by decide +kernel), List.mem_of_getElem? (i := 1814) (by decide +kernel)⟩
theorem lw_p93 : lw_okq (⟨"RemoteDesksModel", "fresh0", "(IIII)I"⟩, 101) := ⟨⟨by decide +kernel, by decide +kernel⟩, List.mem_of_getElem? (i := 1262) (by decide +kernel), List.mem_of_getElem? (i := 1817) (by decide +kernel), List.mem_of_getElem? (i := 1818) (by decide +kernel)⟩
theorem lw_p94 : lw_okq (⟨"RemoteDesksModel", "clearTree", "(I)V"⟩, 101) := ⟨⟨by decide +kernel, by decide +kernel⟩, List.mem_of_getElem? (i := 1262) (by decide +kernel), List.mem_of_getElem? (i := 1821) (by decide +kernel), List.mem_of_getElem? (i := 1822) (by decide +kernel)⟩
theorem lw_p95 : lw_okq (⟨"RemoteDesksModel", "forget", "(II)V"⟩, 101) := ⟨⟨by decide +kernel, by decide +kernel⟩, List.mem_of_getElem? (i := 1262) (by decide +kernel), List.mem_of_getElem? (i := 1825) (by decide +kernel), List.mem_of_getElem? (i := 1826) (by decide +kernel)⟩
def lw_privs_6 : List (MethodName × Nat) := [(⟨"RemoteDesksModel", "letterIn", "(III)I"⟩, 101), (⟨"RemoteDesksModel", "isSort", "(I)Z"⟩, 101), (⟨"RemoteDesksModel", "isDesk", "(I)Z"⟩, 101), (⟨"RemoteDesksModel", "reckons", "()Z"⟩, 101), (⟨"RemoteDesksModel", "isObject", "(I)Z"⟩, 101), (⟨"RemoteDesksModel", "refer", "(II)V"⟩, 101), (⟨"RemoteDesksModel", "layRequest", "(IIII)V"⟩, 101), (⟨"RemoteDesksModel", "beginMessage", "()V"⟩, 101), (⟨"RemoteDesksModel", "octet", "(I)V"⟩, 101), (⟨"RemoteDesksModel", "lay", "(II)V"⟩, 101), (⟨"RemoteDesksModel", "later", "(II)V"⟩, 101), (⟨"RemoteDesksModel", "octets", "(JI)V"⟩, 101), (⟨"RemoteDesksModel", "layNode", "(I)V"⟩, 101), (⟨"RemoteDesksModel", "fresh0", "(IIII)I"⟩, 101), (⟨"RemoteDesksModel", "clearTree", "(I)V"⟩, 101), (⟨"RemoteDesksModel", "forget", "(II)V"⟩, 101)]
theorem lw_r6 : ∀ q ∈ lw_privs_6, lw_okq q := List.forall_mem_cons.mpr ⟨lw_p80, List.forall_mem_cons.mpr ⟨lw_p81, List.forall_mem_cons.mpr ⟨lw_p82, List.forall_mem_cons.mpr ⟨lw_p83, List.forall_mem_cons.mpr ⟨lw_p84, List.forall_mem_cons.mpr ⟨lw_p85, List.forall_mem_cons.mpr ⟨lw_p86, List.forall_mem_cons.mpr ⟨lw_p87, List.forall_mem_cons.mpr ⟨lw_p88, List.forall_mem_cons.mpr ⟨lw_p89, List.forall_mem_cons.mpr ⟨lw_p90, List.forall_mem_cons.mpr ⟨lw_p91, List.forall_mem_cons.mpr ⟨lw_p92, List.forall_mem_cons.mpr ⟨lw_p93, List.forall_mem_cons.mpr ⟨lw_p94, List.forall_mem_cons.mpr ⟨lw_p95, fun _ h => absurd h List.not_mem_nil⟩⟩⟩⟩⟩⟩⟩⟩⟩⟩⟩⟩⟩⟩⟩⟩
theorem lw_p96 : lw_okq (⟨"RemoteDesksModel", "copy", "(II)V"⟩, 101) := ⟨⟨by decide +kernel, by decide +kernel⟩, List.mem_of_getElem? (i := 1262) (by decide +kernel), List.mem_of_getElem? (i := 1829) (by decide +kernel), List.mem_of_getElem? (i := 1830) (by decide +kernel)⟩
theorem lw_p97 : lw_okq (⟨"RemoteDesksModel", "go", "(I)V"⟩, 101) := ⟨⟨by decide +kernel, by decide +kernel⟩, List.mem_of_getElem? (i := 1262) (by decide +kernel), List.mem_of_getElem? (i := 1833) (by decide +kernel), List.mem_of_getElem? (i := 1834) (by decide +kernel)⟩
theorem lw_p98 : lw_okq (⟨"RemoteDesksModel", "end", "(I)V"⟩, 101) := ⟨⟨by decide +kernel, by decide +kernel⟩, List.mem_of_getElem? (i := 1262) (by decide +kernel), List.mem_of_getElem? (i := 1837) (by decide +kernel), List.mem_of_getElem? (i := 1838) (by decide +kernel)⟩
theorem lw_p99 : lw_okq (⟨"RemoteDesksModel", "isLocal", "(I)Z"⟩, 101) := ⟨⟨by decide +kernel, by decide +kernel⟩, List.mem_of_getElem? (i := 1262) (by decide +kernel), List.mem_of_getElem? (i := 1841) (by decide +kernel), List.mem_of_getElem? (i := 1842) (by decide +kernel)⟩
theorem lw_p100 : lw_okq (⟨"RemoteDesksModel", "copyTree", "(II)V"⟩, 101) := ⟨⟨by decide +kernel, by decide +kernel⟩, List.mem_of_getElem? (i := 1262) (by decide +kernel), List.mem_of_getElem? (i := 1845) (by decide +kernel), List.mem_of_getElem? (i := 1846) (by decide +kernel)⟩
theorem lw_p101 : lw_okq (⟨"RemoteDesksModel", "answer", "(I)V"⟩, 101) := ⟨⟨by decide +kernel, by decide +kernel⟩, List.mem_of_getElem? (i := 1262) (by decide +kernel), List.mem_of_getElem? (i := 1849) (by decide +kernel), List.mem_of_getElem? (i := 1850) (by decide +kernel)⟩
theorem lw_p102 : lw_okq (⟨"RemoteDesksModel", "layTree", "()V"⟩, 101) := ⟨⟨by decide +kernel, by decide +kernel⟩, List.mem_of_getElem? (i := 1262) (by decide +kernel), List.mem_of_getElem? (i := 1853) (by decide +kernel), List.mem_of_getElem? (i := 1854) (by decide +kernel)⟩
theorem lw_p103 : lw_okq (⟨"RemoteDesksModel", "answerSort", "(I)I"⟩, 101) := ⟨⟨by decide +kernel, by decide +kernel⟩, List.mem_of_getElem? (i := 1262) (by decide +kernel), List.mem_of_getElem? (i := 1857) (by decide +kernel), List.mem_of_getElem? (i := 1858) (by decide +kernel)⟩
theorem lw_p104 : lw_okq (⟨"RemoteDesksModel", "methodOf", "(I)I"⟩, 101) := ⟨⟨by decide +kernel, by decide +kernel⟩, List.mem_of_getElem? (i := 1262) (by decide +kernel), List.mem_of_getElem? (i := 1861) (by decide +kernel), List.mem_of_getElem? (i := 1862) (by decide +kernel)⟩
theorem lw_p105 : lw_okq (⟨"RemoteDesksModel", "fails", "(II)V"⟩, 101) := ⟨⟨by decide +kernel, by decide +kernel⟩, List.mem_of_getElem? (i := 1262) (by decide +kernel), List.mem_of_getElem? (i := 1865) (by decide +kernel), List.mem_of_getElem? (i := 1866) (by decide +kernel)⟩
theorem lw_p106 : lw_okq (⟨"RemoteDesksModel", "row", "(IIIIII)V"⟩, 101) := ⟨⟨by decide +kernel, by decide +kernel⟩, List.mem_of_getElem? (i := 1262) (by decide +kernel), List.mem_of_getElem? (i := 1869) (by decide +kernel), List.mem_of_getElem? (i := 1870) (by decide +kernel)⟩
theorem lw_p107 : lw_okq (⟨"RemoteDesksModel", "sendAnswer", "(I)V"⟩, 101) := ⟨⟨by decide +kernel, by decide +kernel⟩, List.mem_of_getElem? (i := 1262) (by decide +kernel), List.mem_of_getElem? (i := 1873) (by decide +kernel), List.mem_of_getElem? (i := 1874) (by decide +kernel)⟩
theorem lw_p108 : lw_okq (⟨"RemoteDesksModel", "send", "(IIII[III)V"⟩, 101) := ⟨⟨by decide +kernel, by decide +kernel⟩, List.mem_of_getElem? (i := 1262) (by decide +kernel), List.mem_of_getElem? (i := 1877) (by decide +kernel), List.mem_of_getElem? (i := 1878) (by decide +kernel)⟩
theorem lw_p109 : lw_okq (⟨"RemoteDesksModel", "room", "()I"⟩, 101) := ⟨⟨by decide +kernel, by decide +kernel⟩, List.mem_of_getElem? (i := 1262) (by decide +kernel), List.mem_of_getElem? (i := 1881) (by decide +kernel), List.mem_of_getElem? (i := 1882) (by decide +kernel)⟩
theorem lw_p110 : lw_okq (⟨"RemoteDesksModel", "drop", "(I)V"⟩, 101) := ⟨⟨by decide +kernel, by decide +kernel⟩, List.mem_of_getElem? (i := 1262) (by decide +kernel), List.mem_of_getElem? (i := 1885) (by decide +kernel), List.mem_of_getElem? (i := 1886) (by decide +kernel)⟩
theorem lw_p111 : lw_okq (⟨"RemoteDesksModel", "relay", "(I)I"⟩, 101) := ⟨⟨by decide +kernel, by decide +kernel⟩, List.mem_of_getElem? (i := 1262) (by decide +kernel), List.mem_of_getElem? (i := 1889) (by decide +kernel), List.mem_of_getElem? (i := 1890) (by decide +kernel)⟩
def lw_privs_7 : List (MethodName × Nat) := [(⟨"RemoteDesksModel", "copy", "(II)V"⟩, 101), (⟨"RemoteDesksModel", "go", "(I)V"⟩, 101), (⟨"RemoteDesksModel", "end", "(I)V"⟩, 101), (⟨"RemoteDesksModel", "isLocal", "(I)Z"⟩, 101), (⟨"RemoteDesksModel", "copyTree", "(II)V"⟩, 101), (⟨"RemoteDesksModel", "answer", "(I)V"⟩, 101), (⟨"RemoteDesksModel", "layTree", "()V"⟩, 101), (⟨"RemoteDesksModel", "answerSort", "(I)I"⟩, 101), (⟨"RemoteDesksModel", "methodOf", "(I)I"⟩, 101), (⟨"RemoteDesksModel", "fails", "(II)V"⟩, 101), (⟨"RemoteDesksModel", "row", "(IIIIII)V"⟩, 101), (⟨"RemoteDesksModel", "sendAnswer", "(I)V"⟩, 101), (⟨"RemoteDesksModel", "send", "(IIII[III)V"⟩, 101), (⟨"RemoteDesksModel", "room", "()I"⟩, 101), (⟨"RemoteDesksModel", "drop", "(I)V"⟩, 101), (⟨"RemoteDesksModel", "relay", "(I)I"⟩, 101)]
theorem lw_r7 : ∀ q ∈ lw_privs_7, lw_okq q := List.forall_mem_cons.mpr ⟨lw_p96, List.forall_mem_cons.mpr ⟨lw_p97, List.forall_mem_cons.mpr ⟨lw_p98, List.forall_mem_cons.mpr ⟨lw_p99, List.forall_mem_cons.mpr ⟨lw_p100, List.forall_mem_cons.mpr ⟨lw_p101, List.forall_mem_cons.mpr ⟨lw_p102, List.forall_mem_cons.mpr ⟨lw_p103, List.forall_mem_cons.mpr ⟨lw_p104, List.forall_mem_cons.mpr ⟨lw_p105, List.forall_mem_cons.mpr ⟨lw_p106, List.forall_mem_cons.mpr ⟨lw_p107, List.forall_mem_cons.mpr ⟨lw_p108, List.forall_mem_cons.mpr ⟨lw_p109, List.forall_mem_cons.mpr ⟨lw_p110, List.forall_mem_cons.mpr ⟨lw_p111, fun _ h => absurd h List.not_mem_nil⟩⟩⟩⟩⟩⟩⟩⟩⟩⟩⟩⟩⟩⟩⟩⟩
theorem lw_p112 : lw_okq (⟨"RemoteDesksModel", "argumentsOf", "(I)I"⟩, 101) := ⟨⟨by decide +kernel, by decide +kernel⟩, List.mem_of_getElem? (i := 1262) (by decide +kernel), List.mem_of_getElem? (i := 1893) (by decide +kernel), List.mem_of_getElem? (i := 1894) (by decide +kernel)⟩
theorem lw_p113 : lw_okq (⟨"RemoteDesksModel", "keepRequest", "(I)V"⟩, 101) := ⟨⟨by decide +kernel, by decide +kernel⟩, List.mem_of_getElem? (i := 1262) (by decide +kernel), List.mem_of_getElem? (i := 1897) (by decide +kernel), List.mem_of_getElem? (i := 1898) (by decide +kernel)⟩
theorem lw_p114 : lw_okq (⟨"RemoteDesksModel", "sendRequest", "(I)V"⟩, 101) := ⟨⟨by decide +kernel, by decide +kernel⟩, List.mem_of_getElem? (i := 1262) (by decide +kernel), List.mem_of_getElem? (i := 1901) (by decide +kernel), List.mem_of_getElem? (i := 1902) (by decide +kernel)⟩
theorem lw_p115 : lw_okq (⟨"RemoteDesksModel", "act", "(II)V"⟩, 101) := ⟨⟨by decide +kernel, by decide +kernel⟩, List.mem_of_getElem? (i := 1262) (by decide +kernel), List.mem_of_getElem? (i := 1905) (by decide +kernel), List.mem_of_getElem? (i := 1906) (by decide +kernel)⟩
theorem lw_p116 : lw_okq (⟨"RemoteDesksModel", "count0", "(I)V"⟩, 101) := ⟨⟨by decide +kernel, by decide +kernel⟩, List.mem_of_getElem? (i := 1262) (by decide +kernel), List.mem_of_getElem? (i := 1909) (by decide +kernel), List.mem_of_getElem? (i := 1910) (by decide +kernel)⟩
theorem lw_p117 : lw_okq (⟨"RemoteDesksModel", "failsAs", "(II)V"⟩, 101) := ⟨⟨by decide +kernel, by decide +kernel⟩, List.mem_of_getElem? (i := 1262) (by decide +kernel), List.mem_of_getElem? (i := 1913) (by decide +kernel), List.mem_of_getElem? (i := 1914) (by decide +kernel)⟩
theorem lw_p118 : lw_okq (⟨"RemoteDesksModel", "keep0", "(I)V"⟩, 101) := ⟨⟨by decide +kernel, by decide +kernel⟩, List.mem_of_getElem? (i := 1262) (by decide +kernel), List.mem_of_getElem? (i := 1917) (by decide +kernel), List.mem_of_getElem? (i := 1918) (by decide +kernel)⟩
theorem lw_p119 : lw_okq (⟨"RemoteDesksModel", "raise", "(I)V"⟩, 101) := ⟨⟨by decide +kernel, by decide +kernel⟩, List.mem_of_getElem? (i := 1262) (by decide +kernel), List.mem_of_getElem? (i := 1921) (by decide +kernel), List.mem_of_getElem? (i := 1922) (by decide +kernel)⟩
theorem lw_p120 : lw_okq (⟨"RemoteDesksModel", "reach", "(II)I"⟩, 101) := ⟨⟨by decide +kernel, by decide +kernel⟩, List.mem_of_getElem? (i := 1262) (by decide +kernel), List.mem_of_getElem? (i := 1925) (by decide +kernel), List.mem_of_getElem? (i := 1926) (by decide +kernel)⟩
theorem lw_p121 : lw_okq (⟨"RemoteDesksModel", "echo", "(I)V"⟩, 101) := ⟨⟨by decide +kernel, by decide +kernel⟩, List.mem_of_getElem? (i := 1262) (by decide +kernel), List.mem_of_getElem? (i := 1929) (by decide +kernel), List.mem_of_getElem? (i := 1930) (by decide +kernel)⟩
theorem lw_p122 : lw_okq (⟨"RemoteDesksModel", "isCall", "(I)Z"⟩, 101) := ⟨⟨by decide +kernel, by decide +kernel⟩, List.mem_of_getElem? (i := 1262) (by decide +kernel), List.mem_of_getElem? (i := 1937) (by decide +kernel), List.mem_of_getElem? (i := 1938) (by decide +kernel)⟩
theorem lw_p123 : lw_okq (⟨"RemoteDesksModel", "arrive", "(IIIII)V"⟩, 101) := ⟨⟨by decide +kernel, by decide +kernel⟩, List.mem_of_getElem? (i := 1262) (by decide +kernel), List.mem_of_getElem? (i := 1965) (by decide +kernel), List.mem_of_getElem? (i := 1966) (by decide +kernel)⟩
theorem lw_p124 : lw_okq (⟨"RemoteDesksModel", "isWhole", "(II)Z"⟩, 101) := ⟨⟨by decide +kernel, by decide +kernel⟩, List.mem_of_getElem? (i := 1262) (by decide +kernel), List.mem_of_getElem? (i := 1969) (by decide +kernel), List.mem_of_getElem? (i := 1970) (by decide +kernel)⟩
theorem lw_p125 : lw_okq (⟨"RemoteDesksModel", "takeRequest", "(I)V"⟩, 101) := ⟨⟨by decide +kernel, by decide +kernel⟩, List.mem_of_getElem? (i := 1262) (by decide +kernel), List.mem_of_getElem? (i := 1973) (by decide +kernel), List.mem_of_getElem? (i := 1974) (by decide +kernel)⟩
theorem lw_p126 : lw_okq (⟨"RemoteDesksModel", "gather", "(II)V"⟩, 101) := ⟨⟨by decide +kernel, by decide +kernel⟩, List.mem_of_getElem? (i := 1262) (by decide +kernel), List.mem_of_getElem? (i := 1977) (by decide +kernel), List.mem_of_getElem? (i := 1978) (by decide +kernel)⟩
theorem lw_p127 : lw_okq (⟨"RemoteDesksModel", "read", "()I"⟩, 101) := ⟨⟨by decide +kernel, by decide +kernel⟩, List.mem_of_getElem? (i := 1262) (by decide +kernel), List.mem_of_getElem? (i := 1981) (by decide +kernel), List.mem_of_getElem? (i := 1982) (by decide +kernel)⟩
def lw_privs_8 : List (MethodName × Nat) := [(⟨"RemoteDesksModel", "argumentsOf", "(I)I"⟩, 101), (⟨"RemoteDesksModel", "keepRequest", "(I)V"⟩, 101), (⟨"RemoteDesksModel", "sendRequest", "(I)V"⟩, 101), (⟨"RemoteDesksModel", "act", "(II)V"⟩, 101), (⟨"RemoteDesksModel", "count0", "(I)V"⟩, 101), (⟨"RemoteDesksModel", "failsAs", "(II)V"⟩, 101), (⟨"RemoteDesksModel", "keep0", "(I)V"⟩, 101), (⟨"RemoteDesksModel", "raise", "(I)V"⟩, 101), (⟨"RemoteDesksModel", "reach", "(II)I"⟩, 101), (⟨"RemoteDesksModel", "echo", "(I)V"⟩, 101), (⟨"RemoteDesksModel", "isCall", "(I)Z"⟩, 101), (⟨"RemoteDesksModel", "arrive", "(IIIII)V"⟩, 101), (⟨"RemoteDesksModel", "isWhole", "(II)Z"⟩, 101), (⟨"RemoteDesksModel", "takeRequest", "(I)V"⟩, 101), (⟨"RemoteDesksModel", "gather", "(II)V"⟩, 101), (⟨"RemoteDesksModel", "read", "()I"⟩, 101)]
theorem lw_r8 : ∀ q ∈ lw_privs_8, lw_okq q := List.forall_mem_cons.mpr ⟨lw_p112, List.forall_mem_cons.mpr ⟨lw_p113, List.forall_mem_cons.mpr ⟨lw_p114, List.forall_mem_cons.mpr ⟨lw_p115, List.forall_mem_cons.mpr ⟨lw_p116, List.forall_mem_cons.mpr ⟨lw_p117, List.forall_mem_cons.mpr ⟨lw_p118, List.forall_mem_cons.mpr ⟨lw_p119, List.forall_mem_cons.mpr ⟨lw_p120, List.forall_mem_cons.mpr ⟨lw_p121, List.forall_mem_cons.mpr ⟨lw_p122, List.forall_mem_cons.mpr ⟨lw_p123, List.forall_mem_cons.mpr ⟨lw_p124, List.forall_mem_cons.mpr ⟨lw_p125, List.forall_mem_cons.mpr ⟨lw_p126, List.forall_mem_cons.mpr ⟨lw_p127, fun _ h => absurd h List.not_mem_nil⟩⟩⟩⟩⟩⟩⟩⟩⟩⟩⟩⟩⟩⟩⟩⟩
theorem lw_p128 : lw_okq (⟨"RemoteDesksModel", "readAll", "(I)J"⟩, 101) := ⟨⟨by decide +kernel, by decide +kernel⟩, List.mem_of_getElem? (i := 1262) (by decide +kernel), List.mem_of_getElem? (i := 1985) (by decide +kernel), List.mem_of_getElem? (i := 1986) (by decide +kernel)⟩
theorem lw_p129 : lw_okq (⟨"RemoteDesksModel", "take", "(IIIZ)V"⟩, 101) := ⟨⟨by decide +kernel, by decide +kernel⟩, List.mem_of_getElem? (i := 1262) (by decide +kernel), List.mem_of_getElem? (i := 1989) (by decide +kernel), List.mem_of_getElem? (i := 1990) (by decide +kernel)⟩
theorem lw_p130 : lw_okq (⟨"RemoteDesksModel", "takeNode", "(IZ)I"⟩, 101) := ⟨⟨by decide +kernel, by decide +kernel⟩, List.mem_of_getElem? (i := 1262) (by decide +kernel), List.mem_of_getElem? (i := 1993) (by decide +kernel), List.mem_of_getElem? (i := 1994) (by decide +kernel)⟩
theorem lw_p131 : lw_okq (⟨"RemoteDesksModel", "takeAnswer", "(I)V"⟩, 101) := ⟨⟨by decide +kernel, by decide +kernel⟩, List.mem_of_getElem? (i := 1262) (by decide +kernel), List.mem_of_getElem? (i := 1997) (by decide +kernel), List.mem_of_getElem? (i := 1998) (by decide +kernel)⟩
theorem lw_p132 : lw_okq (⟨"RemoteDesksModel", "tellOuter", "(I)V"⟩, 101) := ⟨⟨by decide +kernel, by decide +kernel⟩, List.mem_of_getElem? (i := 1262) (by decide +kernel), List.mem_of_getElem? (i := 2001) (by decide +kernel), List.mem_of_getElem? (i := 2002) (by decide +kernel)⟩
def lw_privs_9 : List (MethodName × Nat) := [(⟨"RemoteDesksModel", "readAll", "(I)J"⟩, 101), (⟨"RemoteDesksModel", "take", "(IIIZ)V"⟩, 101), (⟨"RemoteDesksModel", "takeNode", "(IZ)I"⟩, 101), (⟨"RemoteDesksModel", "takeAnswer", "(I)V"⟩, 101), (⟨"RemoteDesksModel", "tellOuter", "(I)V"⟩, 101)]
theorem lw_r9 : ∀ q ∈ lw_privs_9, lw_okq q := List.forall_mem_cons.mpr ⟨lw_p128, List.forall_mem_cons.mpr ⟨lw_p129, List.forall_mem_cons.mpr ⟨lw_p130, List.forall_mem_cons.mpr ⟨lw_p131, List.forall_mem_cons.mpr ⟨lw_p132, fun _ h => absurd h List.not_mem_nil⟩⟩⟩⟩⟩
def lw_privs : List (MethodName × Nat) := lw_privs_1 ++ (lw_privs_2 ++ (lw_privs_3 ++ (lw_privs_4 ++ (lw_privs_5 ++ (lw_privs_6 ++ (lw_privs_7 ++ (lw_privs_8 ++ (lw_privs_9))))))))
def lw_tbl : List Cond := k2_sels lw_privs ++ tables_1
theorem lw_privs_ok : ∀ q ∈ lw_privs, lw_okq q := by
  show ∀ q ∈ lw_privs_1 ++ (lw_privs_2 ++ (lw_privs_3 ++ (lw_privs_4 ++ (lw_privs_5 ++ (lw_privs_6 ++ (lw_privs_7 ++ (lw_privs_8 ++ (lw_privs_9)))))))), lw_okq q
  exact List.forall_mem_append.mpr ⟨lw_r1, List.forall_mem_append.mpr ⟨lw_r2, List.forall_mem_append.mpr ⟨lw_r3, List.forall_mem_append.mpr ⟨lw_r4, List.forall_mem_append.mpr ⟨lw_r5, List.forall_mem_append.mpr ⟨lw_r6, List.forall_mem_append.mpr ⟨lw_r7, List.forall_mem_append.mpr ⟨lw_r8, lw_r9⟩⟩⟩⟩⟩⟩⟩⟩
/-- the whole library is wanted (multianewarray) -/
theorem lw_wide : True := by
  have _h := @Jvm.Stand.multianewarray2F
  trivial
def RJx4a65c : String := "java/util/ArrayList"
def TJx4a65c : u_T := fun k => match k with
  | 0 => ("java/util/AbstractList", "modCount", "I", false)
  | 1 => ("java/util/ArrayList", "elementData", "[Ljava/lang/Object;", false)
  | _ => ("java/util/ArrayList", "size", "I", false)
def tyJx4a65c : Nat → FieldType := fun k => match k with
  | 0 => .int
  | 1 => .array (.object "java/lang/Object")
  | _ => .int
theorem nmJx4a65c : ∀ a, a < 3 → ∀ b, b < 3 → a ≠ b → (TJx4a65c a).2.1 ≠ (TJx4a65c b).2.1 := by decide +kernel
theorem tyJx4a65c_ok : ∀ k, k < 3 → parseFieldDescriptor (TJx4a65c k).2.2.1 = some (tyJx4a65c k) := by decide +kernel
def RX0 : String := "RemoteDesks$Book"
def TX0 : u_T := fun k => match k with
  | 0 => ("RemoteDesks$Book", "kinds", "I", false)
  | 1 => ("RemoteDesks$Book", "records", "I", false)
  | 2 => ("RemoteDesks$Book", "services", "I", false)
  | 3 => ("RemoteDesks$Book", "kindNames", "[J", true)
  | 4 => ("RemoteDesks$Book", "recordNames", "[J", true)
  | 5 => ("RemoteDesks$Book", "serviceNames", "[J", true)
  | 6 => ("RemoteDesks$Book", "above", "[I", true)
  | 7 => ("RemoteDesks$Book", "fieldCounts", "[I", true)
  | 8 => ("RemoteDesks$Book", "fieldSorts", "[I", true)
  | 9 => ("RemoteDesks$Book", "methodCounts", "[I", true)
  | 10 => ("RemoteDesks$Book", "answerSorts", "[I", true)
  | 11 => ("RemoteDesks$Book", "argumentCounts", "[I", true)
  | _ => ("RemoteDesks$Book", "argumentSorts", "[I", true)
def tyX0 : Nat → FieldType := fun k => match k with
  | 0 => .int
  | 1 => .int
  | 2 => .int
  | 3 => .array .long
  | 4 => .array .long
  | 5 => .array .long
  | 6 => .array .int
  | 7 => .array .int
  | 8 => .array .int
  | 9 => .array .int
  | 10 => .array .int
  | 11 => .array .int
  | _ => .array .int
theorem nmX0 : ∀ a, a < 13 → ∀ b, b < 13 → a ≠ b → (TX0 a).2.1 ≠ (TX0 b).2.1 := by decide +kernel
theorem tyX0_ok : ∀ k, k < 13 → parseFieldDescriptor (TX0 k).2.2.1 = some (tyX0 k) := by decide +kernel
def RX1 : String := "RemoteDesks$BookReader"
def TX1 : u_T := fun k => match k with
  | 0 => ("RemoteDesks$BookReader", "book", "LRemoteDesks$Book;", true)
  | 1 => ("RemoteDesks$BookReader", "fault", "I", false)
  | 2 => ("RemoteDesks$BookReader", "begin", "I", false)
  | 3 => ("RemoteDesks$BookReader", "text", "[B", true)
  | 4 => ("RemoteDesks$BookReader", "length", "I", true)
  | 5 => ("RemoteDesks$BookReader", "behind", "I", false)
  | 6 => ("RemoteDesks$BookReader", "token", "I", false)
  | 7 => ("RemoteDesks$BookReader", "word", "J", false)
  | _ => ("RemoteDesks$BookReader", "members", "[J", true)
def tyX1 : Nat → FieldType := fun k => match k with
  | 0 => .object "RemoteDesks$Book"
  | 1 => .int
  | 2 => .int
  | 3 => .array .byte
  | 4 => .int
  | 5 => .int
  | 6 => .int
  | 7 => .long
  | _ => .array .long
theorem nmX1 : ∀ a, a < 9 → ∀ b, b < 9 → a ≠ b → (TX1 a).2.1 ≠ (TX1 b).2.1 := by decide +kernel
theorem tyX1_ok : ∀ k, k < 9 → parseFieldDescriptor (TX1 k).2.2.1 = some (tyX1 k) := by decide +kernel
def RX2 : String := "RemoteDesks$Call"
def TX2 : u_T := fun k => match k with
  | 0 => ("RemoteDesks$Call", "number", "I", true)
  | 1 => ("RemoteDesks$Call", "caller", "LRemoteDesks$Desk;", true)
  | 2 => ("RemoteDesks$Call", "server", "LRemoteDesks$Desk;", true)
  | 3 => ("RemoteDesks$Call", "thing", "LRemoteDesks$Thing;", true)
  | 4 => ("RemoteDesks$Call", "method", "I", true)
  | 5 => ("RemoteDesks$Call", "outer", "LRemoteDesks$Call;", true)
  | 6 => ("RemoteDesks$Call", "born", "I", true)
  | 7 => ("RemoteDesks$Call", "state", "I", false)
  | 8 => ("RemoteDesks$Call", "sent", "I", false)
  | 9 => ("RemoteDesks$Call", "begun", "Z", false)
  | 10 => ("RemoteDesks$Call", "movedUnits", "I", false)
  | 11 => ("RemoteDesks$Call", "request", "[B", false)
  | 12 => ("RemoteDesks$Call", "shelf", "[B", false)
  | 13 => ("RemoteDesks$Call", "value", "LRemoteDesks$Value;", false)
  | 14 => ("RemoteDesks$Call", "tree", "[I", false)
  | 15 => ("RemoteDesks$Call", "requestParts", "LRemoteDesks$Incoming;", false)
  | _ => ("RemoteDesks$Call", "answerParts", "LRemoteDesks$Incoming;", false)
def tyX2 : Nat → FieldType := fun k => match k with
  | 0 => .int
  | 1 => .object "RemoteDesks$Desk"
  | 2 => .object "RemoteDesks$Desk"
  | 3 => .object "RemoteDesks$Thing"
  | 4 => .int
  | 5 => .object "RemoteDesks$Call"
  | 6 => .int
  | 7 => .int
  | 8 => .int
  | 9 => .boolean
  | 10 => .int
  | 11 => .array .byte
  | 12 => .array .byte
  | 13 => .object "RemoteDesks$Value"
  | 14 => .array .int
  | 15 => .object "RemoteDesks$Incoming"
  | _ => .object "RemoteDesks$Incoming"
theorem nmX2 : ∀ a, a < 17 → ∀ b, b < 17 → a ≠ b → (TX2 a).2.1 ≠ (TX2 b).2.1 := by decide +kernel
theorem tyX2_ok : ∀ k, k < 17 → parseFieldDescriptor (TX2 k).2.2.1 = some (tyX2 k) := by decide +kernel
def RX3 : String := "RemoteDesks$Desk"
def TX3 : u_T := fun k => match k with
  | 0 => ("RemoteDesks$Desk", "number", "I", true)
  | 1 => ("RemoteDesks$Desk", "age", "I", false)
  | 2 => ("RemoteDesks$Desk", "slotsSent", "I", false)
  | 3 => ("RemoteDesks$Desk", "requestsAgain", "I", false)
  | 4 => ("RemoteDesks$Desk", "tookWhole", "I", false)
  | 5 => ("RemoteDesks$Desk", "held", "[I", true)
  | 6 => ("RemoteDesks$Desk", "ignores", "[Z", true)
  | _ => ("RemoteDesks$Desk", "stocks", "[I", true)
def tyX3 : Nat → FieldType := fun k => match k with
  | 0 => .int
  | 1 => .int
  | 2 => .int
  | 3 => .int
  | 4 => .int
  | 5 => .array .int
  | 6 => .array .boolean
  | _ => .array .int
theorem nmX3 : ∀ a, a < 8 → ∀ b, b < 8 → a ≠ b → (TX3 a).2.1 ≠ (TX3 b).2.1 := by decide +kernel
theorem tyX3_ok : ∀ k, k < 8 → parseFieldDescriptor (TX3 k).2.2.1 = some (tyX3 k) := by decide +kernel
def RX4 : String := "RemoteDesks$Failure"
def TX4 : u_T := fun k => match k with
  | 0 => ("RemoteDesks$Failure", "kind", "I", true)
  | 1 => ("RemoteDesks$Failure", "note", "I", true)
  | 2 => ("RemoteDesks$Failure", "cause", "LRemoteDesks$Failure;", true)
  | 3 => ("RemoteDesks$Failure", "beside", "[LRemoteDesks$Failure;", true)
  | _ => ("RemoteDesks$Failure", "besides", "I", false)
def tyX4 : Nat → FieldType := fun k => match k with
  | 0 => .int
  | 1 => .int
  | 2 => .object "RemoteDesks$Failure"
  | 3 => .array (.object "RemoteDesks$Failure")
  | _ => .int
theorem nmX4 : ∀ a, a < 5 → ∀ b, b < 5 → a ≠ b → (TX4 a).2.1 ≠ (TX4 b).2.1 := by decide +kernel
theorem tyX4_ok : ∀ k, k < 5 → parseFieldDescriptor (TX4 k).2.2.1 = some (tyX4 k) := by decide +kernel
def RX5 : String := "RemoteDesks$Incoming"
def TX5 : u_T := fun k => match k with
  | 0 => ("RemoteDesks$Incoming", "kept", "I", false)
  | 1 => ("RemoteDesks$Incoming", "firstNode", "I", false)
  | 2 => ("RemoteDesks$Incoming", "nodesLack", "Z", false)
  | 3 => ("RemoteDesks$Incoming", "parts", "I", false)
  | 4 => ("RemoteDesks$Incoming", "length", "I", false)
  | 5 => ("RemoteDesks$Incoming", "at", "I", false)
  | 6 => ("RemoteDesks$Incoming", "here", "[Z", true)
  | _ => ("RemoteDesks$Incoming", "bytes", "[B", true)
def tyX5 : Nat → FieldType := fun k => match k with
  | 0 => .int
  | 1 => .int
  | 2 => .boolean
  | 3 => .int
  | 4 => .int
  | 5 => .int
  | 6 => .array .boolean
  | _ => .array .byte
theorem nmX5 : ∀ a, a < 8 → ∀ b, b < 8 → a ≠ b → (TX5 a).2.1 ≠ (TX5 b).2.1 := by decide +kernel
theorem tyX5_ok : ∀ k, k < 8 → parseFieldDescriptor (TX5 k).2.2.1 = some (tyX5 k) := by decide +kernel
def RX6 : String := "RemoteDesks$Node"
def TX6 : u_T := fun k => match k with
  | 0 => ("RemoteDesks$Node", "record", "I", true)
  | _ => ("RemoteDesks$Node", "fields", "[LRemoteDesks$Value;", true)
def tyX6 : Nat → FieldType := fun k => match k with
  | 0 => .int
  | _ => .array (.object "RemoteDesks$Value")
theorem nmX6 : ∀ a, a < 2 → ∀ b, b < 2 → a ≠ b → (TX6 a).2.1 ≠ (TX6 b).2.1 := by decide +kernel
theorem tyX6_ok : ∀ k, k < 2 → parseFieldDescriptor (TX6 k).2.2.1 = some (tyX6 k) := by decide +kernel
def RX7 : String := "RemoteDesks$Thing"
def TX7 : u_T := fun k => match k with
  | 0 => ("RemoteDesks$Thing", "number", "I", true)
  | 1 => ("RemoteDesks$Thing", "host", "LRemoteDesks$Desk;", true)
  | 2 => ("RemoteDesks$Thing", "service", "I", true)
  | 3 => ("RemoteDesks$Thing", "deed", "I", true)
  | 4 => ("RemoteDesks$Thing", "with", "I", true)
  | 5 => ("RemoteDesks$Thing", "m", "I", true)
  | 6 => ("RemoteDesks$Thing", "total", "J", false)
  | 7 => ("RemoteDesks$Thing", "kept", "I", false)
  | _ => ("RemoteDesks$Thing", "begun", "I", false)
def tyX7 : Nat → FieldType := fun k => match k with
  | 0 => .int
  | 1 => .object "RemoteDesks$Desk"
  | 2 => .int
  | 3 => .int
  | 4 => .int
  | 5 => .int
  | 6 => .long
  | 7 => .int
  | _ => .int
theorem nmX7 : ∀ a, a < 9 → ∀ b, b < 9 → a ≠ b → (TX7 a).2.1 ≠ (TX7 b).2.1 := by decide +kernel
theorem tyX7_ok : ∀ k, k < 9 → parseFieldDescriptor (TX7 k).2.2.1 = some (tyX7 k) := by decide +kernel
def RX8 : String := "RemoteDesks$Value"
def TX8 : u_T := fun k => match k with
  | 0 => ("RemoteDesks$Value", "sort", "I", true)
  | 1 => ("RemoteDesks$Value", "number", "J", true)
  | _ => ("RemoteDesks$Value", "text", "[B", true)
def tyX8 : Nat → FieldType := fun k => match k with
  | 0 => .int
  | 1 => .long
  | _ => .array .byte
theorem nmX8 : ∀ a, a < 3 → ∀ b, b < 3 → a ≠ b → (TX8 a).2.1 ≠ (TX8 b).2.1 := by decide +kernel
theorem tyX8_ok : ∀ k, k < 3 → parseFieldDescriptor (TX8 k).2.2.1 = some (tyX8 k) := by decide +kernel
def RX9 : String := "RemoteDesks$Wire"
def TX9 : u_T := fun k => match k with
  | 0 => ("RemoteDesks$Wire", "slots", "I", false)
  | 1 => ("RemoteDesks$Wire", "lost", "I", false)
  | 2 => ("RemoteDesks$Wire", "copy", "[B", true)
  | 3 => ("RemoteDesks$Wire", "copyLength", "I", false)
  | 4 => ("RemoteDesks$Wire", "rows", "[[B", true)
  | 5 => ("RemoteDesks$Wire", "lengths", "[I", true)
  | _ => ("RemoteDesks$Wire", "order", "[I", true)
def tyX9 : Nat → FieldType := fun k => match k with
  | 0 => .int
  | 1 => .int
  | 2 => .array .byte
  | 3 => .int
  | 4 => .array (.array .byte)
  | 5 => .array .int
  | _ => .array .int
theorem nmX9 : ∀ a, a < 7 → ∀ b, b < 7 → a ≠ b → (TX9 a).2.1 ≠ (TX9 b).2.1 := by decide +kernel
theorem tyX9_ok : ∀ k, k < 7 → parseFieldDescriptor (TX9 k).2.2.1 = some (tyX9 k) := by decide +kernel
def RX10 : String := "RemoteDesks$Writer"
def TX10 : u_T := fun k => match k with
  | 0 => ("RemoteDesks$Writer", "tooGreat", "Z", false)
  | 1 => ("RemoteDesks$Writer", "length", "I", false)
  | 2 => ("RemoteDesks$Writer", "metCount", "I", false)
  | 3 => ("RemoteDesks$Writer", "bytes", "[B", true)
  | _ => ("RemoteDesks$Writer", "met", "[I", true)
def tyX10 : Nat → FieldType := fun k => match k with
  | 0 => .boolean
  | 1 => .int
  | 2 => .int
  | 3 => .array .byte
  | _ => .array .int
theorem nmX10 : ∀ a, a < 5 → ∀ b, b < 5 → a ≠ b → (TX10 a).2.1 ≠ (TX10 b).2.1 := by decide +kernel
theorem tyX10_ok : ∀ k, k < 5 → parseFieldDescriptor (TX10 k).2.2.1 = some (tyX10 k) := by decide +kernel
def RX11 : String := "RemoteDesks"
def TX11 : u_T := fun k => match k with
  | 0 => ("RemoteDesks", "tape", "[B", true)
  | 1 => ("RemoteDesks", "tapeLength", "I", false)
  | 2 => ("RemoteDesks", "book", "LRemoteDesks$Book;", false)
  | 3 => ("RemoteDesks", "described", "Z", false)
  | 4 => ("RemoteDesks", "faultPlace", "I", false)
  | 5 => ("RemoteDesks", "letters", "[B", true)
  | 6 => ("RemoteDesks", "letterCount", "I", false)
  | 7 => ("RemoteDesks", "inHand", "Ljava/util/ArrayList;", true)
  | 8 => ("RemoteDesks", "nodes", "Ljava/util/ArrayList;", true)
  | 9 => ("RemoteDesks", "failures", "Ljava/util/ArrayList;", true)
  | 10 => ("RemoteDesks", "desks", "Ljava/util/ArrayList;", true)
  | 11 => ("RemoteDesks", "things", "Ljava/util/ArrayList;", true)
  | 12 => ("RemoteDesks", "calls", "Ljava/util/ArrayList;", true)
  | 13 => ("RemoteDesks", "wire", "LRemoteDesks$Wire;", true)
  | 14 => ("RemoteDesks", "writer", "LRemoteDesks$Writer;", true)
  | _ => ("RemoteDesks", "time", "I", false)
def tyX11 : Nat → FieldType := fun k => match k with
  | 0 => .array .byte
  | 1 => .int
  | 2 => .object "RemoteDesks$Book"
  | 3 => .boolean
  | 4 => .int
  | 5 => .array .byte
  | 6 => .int
  | 7 => .object "java/util/ArrayList"
  | 8 => .object "java/util/ArrayList"
  | 9 => .object "java/util/ArrayList"
  | 10 => .object "java/util/ArrayList"
  | 11 => .object "java/util/ArrayList"
  | 12 => .object "java/util/ArrayList"
  | 13 => .object "RemoteDesks$Wire"
  | 14 => .object "RemoteDesks$Writer"
  | _ => .int
theorem nmX11 : ∀ a, a < 16 → ∀ b, b < 16 → a ≠ b → (TX11 a).2.1 ≠ (TX11 b).2.1 := by decide +kernel
theorem tyX11_ok : ∀ k, k < 16 → parseFieldDescriptor (TX11 k).2.2.1 = some (tyX11 k) := by decide +kernel
def RX12 : String := "RemoteDesksModel"
def TX12 : u_T := fun k => match k with
  | 0 => ("RemoteDesksModel", "tape", "[I", true)
  | 1 => ("RemoteDesksModel", "taped", "I", false)
  | 2 => ("RemoteDesksModel", "isBook", "Z", false)
  | 3 => ("RemoteDesksModel", "faultPlace", "I", false)
  | 4 => ("RemoteDesksModel", "fault", "I", false)
  | 5 => ("RemoteDesksModel", "at", "I", false)
  | 6 => ("RemoteDesksModel", "from", "I", false)
  | 7 => ("RemoteDesksModel", "token", "I", false)
  | 8 => ("RemoteDesksModel", "word", "J", false)
  | 9 => ("RemoteDesksModel", "kindNames", "[J", true)
  | 10 => ("RemoteDesksModel", "kindOf", "[I", true)
  | 11 => ("RemoteDesksModel", "kinds", "I", false)
  | 12 => ("RemoteDesksModel", "recordNames", "[J", true)
  | 13 => ("RemoteDesksModel", "fields", "[I", true)
  | 14 => ("RemoteDesksModel", "fieldNames", "[J", true)
  | 15 => ("RemoteDesksModel", "fieldSorts", "[I", true)
  | 16 => ("RemoteDesksModel", "records", "I", false)
  | 17 => ("RemoteDesksModel", "serviceNames", "[J", true)
  | 18 => ("RemoteDesksModel", "methods", "[I", true)
  | 19 => ("RemoteDesksModel", "methodNames", "[J", true)
  | 20 => ("RemoteDesksModel", "methodSorts", "[I", true)
  | 21 => ("RemoteDesksModel", "wanted", "[I", true)
  | 22 => ("RemoteDesksModel", "wantedSorts", "[I", true)
  | 23 => ("RemoteDesksModel", "services", "I", false)
  | 24 => ("RemoteDesksModel", "num", "[J", true)
  | 25 => ("RemoteDesksModel", "len", "[I", true)
  | 26 => ("RemoteDesksModel", "letters", "[I", true)
  | 27 => ("RemoteDesksModel", "written", "[I", true)
  | 28 => ("RemoteDesksModel", "writtenMany", "I", false)
  | 29 => ("RemoteDesksModel", "handSorts", "[I", true)
  | 30 => ("RemoteDesksModel", "handMany", "I", false)
  | 31 => ("RemoteDesksModel", "nodeRecord", "[I", true)
  | 32 => ("RemoteDesksModel", "nodes", "I", false)
  | 33 => ("RemoteDesksModel", "desks", "I", false)
  | 34 => ("RemoteDesksModel", "ages", "[I", true)
  | 35 => ("RemoteDesksModel", "known", "[Z", true)
  | 36 => ("RemoteDesksModel", "references", "[I", true)
  | 37 => ("RemoteDesksModel", "stocks", "[I", true)
  | 38 => ("RemoteDesksModel", "sent", "[I", true)
  | 39 => ("RemoteDesksModel", "repeats", "[I", true)
  | 40 => ("RemoteDesksModel", "took", "[I", true)
  | 41 => ("RemoteDesksModel", "objects", "I", false)
  | 42 => ("RemoteDesksModel", "objectDesk", "[I", true)
  | 43 => ("RemoteDesksModel", "objectService", "[I", true)
  | 44 => ("RemoteDesksModel", "deeds", "[I", true)
  | 45 => ("RemoteDesksModel", "withs", "[I", true)
  | 46 => ("RemoteDesksModel", "withMethods", "[I", true)
  | 47 => ("RemoteDesksModel", "deedCounts", "[I", true)
  | 48 => ("RemoteDesksModel", "totals", "[J", true)
  | 49 => ("RemoteDesksModel", "keeps", "[I", true)
  | 50 => ("RemoteDesksModel", "failures", "I", false)
  | 51 => ("RemoteDesksModel", "failureKinds", "[I", true)
  | 52 => ("RemoteDesksModel", "failureNotes", "[I", true)
  | 53 => ("RemoteDesksModel", "causes", "[I", true)
  | 54 => ("RemoteDesksModel", "besides", "[I", true)
  | 55 => ("RemoteDesksModel", "besideMany", "[I", true)
  | 56 => ("RemoteDesksModel", "sizes", "[I", true)
  | 57 => ("RemoteDesksModel", "calls", "I", false)
  | 58 => ("RemoteDesksModel", "callers", "[I", true)
  | 59 => ("RemoteDesksModel", "callObject", "[I", true)
  | 60 => ("RemoteDesksModel", "callMethod", "[I", true)
  | 61 => ("RemoteDesksModel", "servers", "[I", true)
  | 62 => ("RemoteDesksModel", "states", "[I", true)
  | 63 => ("RemoteDesksModel", "outer", "[I", true)
  | 64 => ("RemoteDesksModel", "isAwaited", "[Z", true)
  | 65 => ("RemoteDesksModel", "sends", "[I", true)
  | 66 => ("RemoteDesksModel", "sentAt", "[I", true)
  | 67 => ("RemoteDesksModel", "requests", "[I", true)
  | 68 => ("RemoteDesksModel", "requestSize", "[I", true)
  | 69 => ("RemoteDesksModel", "begun", "[Z", true)
  | 70 => ("RemoteDesksModel", "shelved", "[Z", true)
  | 71 => ("RemoteDesksModel", "answers", "[I", true)
  | 72 => ("RemoteDesksModel", "answerSize", "[I", true)
  | 73 => ("RemoteDesksModel", "carried", "[I", true)
  | 74 => ("RemoteDesksModel", "isMoved", "[Z", true)
  | 75 => ("RemoteDesksModel", "time", "I", false)
  | 76 => ("RemoteDesksModel", "treeMany", "[I", true)
  | 77 => ("RemoteDesksModel", "treeRows", "[I", true)
  | 78 => ("RemoteDesksModel", "isFailing", "Z", false)
  | 79 => ("RemoteDesksModel", "below", "[I", true)
  | 80 => ("RemoteDesksModel", "message", "[I", true)
  | 81 => ("RemoteDesksModel", "messageSize", "I", false)
  | 82 => ("RemoteDesksModel", "isGreat", "Z", false)
  | 83 => ("RemoteDesksModel", "met", "[I", true)
  | 84 => ("RemoteDesksModel", "metMany", "I", false)
  | 85 => ("RemoteDesksModel", "todoCells", "[I", true)
  | 86 => ("RemoteDesksModel", "todoSorts", "[I", true)
  | 87 => ("RemoteDesksModel", "todo", "I", false)
  | 88 => ("RemoteDesksModel", "readAt", "I", false)
  | 89 => ("RemoteDesksModel", "readEnd", "I", false)
  | 90 => ("RemoteDesksModel", "came", "I", false)
  | 91 => ("RemoteDesksModel", "cameNodes", "[I", true)
  | 92 => ("RemoteDesksModel", "slots", "[I", true)
  | 93 => ("RemoteDesksModel", "slotSize", "[I", true)
  | 94 => ("RemoteDesksModel", "slotMany", "I", false)
  | 95 => ("RemoteDesksModel", "lostMany", "I", false)
  | 96 => ("RemoteDesksModel", "got", "[I", true)
  | 97 => ("RemoteDesksModel", "gotSize", "[I", true)
  | 98 => ("RemoteDesksModel", "gotOf", "[I", true)
  | 99 => ("RemoteDesksModel", "gotBits", "[I", true)
  | _ => ("RemoteDesksModel", "reached", "[I", true)
def tyX12 : Nat → FieldType := fun k => match k with
  | 0 => .array .int
  | 1 => .int
  | 2 => .boolean
  | 3 => .int
  | 4 => .int
  | 5 => .int
  | 6 => .int
  | 7 => .int
  | 8 => .long
  | 9 => .array .long
  | 10 => .array .int
  | 11 => .int
  | 12 => .array .long
  | 13 => .array .int
  | 14 => .array .long
  | 15 => .array .int
  | 16 => .int
  | 17 => .array .long
  | 18 => .array .int
  | 19 => .array .long
  | 20 => .array .int
  | 21 => .array .int
  | 22 => .array .int
  | 23 => .int
  | 24 => .array .long
  | 25 => .array .int
  | 26 => .array .int
  | 27 => .array .int
  | 28 => .int
  | 29 => .array .int
  | 30 => .int
  | 31 => .array .int
  | 32 => .int
  | 33 => .int
  | 34 => .array .int
  | 35 => .array .boolean
  | 36 => .array .int
  | 37 => .array .int
  | 38 => .array .int
  | 39 => .array .int
  | 40 => .array .int
  | 41 => .int
  | 42 => .array .int
  | 43 => .array .int
  | 44 => .array .int
  | 45 => .array .int
  | 46 => .array .int
  | 47 => .array .int
  | 48 => .array .long
  | 49 => .array .int
  | 50 => .int
  | 51 => .array .int
  | 52 => .array .int
  | 53 => .array .int
  | 54 => .array .int
  | 55 => .array .int
  | 56 => .array .int
  | 57 => .int
  | 58 => .array .int
  | 59 => .array .int
  | 60 => .array .int
  | 61 => .array .int
  | 62 => .array .int
  | 63 => .array .int
  | 64 => .array .boolean
  | 65 => .array .int
  | 66 => .array .int
  | 67 => .array .int
  | 68 => .array .int
  | 69 => .array .boolean
  | 70 => .array .boolean
  | 71 => .array .int
  | 72 => .array .int
  | 73 => .array .int
  | 74 => .array .boolean
  | 75 => .int
  | 76 => .array .int
  | 77 => .array .int
  | 78 => .boolean
  | 79 => .array .int
  | 80 => .array .int
  | 81 => .int
  | 82 => .boolean
  | 83 => .array .int
  | 84 => .int
  | 85 => .array .int
  | 86 => .array .int
  | 87 => .int
  | 88 => .int
  | 89 => .int
  | 90 => .int
  | 91 => .array .int
  | 92 => .array .int
  | 93 => .array .int
  | 94 => .int
  | 95 => .int
  | 96 => .array .int
  | 97 => .array .int
  | 98 => .array .int
  | 99 => .array .int
  | _ => .array .int
theorem nmX12 : ∀ a, a < 101 → ∀ b, b < 101 → a ≠ b → (TX12 a).2.1 ≠ (TX12 b).2.1 := by decide +kernel
theorem tyX12_ok : ∀ k, k < 101 → parseFieldDescriptor (TX12 k).2.2.1 = some (tyX12 k) := by decide +kernel
abbrev vwCl : List vw_C := [(RJx4a65c, TJx4a65c, 3), (RX0, TX0, 13), (RX1, TX1, 9), (RX2, TX2, 17), (RX3, TX3, 8), (RX4, TX4, 5), (RX5, TX5, 8), (RX6, TX6, 2), (RX7, TX7, 9), (RX8, TX8, 3), (RX9, TX9, 7), (RX10, TX10, 5), (RX11, TX11, 16), (RX12, TX12, 101)]
theorem inPos (ws : List Cond) (ps : List Nat) (hp : ws = ps.filterMap (fun i => lw_tbl[i]?)) : ∀ w ∈ ws, w ∈ lw_tbl := by
  intro w hw
  rw [hp] at hw
  obtain ⟨i, -, hi⟩ := List.mem_filterMap.mp hw
  exact List.mem_of_getElem? hi
set_option maxRecDepth 20000 in
theorem inJx4a65c : ∀ w ∈ u_ws RJx4a65c TJx4a65c 3, w ∈ lw_tbl := inPos _ [257, 253, 255] (by decide +kernel)
set_option maxRecDepth 20000 in
theorem inX0 : ∀ w ∈ u_ws RX0 TX0 13, w ∈ lw_tbl := inPos _ [204, 206, 208, 210, 212, 214, 216, 218, 220, 222, 224, 226, 228] (by decide +kernel)
set_option maxRecDepth 20000 in
theorem inX1 : ∀ w ∈ u_ws RX1 TX1 9, w ∈ lw_tbl := inPos _ [408, 410, 412, 414, 416, 418, 420, 422, 424] (by decide +kernel)
set_option maxRecDepth 20000 in
theorem inX2 : ∀ w ∈ u_ws RX2 TX2 17, w ∈ lw_tbl := inPos _ [1003, 1005, 1007, 1009, 1011, 1013, 1015, 1017, 1019, 1021, 1023, 1025, 1027, 1029, 1031, 1033, 1035] (by decide +kernel)
set_option maxRecDepth 20000 in
theorem inX3 : ∀ w ∈ u_ws RX3 TX3 8, w ∈ lw_tbl := inPos _ [764, 766, 768, 770, 772, 774, 776, 778] (by decide +kernel)
set_option maxRecDepth 20000 in
theorem inX4 : ∀ w ∈ u_ws RX4 TX4 5, w ∈ lw_tbl := inPos _ [861, 863, 865, 867, 869] (by decide +kernel)
set_option maxRecDepth 20000 in
theorem inX5 : ∀ w ∈ u_ws RX5 TX5 8, w ∈ lw_tbl := inPos _ [1206, 1208, 1210, 1212, 1214, 1216, 1218, 1220] (by decide +kernel)
set_option maxRecDepth 20000 in
theorem inX6 : ∀ w ∈ u_ws RX6 TX6 2, w ∈ lw_tbl := inPos _ [579, 581] (by decide +kernel)
set_option maxRecDepth 20000 in
theorem inX7 : ∀ w ∈ u_ws RX7 TX7 9, w ∈ lw_tbl := inPos _ [819, 821, 823, 825, 827, 829, 831, 833, 835] (by decide +kernel)
set_option maxRecDepth 20000 in
theorem inX8 : ∀ w ∈ u_ws RX8 TX8 3, w ∈ lw_tbl := inPos _ [566, 568, 570] (by decide +kernel)
set_option maxRecDepth 20000 in
theorem inX9 : ∀ w ∈ u_ws RX9 TX9 7, w ∈ lw_tbl := inPos _ [279, 281, 283, 285, 287, 289, 291] (by decide +kernel)
set_option maxRecDepth 20000 in
theorem inX10 : ∀ w ∈ u_ws RX10 TX10 5, w ∈ lw_tbl := inPos _ [306, 308, 310, 312, 314] (by decide +kernel)
set_option maxRecDepth 20000 in
theorem inX11 : ∀ w ∈ u_ws RX11 TX11 16, w ∈ lw_tbl := inPos _ [333, 335, 337, 339, 341, 343, 345, 347, 349, 351, 353, 355, 357, 359, 361, 363] (by decide +kernel)
set_option maxRecDepth 20000 in
theorem inX12 : ∀ w ∈ u_ws RX12 TX12 101, w ∈ lw_tbl := inPos _ [1501, 1503, 1505, 1507, 1509, 1511, 1513, 1515, 1517, 1519, 1521, 1523, 1525, 1527, 1529, 1531, 1533, 1535, 1537, 1539, 1541, 1543, 1545, 1547, 1549, 1551, 1553, 1555, 1557, 1559, 1561, 1563, 1565, 1567, 1569, 1571, 1573, 1575, 1577, 1579, 1581, 1583, 1585, 1587, 1589, 1591, 1593, 1595, 1597, 1599, 1601, 1603, 1605, 1607, 1609, 1611, 1613, 1615, 1617, 1619, 1621, 1623, 1625, 1627, 1629, 1631, 1633, 1635, 1637, 1639, 1641, 1643, 1645, 1647, 1649, 1651, 1653, 1655, 1657, 1659, 1661, 1663, 1665, 1667, 1669, 1671, 1673, 1675, 1677, 1679, 1681, 1683, 1685, 1687, 1689, 1691, 1693, 1695, 1697, 1699, 1701] (by decide +kernel)
abbrev cnl : List String := ["java/util/ArrayList", "RemoteDesks$Book", "RemoteDesks$BookReader", "RemoteDesks$Call", "RemoteDesks$Desk", "RemoteDesks$Failure", "RemoteDesks$Incoming", "RemoteDesks$Node", "RemoteDesks$Thing", "RemoteDesks$Value", "RemoteDesks$Wire", "RemoteDesks$Writer", "RemoteDesks", "RemoteDesksModel", "RemoteDesksLaw", "java/util/AbstractList", "java/util/AbstractCollection", "java/lang/Math", "java/util/Objects", "jdk/internal/util/Preconditions", "jdk/internal/util/ArraysSupport", "java/util/Arrays", "java/lang/Object"]
def cn (o : Nat) : String := cnl.getD o ""
