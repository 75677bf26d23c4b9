section
-- ===== PART A: goes FIRST, ahead of the names: the tables' words, and 'selects' of the private methods out of them =====
/-- a private method of a class that the tables say can be made, by its rows of tables_1 -/
def lw_okq (q : MethodName × Nat) : Prop := (q.1.cls ≠ "java/lang/invoke/MethodHandle" ∧ q.1.cls ≠ "java/lang/invoke/VarHandle") ∧ Cond.instantiable q.1.cls q.2 ∈ tables_1 ∧ Cond.privateMethod q.1 ∈ tables_1 ∧ Cond.instanceMethod q.1 ∈ tables_1
theorem lw_p0 : lw_okq (⟨"RemoteCells$Text", "wordOfToken", "()I"⟩, 7) := ⟨⟨by decide +kernel, by decide +kernel⟩, List.mem_of_getElem? (i := 113) (by decide +kernel), List.mem_of_getElem? (i := 403) (by decide +kernel), List.mem_of_getElem? (i := 404) (by decide +kernel)⟩
theorem lw_p1 : lw_okq (⟨"RemoteCells$Text", "isToken", "(Ljava/lang/String;)Z"⟩, 7) := ⟨⟨by decide +kernel, by decide +kernel⟩, List.mem_of_getElem? (i := 113) (by decide +kernel), List.mem_of_getElem? (i := 408) (by decide +kernel), List.mem_of_getElem? (i := 409) (by decide +kernel)⟩
theorem lw_p2 : lw_okq (⟨"RemoteCells$Text", "readNumber", "(III)Z"⟩, 7) := ⟨⟨by decide +kernel, by decide +kernel⟩, List.mem_of_getElem? (i := 113) (by decide +kernel), List.mem_of_getElem? (i := 465) (by decide +kernel), List.mem_of_getElem? (i := 466) (by decide +kernel)⟩
theorem lw_p3 : lw_okq (⟨"RemoteCells", "doClause", "(I[I)V"⟩, 6) := ⟨⟨by decide +kernel, by decide +kernel⟩, List.mem_of_getElem? (i := 17) (by decide +kernel), List.mem_of_getElem? (i := 477) (by decide +kernel), List.mem_of_getElem? (i := 478) (by decide +kernel)⟩
theorem lw_p4 : lw_okq (⟨"RemoteCells", "resetAll", "()V"⟩, 6) := ⟨⟨by decide +kernel, by decide +kernel⟩, List.mem_of_getElem? (i := 17) (by decide +kernel), List.mem_of_getElem? (i := 481) (by decide +kernel), List.mem_of_getElem? (i := 482) (by decide +kernel)⟩
theorem lw_p5 : lw_okq (⟨"RemoteCells", "hasReadyEnd", "(I)Z"⟩, 6) := ⟨⟨by decide +kernel, by decide +kernel⟩, List.mem_of_getElem? (i := 17) (by decide +kernel), List.mem_of_getElem? (i := 510) (by decide +kernel), List.mem_of_getElem? (i := 511) (by decide +kernel)⟩
theorem lw_p6 : lw_okq (⟨"RemoteCells", "joinLine", "(I)V"⟩, 6) := ⟨⟨by decide +kernel, by decide +kernel⟩, List.mem_of_getElem? (i := 17) (by decide +kernel), List.mem_of_getElem? (i := 520) (by decide +kernel), List.mem_of_getElem? (i := 521) (by decide +kernel)⟩
theorem lw_p7 : lw_okq (⟨"RemoteCells$Wire", "removeAt", "(I)V"⟩, 6) := ⟨⟨by decide +kernel, by decide +kernel⟩, List.mem_of_getElem? (i := 29) (by decide +kernel), List.mem_of_getElem? (i := 532) (by decide +kernel), List.mem_of_getElem? (i := 533) (by decide +kernel)⟩
theorem lw_p8 : lw_okq (⟨"RemoteCells", "readyEnds", "()I"⟩, 6) := ⟨⟨by decide +kernel, by decide +kernel⟩, List.mem_of_getElem? (i := 17) (by decide +kernel), List.mem_of_getElem? (i := 580) (by decide +kernel), List.mem_of_getElem? (i := 581) (by decide +kernel)⟩
theorem lw_p9 : lw_okq (⟨"RemoteCells$End", "finishOldest", "(II)V"⟩, 16) := ⟨⟨by decide +kernel, by decide +kernel⟩, List.mem_of_getElem? (i := 208) (by decide +kernel), List.mem_of_getElem? (i := 595) (by decide +kernel), List.mem_of_getElem? (i := 596) (by decide +kernel)⟩
theorem lw_p10 : lw_okq (⟨"RemoteCells$End", "openFetches", "()I"⟩, 16) := ⟨⟨by decide +kernel, by decide +kernel⟩, List.mem_of_getElem? (i := 208) (by decide +kernel), List.mem_of_getElem? (i := 653) (by decide +kernel), List.mem_of_getElem? (i := 654) (by decide +kernel)⟩
theorem lw_p11 : lw_okq (⟨"RemoteCells$End", "request", "(LRemoteCells$Work;)V"⟩, 16) := ⟨⟨by decide +kernel, by decide +kernel⟩, List.mem_of_getElem? (i := 208) (by decide +kernel), List.mem_of_getElem? (i := 657) (by decide +kernel), List.mem_of_getElem? (i := 658) (by decide +kernel)⟩
theorem lw_p12 : lw_okq (⟨"RemoteCells$End", "meetAnswer", "(LRemoteCells$Packet;)V"⟩, 16) := ⟨⟨by decide +kernel, by decide +kernel⟩, List.mem_of_getElem? (i := 208) (by decide +kernel), List.mem_of_getElem? (i := 723) (by decide +kernel), List.mem_of_getElem? (i := 724) (by decide +kernel)⟩
theorem lw_p13 : lw_okq (⟨"RemoteCells$End", "isAwaited", "(LRemoteCells$Packet;)Z"⟩, 16) := ⟨⟨by decide +kernel, by decide +kernel⟩, List.mem_of_getElem? (i := 208) (by decide +kernel), List.mem_of_getElem? (i := 727) (by decide +kernel), List.mem_of_getElem? (i := 728) (by decide +kernel)⟩
theorem lw_p14 : lw_okq (⟨"RemoteCells$End", "finishBelow", "(I)Z"⟩, 16) := ⟨⟨by decide +kernel, by decide +kernel⟩, List.mem_of_getElem? (i := 208) (by decide +kernel), List.mem_of_getElem? (i := 731) (by decide +kernel), List.mem_of_getElem? (i := 732) (by decide +kernel)⟩
theorem lw_p15 : lw_okq (⟨"RemoteCells$End", "bringHome", "(I)V"⟩, 16) := ⟨⟨by decide +kernel, by decide +kernel⟩, List.mem_of_getElem? (i := 208) (by decide +kernel), List.mem_of_getElem? (i := 740) (by decide +kernel), List.mem_of_getElem? (i := 741) (by decide +kernel)⟩
def lw_privs_1 : List (MethodName × Nat) := [(⟨"RemoteCells$Text", "wordOfToken", "()I"⟩, 7), (⟨"RemoteCells$Text", "isToken", "(Ljava/lang/String;)Z"⟩, 7), (⟨"RemoteCells$Text", "readNumber", "(III)Z"⟩, 7), (⟨"RemoteCells", "doClause", "(I[I)V"⟩, 6), (⟨"RemoteCells", "resetAll", "()V"⟩, 6), (⟨"RemoteCells", "hasReadyEnd", "(I)Z"⟩, 6), (⟨"RemoteCells", "joinLine", "(I)V"⟩, 6), (⟨"RemoteCells$Wire", "removeAt", "(I)V"⟩, 6), (⟨"RemoteCells", "readyEnds", "()I"⟩, 6), (⟨"RemoteCells$End", "finishOldest", "(II)V"⟩, 16), (⟨"RemoteCells$End", "openFetches", "()I"⟩, 16), (⟨"RemoteCells$End", "request", "(LRemoteCells$Work;)V"⟩, 16), (⟨"RemoteCells$End", "meetAnswer", "(LRemoteCells$Packet;)V"⟩, 16), (⟨"RemoteCells$End", "isAwaited", "(LRemoteCells$Packet;)Z"⟩, 16), (⟨"RemoteCells$End", "finishBelow", "(I)Z"⟩, 16), (⟨"RemoteCells$End", "bringHome", "(I)V"⟩, 16)]
theorem lw_r1 : ∀ q ∈ lw_privs_1, lw_okq q := List.forall_mem_cons.mpr ⟨lw_p0, List.forall_mem_cons.mpr ⟨lw_p1, List.forall_mem_cons.mpr ⟨lw_p2, List.forall_mem_cons.mpr ⟨lw_p3, List.forall_mem_cons.mpr ⟨lw_p4, List.forall_mem_cons.mpr ⟨lw_p5, List.forall_mem_cons.mpr ⟨lw_p6, List.forall_mem_cons.mpr ⟨lw_p7, List.forall_mem_cons.mpr ⟨lw_p8, List.forall_mem_cons.mpr ⟨lw_p9, List.forall_mem_cons.mpr ⟨lw_p10, List.forall_mem_cons.mpr ⟨lw_p11, List.forall_mem_cons.mpr ⟨lw_p12, List.forall_mem_cons.mpr ⟨lw_p13, List.forall_mem_cons.mpr ⟨lw_p14, List.forall_mem_cons.mpr ⟨lw_p15, fun _ h => absurd h List.not_mem_nil⟩⟩⟩⟩⟩⟩⟩⟩⟩⟩⟩⟩⟩⟩⟩⟩
theorem lw_p16 : lw_okq (⟨"RemoteCells$End", "bearBusy", "()V"⟩, 16) := ⟨⟨by decide +kernel, by decide +kernel⟩, List.mem_of_getElem? (i := 208) (by decide +kernel), List.mem_of_getElem? (i := 744) (by decide +kernel), List.mem_of_getElem? (i := 745) (by decide +kernel)⟩
theorem lw_p17 : lw_okq (⟨"RemoteCells$End", "complain", "()V"⟩, 16) := ⟨⟨by decide +kernel, by decide +kernel⟩, List.mem_of_getElem? (i := 208) (by decide +kernel), List.mem_of_getElem? (i := 748) (by decide +kernel), List.mem_of_getElem? (i := 749) (by decide +kernel)⟩
theorem lw_p18 : lw_okq (⟨"RemoteCells$End", "answer", "(III)V"⟩, 16) := ⟨⟨by decide +kernel, by decide +kernel⟩, List.mem_of_getElem? (i := 208) (by decide +kernel), List.mem_of_getElem? (i := 752) (by decide +kernel), List.mem_of_getElem? (i := 753) (by decide +kernel)⟩
theorem lw_p19 : lw_okq (⟨"RemoteCells$End", "meetOldRequest", "(LRemoteCells$Packet;)V"⟩, 16) := ⟨⟨by decide +kernel, by decide +kernel⟩, List.mem_of_getElem? (i := 208) (by decide +kernel), List.mem_of_getElem? (i := 760) (by decide +kernel), List.mem_of_getElem? (i := 761) (by decide +kernel)⟩
theorem lw_p20 : lw_okq (⟨"RemoteCells$End", "reach", "(LRemoteCells$Packet;)I"⟩, 16) := ⟨⟨by decide +kernel, by decide +kernel⟩, List.mem_of_getElem? (i := 208) (by decide +kernel), List.mem_of_getElem? (i := 764) (by decide +kernel), List.mem_of_getElem? (i := 765) (by decide +kernel)⟩
theorem lw_p21 : lw_okq (⟨"RemoteCells$End", "reasonAgainst", "(LRemoteCells$Packet;)I"⟩, 16) := ⟨⟨by decide +kernel, by decide +kernel⟩, List.mem_of_getElem? (i := 208) (by decide +kernel), List.mem_of_getElem? (i := 768) (by decide +kernel), List.mem_of_getElem? (i := 769) (by decide +kernel)⟩
theorem lw_p22 : lw_okq (⟨"RemoteCells$End", "meetExpected", "(LRemoteCells$Packet;)V"⟩, 16) := ⟨⟨by decide +kernel, by decide +kernel⟩, List.mem_of_getElem? (i := 208) (by decide +kernel), List.mem_of_getElem? (i := 783) (by decide +kernel), List.mem_of_getElem? (i := 784) (by decide +kernel)⟩
theorem lw_p23 : lw_okq (⟨"RemoteCells$End", "takeIn", "(LRemoteCells$Packet;)I"⟩, 16) := ⟨⟨by decide +kernel, by decide +kernel⟩, List.mem_of_getElem? (i := 208) (by decide +kernel), List.mem_of_getElem? (i := 787) (by decide +kernel), List.mem_of_getElem? (i := 788) (by decide +kernel)⟩
theorem lw_p24 : lw_okq (⟨"RemoteCellsModel", "readsAll", "(Z)Z"⟩, 39) := ⟨⟨by decide +kernel, by decide +kernel⟩, List.mem_of_getElem? (i := 829) (by decide +kernel), List.mem_of_getElem? (i := 970) (by decide +kernel), List.mem_of_getElem? (i := 971) (by decide +kernel)⟩
theorem lw_p25 : lw_okq (⟨"RemoteCellsModel", "next", "()V"⟩, 39) := ⟨⟨by decide +kernel, by decide +kernel⟩, List.mem_of_getElem? (i := 829) (by decide +kernel), List.mem_of_getElem? (i := 974) (by decide +kernel), List.mem_of_getElem? (i := 975) (by decide +kernel)⟩
theorem lw_p26 : lw_okq (⟨"RemoteCellsModel", "readsClause", "()Z"⟩, 39) := ⟨⟨by decide +kernel, by decide +kernel⟩, List.mem_of_getElem? (i := 829) (by decide +kernel), List.mem_of_getElem? (i := 988) (by decide +kernel), List.mem_of_getElem? (i := 989) (by decide +kernel)⟩
theorem lw_p27 : lw_okq (⟨"RemoteCellsModel", "wordHere", "()I"⟩, 39) := ⟨⟨by decide +kernel, by decide +kernel⟩, List.mem_of_getElem? (i := 829) (by decide +kernel), List.mem_of_getElem? (i := 992) (by decide +kernel), List.mem_of_getElem? (i := 993) (by decide +kernel)⟩
theorem lw_p28 : lw_okq (⟨"RemoteCellsModel", "readsRest", "(I)Z"⟩, 39) := ⟨⟨by decide +kernel, by decide +kernel⟩, List.mem_of_getElem? (i := 829) (by decide +kernel), List.mem_of_getElem? (i := 996) (by decide +kernel), List.mem_of_getElem? (i := 997) (by decide +kernel)⟩
theorem lw_p29 : lw_okq (⟨"RemoteCellsModel", "reads", "(III)Z"⟩, 39) := ⟨⟨by decide +kernel, by decide +kernel⟩, List.mem_of_getElem? (i := 829) (by decide +kernel), List.mem_of_getElem? (i := 1000) (by decide +kernel), List.mem_of_getElem? (i := 1001) (by decide +kernel)⟩
theorem lw_p30 : lw_okq (⟨"RemoteCellsModel", "does", "(I)V"⟩, 39) := ⟨⟨by decide +kernel, by decide +kernel⟩, List.mem_of_getElem? (i := 829) (by decide +kernel), List.mem_of_getElem? (i := 1004) (by decide +kernel), List.mem_of_getElem? (i := 1005) (by decide +kernel)⟩
theorem lw_p31 : lw_okq (⟨"RemoteCellsModel", "allAnew", "()V"⟩, 39) := ⟨⟨by decide +kernel, by decide +kernel⟩, List.mem_of_getElem? (i := 829) (by decide +kernel), List.mem_of_getElem? (i := 1008) (by decide +kernel), List.mem_of_getElem? (i := 1009) (by decide +kernel)⟩
def lw_privs_2 : List (MethodName × Nat) := [(⟨"RemoteCells$End", "bearBusy", "()V"⟩, 16), (⟨"RemoteCells$End", "complain", "()V"⟩, 16), (⟨"RemoteCells$End", "answer", "(III)V"⟩, 16), (⟨"RemoteCells$End", "meetOldRequest", "(LRemoteCells$Packet;)V"⟩, 16), (⟨"RemoteCells$End", "reach", "(LRemoteCells$Packet;)I"⟩, 16), (⟨"RemoteCells$End", "reasonAgainst", "(LRemoteCells$Packet;)I"⟩, 16), (⟨"RemoteCells$End", "meetExpected", "(LRemoteCells$Packet;)V"⟩, 16), (⟨"RemoteCells$End", "takeIn", "(LRemoteCells$Packet;)I"⟩, 16), (⟨"RemoteCellsModel", "readsAll", "(Z)Z"⟩, 39), (⟨"RemoteCellsModel", "next", "()V"⟩, 39), (⟨"RemoteCellsModel", "readsClause", "()Z"⟩, 39), (⟨"RemoteCellsModel", "wordHere", "()I"⟩, 39), (⟨"RemoteCellsModel", "readsRest", "(I)Z"⟩, 39), (⟨"RemoteCellsModel", "reads", "(III)Z"⟩, 39), (⟨"RemoteCellsModel", "does", "(I)V"⟩, 39), (⟨"RemoteCellsModel", "allAnew", "()V"⟩, 39)]
theorem lw_r2 : ∀ q ∈ lw_privs_2, lw_okq q := List.forall_mem_cons.mpr ⟨lw_p16, List.forall_mem_cons.mpr ⟨lw_p17, List.forall_mem_cons.mpr ⟨lw_p18, List.forall_mem_cons.mpr ⟨lw_p19, List.forall_mem_cons.mpr ⟨lw_p20, List.forall_mem_cons.mpr ⟨lw_p21, List.forall_mem_cons.mpr ⟨lw_p22, List.forall_mem_cons.mpr ⟨lw_p23, List.forall_mem_cons.mpr ⟨lw_p24, List.forall_mem_cons.mpr ⟨lw_p25, List.forall_mem_cons.mpr ⟨lw_p26, List.forall_mem_cons.mpr ⟨lw_p27, List.forall_mem_cons.mpr ⟨lw_p28, List.forall_mem_cons.mpr ⟨lw_p29, List.forall_mem_cons.mpr ⟨lw_p30, List.forall_mem_cons.mpr ⟨lw_p31, fun _ h => absurd h List.not_mem_nil⟩⟩⟩⟩⟩⟩⟩⟩⟩⟩⟩⟩⟩⟩⟩⟩
theorem lw_p32 : lw_okq (⟨"RemoteCellsModel", "endAnew", "(II)V"⟩, 39) := ⟨⟨by decide +kernel, by decide +kernel⟩, List.mem_of_getElem? (i := 829) (by decide +kernel), List.mem_of_getElem? (i := 1012) (by decide +kernel), List.mem_of_getElem? (i := 1013) (by decide +kernel)⟩
theorem lw_p33 : lw_okq (⟨"RemoteCellsModel", "keys", "(IIII)V"⟩, 39) := ⟨⟨by decide +kernel, by decide +kernel⟩, List.mem_of_getElem? (i := 829) (by decide +kernel), List.mem_of_getElem? (i := 1016) (by decide +kernel), List.mem_of_getElem? (i := 1017) (by decide +kernel)⟩
theorem lw_p34 : lw_okq (⟨"RemoteCellsModel", "joins", "(I)V"⟩, 39) := ⟨⟨by decide +kernel, by decide +kernel⟩, List.mem_of_getElem? (i := 829) (by decide +kernel), List.mem_of_getElem? (i := 1020) (by decide +kernel), List.mem_of_getElem? (i := 1021) (by decide +kernel)⟩
theorem lw_p35 : lw_okq (⟨"RemoteCellsModel", "isReady", "(I)Z"⟩, 39) := ⟨⟨by decide +kernel, by decide +kernel⟩, List.mem_of_getElem? (i := 829) (by decide +kernel), List.mem_of_getElem? (i := 1024) (by decide +kernel), List.mem_of_getElem? (i := 1025) (by decide +kernel)⟩
theorem lw_p36 : lw_okq (⟨"RemoteCellsModel", "copyPacket", "(II)V"⟩, 39) := ⟨⟨by decide +kernel, by decide +kernel⟩, List.mem_of_getElem? (i := 829) (by decide +kernel), List.mem_of_getElem? (i := 1028) (by decide +kernel), List.mem_of_getElem? (i := 1029) (by decide +kernel)⟩
theorem lw_p37 : lw_okq (⟨"RemoteCellsModel", "keysOf", "(I)I"⟩, 39) := ⟨⟨by decide +kernel, by decide +kernel⟩, List.mem_of_getElem? (i := 829) (by decide +kernel), List.mem_of_getElem? (i := 1061) (by decide +kernel), List.mem_of_getElem? (i := 1062) (by decide +kernel)⟩
theorem lw_p38 : lw_okq (⟨"RemoteCellsModel", "readyEnds", "()I"⟩, 39) := ⟨⟨by decide +kernel, by decide +kernel⟩, List.mem_of_getElem? (i := 829) (by decide +kernel), List.mem_of_getElem? (i := 1078) (by decide +kernel), List.mem_of_getElem? (i := 1079) (by decide +kernel)⟩
theorem lw_p39 : lw_okq (⟨"RemoteCellsModel", "breaks", "(I)V"⟩, 39) := ⟨⟨by decide +kernel, by decide +kernel⟩, List.mem_of_getElem? (i := 829) (by decide +kernel), List.mem_of_getElem? (i := 1089) (by decide +kernel), List.mem_of_getElem? (i := 1090) (by decide +kernel)⟩
theorem lw_p40 : lw_okq (⟨"RemoteCellsModel", "tellsOldest", "(III)V"⟩, 39) := ⟨⟨by decide +kernel, by decide +kernel⟩, List.mem_of_getElem? (i := 829) (by decide +kernel), List.mem_of_getElem? (i := 1093) (by decide +kernel), List.mem_of_getElem? (i := 1094) (by decide +kernel)⟩
theorem lw_p41 : lw_okq (⟨"RemoteCellsModel", "tells", "(IIIII)V"⟩, 39) := ⟨⟨by decide +kernel, by decide +kernel⟩, List.mem_of_getElem? (i := 829) (by decide +kernel), List.mem_of_getElem? (i := 1097) (by decide +kernel), List.mem_of_getElem? (i := 1098) (by decide +kernel)⟩
theorem lw_p42 : lw_okq (⟨"RemoteCellsModel", "firstPacket", "()I"⟩, 39) := ⟨⟨by decide +kernel, by decide +kernel⟩, List.mem_of_getElem? (i := 829) (by decide +kernel), List.mem_of_getElem? (i := 1114) (by decide +kernel), List.mem_of_getElem? (i := 1115) (by decide +kernel)⟩
theorem lw_p43 : lw_okq (⟨"RemoteCellsModel", "requested", "(III)V"⟩, 39) := ⟨⟨by decide +kernel, by decide +kernel⟩, List.mem_of_getElem? (i := 829) (by decide +kernel), List.mem_of_getElem? (i := 1118) (by decide +kernel), List.mem_of_getElem? (i := 1119) (by decide +kernel)⟩
theorem lw_p44 : lw_okq (⟨"RemoteCellsModel", "sends", "(IIIII)V"⟩, 39) := ⟨⟨by decide +kernel, by decide +kernel⟩, List.mem_of_getElem? (i := 829) (by decide +kernel), List.mem_of_getElem? (i := 1122) (by decide +kernel), List.mem_of_getElem? (i := 1123) (by decide +kernel)⟩
theorem lw_p45 : lw_okq (⟨"RemoteCellsModel", "accesses", "(III)V"⟩, 39) := ⟨⟨by decide +kernel, by decide +kernel⟩, List.mem_of_getElem? (i := 829) (by decide +kernel), List.mem_of_getElem? (i := 1126) (by decide +kernel), List.mem_of_getElem? (i := 1127) (by decide +kernel)⟩
theorem lw_p46 : lw_okq (⟨"RemoteCellsModel", "reasonOf", "(III)I"⟩, 39) := ⟨⟨by decide +kernel, by decide +kernel⟩, List.mem_of_getElem? (i := 829) (by decide +kernel), List.mem_of_getElem? (i := 1130) (by decide +kernel), List.mem_of_getElem? (i := 1131) (by decide +kernel)⟩
theorem lw_p47 : lw_okq (⟨"RemoteCellsModel", "changesMore", "(III)V"⟩, 39) := ⟨⟨by decide +kernel, by decide +kernel⟩, List.mem_of_getElem? (i := 829) (by decide +kernel), List.mem_of_getElem? (i := 1134) (by decide +kernel), List.mem_of_getElem? (i := 1135) (by decide +kernel)⟩
def lw_privs_3 : List (MethodName × Nat) := [(⟨"RemoteCellsModel", "endAnew", "(II)V"⟩, 39), (⟨"RemoteCellsModel", "keys", "(IIII)V"⟩, 39), (⟨"RemoteCellsModel", "joins", "(I)V"⟩, 39), (⟨"RemoteCellsModel", "isReady", "(I)Z"⟩, 39), (⟨"RemoteCellsModel", "copyPacket", "(II)V"⟩, 39), (⟨"RemoteCellsModel", "keysOf", "(I)I"⟩, 39), (⟨"RemoteCellsModel", "readyEnds", "()I"⟩, 39), (⟨"RemoteCellsModel", "breaks", "(I)V"⟩, 39), (⟨"RemoteCellsModel", "tellsOldest", "(III)V"⟩, 39), (⟨"RemoteCellsModel", "tells", "(IIIII)V"⟩, 39), (⟨"RemoteCellsModel", "firstPacket", "()I"⟩, 39), (⟨"RemoteCellsModel", "requested", "(III)V"⟩, 39), (⟨"RemoteCellsModel", "sends", "(IIIII)V"⟩, 39), (⟨"RemoteCellsModel", "accesses", "(III)V"⟩, 39), (⟨"RemoteCellsModel", "reasonOf", "(III)I"⟩, 39), (⟨"RemoteCellsModel", "changesMore", "(III)V"⟩, 39)]
theorem lw_r3 : ∀ q ∈ lw_privs_3, lw_okq q := List.forall_mem_cons.mpr ⟨lw_p32, List.forall_mem_cons.mpr ⟨lw_p33, List.forall_mem_cons.mpr ⟨lw_p34, List.forall_mem_cons.mpr ⟨lw_p35, List.forall_mem_cons.mpr ⟨lw_p36, List.forall_mem_cons.mpr ⟨lw_p37, List.forall_mem_cons.mpr ⟨lw_p38, List.forall_mem_cons.mpr ⟨lw_p39, List.forall_mem_cons.mpr ⟨lw_p40, List.forall_mem_cons.mpr ⟨lw_p41, List.forall_mem_cons.mpr ⟨lw_p42, List.forall_mem_cons.mpr ⟨lw_p43, List.forall_mem_cons.mpr ⟨lw_p44, List.forall_mem_cons.mpr ⟨lw_p45, List.forall_mem_cons.mpr ⟨lw_p46, List.forall_mem_cons.mpr ⟨lw_p47, fun _ h => absurd h List.not_mem_nil⟩⟩⟩⟩⟩⟩⟩⟩⟩⟩⟩⟩⟩⟩⟩⟩
theorem lw_p48 : lw_okq (⟨"RemoteCellsModel", "passes", "(III)V"⟩, 39) := ⟨⟨by decide +kernel, by decide +kernel⟩, List.mem_of_getElem? (i := 829) (by decide +kernel), List.mem_of_getElem? (i := 1138) (by decide +kernel), List.mem_of_getElem? (i := 1139) (by decide +kernel)⟩
theorem lw_p49 : lw_okq (⟨"RemoteCellsModel", "receives", "(II)V"⟩, 39) := ⟨⟨by decide +kernel, by decide +kernel⟩, List.mem_of_getElem? (i := 829) (by decide +kernel), List.mem_of_getElem? (i := 1142) (by decide +kernel), List.mem_of_getElem? (i := 1143) (by decide +kernel)⟩
theorem lw_p50 : lw_okq (⟨"RemoteCellsModel", "tellsAgain", "(II)V"⟩, 39) := ⟨⟨by decide +kernel, by decide +kernel⟩, List.mem_of_getElem? (i := 829) (by decide +kernel), List.mem_of_getElem? (i := 1146) (by decide +kernel), List.mem_of_getElem? (i := 1147) (by decide +kernel)⟩
theorem lw_p51 : lw_okq (⟨"RemoteCellsModel", "answered", "(III)V"⟩, 39) := ⟨⟨by decide +kernel, by decide +kernel⟩, List.mem_of_getElem? (i := 829) (by decide +kernel), List.mem_of_getElem? (i := 1150) (by decide +kernel), List.mem_of_getElem? (i := 1151) (by decide +kernel)⟩
theorem lw_p52 : lw_okq (⟨"RemoteCellsModel", "oldest", "(I)I"⟩, 39) := ⟨⟨by decide +kernel, by decide +kernel⟩, List.mem_of_getElem? (i := 829) (by decide +kernel), List.mem_of_getElem? (i := 1154) (by decide +kernel), List.mem_of_getElem? (i := 1155) (by decide +kernel)⟩
theorem lw_p53 : lw_okq (⟨"RemoteCellsModel", "isOpen", "(II)Z"⟩, 39) := ⟨⟨by decide +kernel, by decide +kernel⟩, List.mem_of_getElem? (i := 829) (by decide +kernel), List.mem_of_getElem? (i := 1158) (by decide +kernel), List.mem_of_getElem? (i := 1159) (by decide +kernel)⟩
theorem lw_p54 : lw_okq (⟨"RemoteCellsModel", "again", "(I)V"⟩, 39) := ⟨⟨by decide +kernel, by decide +kernel⟩, List.mem_of_getElem? (i := 829) (by decide +kernel), List.mem_of_getElem? (i := 1162) (by decide +kernel), List.mem_of_getElem? (i := 1163) (by decide +kernel)⟩
theorem lw_p55 : lw_okq (⟨"RemoteCellsModel", "sendsWork", "(II)V"⟩, 39) := ⟨⟨by decide +kernel, by decide +kernel⟩, List.mem_of_getElem? (i := 829) (by decide +kernel), List.mem_of_getElem? (i := 1166) (by decide +kernel), List.mem_of_getElem? (i := 1167) (by decide +kernel)⟩
theorem lw_p56 : lw_okq (⟨"RemoteCellsModel", "post", "(IIIII)I"⟩, 39) := ⟨⟨by decide +kernel, by decide +kernel⟩, List.mem_of_getElem? (i := 829) (by decide +kernel), List.mem_of_getElem? (i := 1174) (by decide +kernel), List.mem_of_getElem? (i := 1175) (by decide +kernel)⟩
theorem lw_p57 : lw_okq (⟨"RemoteCellsModel", "allCells", "()I"⟩, 39) := ⟨⟨by decide +kernel, by decide +kernel⟩, List.mem_of_getElem? (i := 829) (by decide +kernel), List.mem_of_getElem? (i := 1228) (by decide +kernel), List.mem_of_getElem? (i := 1229) (by decide +kernel)⟩
def lw_privs_4 : List (MethodName × Nat) := [(⟨"RemoteCellsModel", "passes", "(III)V"⟩, 39), (⟨"RemoteCellsModel", "receives", "(II)V"⟩, 39), (⟨"RemoteCellsModel", "tellsAgain", "(II)V"⟩, 39), (⟨"RemoteCellsModel", "answered", "(III)V"⟩, 39), (⟨"RemoteCellsModel", "oldest", "(I)I"⟩, 39), (⟨"RemoteCellsModel", "isOpen", "(II)Z"⟩, 39), (⟨"RemoteCellsModel", "again", "(I)V"⟩, 39), (⟨"RemoteCellsModel", "sendsWork", "(II)V"⟩, 39), (⟨"RemoteCellsModel", "post", "(IIIII)I"⟩, 39), (⟨"RemoteCellsModel", "allCells", "()I"⟩, 39)]
theorem lw_r4 : ∀ q ∈ lw_privs_4, lw_okq q := List.forall_mem_cons.mpr ⟨lw_p48, List.forall_mem_cons.mpr ⟨lw_p49, List.forall_mem_cons.mpr ⟨lw_p50, List.forall_mem_cons.mpr ⟨lw_p51, List.forall_mem_cons.mpr ⟨lw_p52, List.forall_mem_cons.mpr ⟨lw_p53, List.forall_mem_cons.mpr ⟨lw_p54, List.forall_mem_cons.mpr ⟨lw_p55, List.forall_mem_cons.mpr ⟨lw_p56, List.forall_mem_cons.mpr ⟨lw_p57, fun _ h => absurd h List.not_mem_nil⟩⟩⟩⟩⟩⟩⟩⟩⟩⟩
def lw_privs : List (MethodName × Nat) := lw_privs_1 ++ (lw_privs_2 ++ (lw_privs_3 ++ (lw_privs_4)))
def lw_tbl : List Cond := k2_sels lw_privs ++ tables_1
theorem lw_privs_ok : ∀ q ∈ lw_privs, lw_okq q := by
  show ∀ q ∈ lw_privs_1 ++ (lw_privs_2 ++ (lw_privs_3 ++ (lw_privs_4))), lw_okq q
  exact List.forall_mem_append.mpr ⟨lw_r1, List.forall_mem_append.mpr ⟨lw_r2, List.forall_mem_append.mpr ⟨lw_r3, lw_r4⟩⟩⟩
end
section
def RX0 : String := "RemoteCells$Changes"
def TX0 : u_T := fun k => match k with
  | 0 => ("RemoteCells$Changes", "numbers", "[I", true)
  | 1 => ("RemoteCells$Changes", "values", "[I", true)
  | _ => ("RemoteCells$Changes", "known", "I", false)
def tyX0 : Nat → FieldType := fun k => match k with
  | 0 => .array .int
  | 1 => .array .int
  | _ => .int
abbrev wsX00 : List Cond := u_ws RX0 TX0 3
theorem nmX0 : ∀ a, a < 3 → ∀ b, b < 3 → a ≠ b → (TX0 a).2.1 ≠ (TX0 b).2.1 := by decide +kernel
theorem tyX0_ok : ∀ k, k < 3 → parseFieldDescriptor (TX0 k).2.2.1 = some (tyX0 k) := by decide +kernel
abbrev cX0_init : ByteArray := prog_2_method_1_code
def yX0_init : MethodName := ⟨RX0, "<init>", "()V"⟩
abbrev cX0_remember : ByteArray := prog_2_method_2_code
def yX0_remember : MethodName := ⟨RX0, "remember", "(II)V"⟩
abbrev cX0_toldOf : ByteArray := prog_2_method_3_code
def yX0_toldOf : MethodName := ⟨RX0, "toldOf", "(I)I"⟩
def RX1 : String := "RemoteCells$End"
def TX1 : u_T := fun k => match k with
  | 0 => ("RemoteCells$End", "index", "I", true)
  | 1 => ("RemoteCells$End", "host", "LRemoteCells$Host;", true)
  | 2 => ("RemoteCells$End", "wire", "LRemoteCells$Wire;", true)
  | 3 => ("RemoteCells$End", "works", "[LRemoteCells$Work;", true)
  | 4 => ("RemoteCells$End", "receives", "[I", true)
  | 5 => ("RemoteCells$End", "changes", "LRemoteCells$Changes;", true)
  | 6 => ("RemoteCells$End", "state", "I", false)
  | 7 => ("RemoteCells$End", "next", "I", false)
  | 8 => ("RemoteCells$End", "open", "I", false)
  | 9 => ("RemoteCells$End", "expected", "I", false)
  | 10 => ("RemoteCells$End", "receiveCount", "I", false)
  | 11 => ("RemoteCells$End", "tries", "I", false)
  | 12 => ("RemoteCells$End", "busies", "I", false)
  | 13 => ("RemoteCells$End", "complained", "Z", false)
  | 14 => ("RemoteCells$End", "aimKey", "I", false)
  | _ => ("RemoteCells$End", "aimOffset", "I", false)
def tyX1 : Nat → FieldType := fun k => match k with
  | 0 => .int
  | 1 => .object "RemoteCells$Host"
  | 2 => .object "RemoteCells$Wire"
  | 3 => .array (.object "RemoteCells$Work")
  | 4 => .array .int
  | 5 => .object "RemoteCells$Changes"
  | 6 => .int
  | 7 => .int
  | 8 => .int
  | 9 => .int
  | 10 => .int
  | 11 => .int
  | 12 => .int
  | 13 => .boolean
  | 14 => .int
  | _ => .int
abbrev wsX10 : List Cond := u_ws RX1 TX1 16
theorem nmX1 : ∀ a, a < 16 → ∀ b, b < 16 → a ≠ b → (TX1 a).2.1 ≠ (TX1 b).2.1 := by decide +kernel
theorem tyX1_ok : ∀ k, k < 16 → parseFieldDescriptor (TX1 k).2.2.1 = some (tyX1 k) := by decide +kernel
abbrev cX1_init : ByteArray := prog_3_method_1_code
def yX1_init : MethodName := ⟨RX1, "<init>", "(ILRemoteCells$Host;LRemoteCells$Wire;)V"⟩
abbrev cX1_reset : ByteArray := prog_3_method_2_code
def yX1_reset : MethodName := ⟨RX1, "reset", "()V"⟩
abbrev cX1_restart : ByteArray := prog_3_method_3_code
def yX1_restart : MethodName := ⟨RX1, "restart", "(I)V"⟩
abbrev cX1_setAim : ByteArray := prog_3_method_4_code
def yX1_setAim : MethodName := ⟨RX1, "setAim", "(II)V"⟩
abbrev cX1_postWork : ByteArray := prog_3_method_5_code
def yX1_postWork : MethodName := ⟨RX1, "postWork", "(IIII)I"⟩
abbrev cX1_openFetches : ByteArray := prog_3_method_6_code
def yX1_openFetches : MethodName := ⟨RX1, "openFetches", "()I"⟩
abbrev cX1_postReceive : ByteArray := prog_3_method_7_code
def yX1_postReceive : MethodName := ⟨RX1, "postReceive", "(I)I"⟩
abbrev cX1_request : ByteArray := prog_3_method_8_code
def yX1_request : MethodName := ⟨RX1, "request", "(LRemoteCells$Work;)V"⟩
abbrev cX1_answer : ByteArray := prog_3_method_9_code
def yX1_answer : MethodName := ⟨RX1, "answer", "(III)V"⟩
abbrev cX1_meet : ByteArray := prog_3_method_10_code
def yX1_meet : MethodName := ⟨RX1, "meet", "(LRemoteCells$Packet;)V"⟩
abbrev cX1_complain : ByteArray := prog_3_method_11_code
def yX1_complain : MethodName := ⟨RX1, "complain", "()V"⟩
abbrev cX1_meetOldRequest : ByteArray := prog_3_method_12_code
def yX1_meetOldRequest : MethodName := ⟨RX1, "meetOldRequest", "(LRemoteCells$Packet;)V"⟩
abbrev cX1_meetExpected : ByteArray := prog_3_method_13_code
def yX1_meetExpected : MethodName := ⟨RX1, "meetExpected", "(LRemoteCells$Packet;)V"⟩
abbrev cX1_takeIn : ByteArray := prog_3_method_14_code
def yX1_takeIn : MethodName := ⟨RX1, "takeIn", "(LRemoteCells$Packet;)I"⟩
abbrev cX1_reach : ByteArray := prog_3_method_15_code
def yX1_reach : MethodName := ⟨RX1, "reach", "(LRemoteCells$Packet;)I"⟩
abbrev cX1_reasonAgainst : ByteArray := prog_3_method_16_code
def yX1_reasonAgainst : MethodName := ⟨RX1, "reasonAgainst", "(LRemoteCells$Packet;)I"⟩
abbrev cX1_rightFor : ByteArray := prog_3_method_17_code
def yX1_rightFor : MethodName := ⟨RX1, "rightFor", "(I)I"⟩
abbrev cX1_meetAnswer : ByteArray := prog_3_method_18_code
def yX1_meetAnswer : MethodName := ⟨RX1, "meetAnswer", "(LRemoteCells$Packet;)V"⟩
abbrev cX1_isAwaited : ByteArray := prog_3_method_19_code
def yX1_isAwaited : MethodName := ⟨RX1, "isAwaited", "(LRemoteCells$Packet;)Z"⟩
abbrev cX1_finishBelow : ByteArray := prog_3_method_20_code
def yX1_finishBelow : MethodName := ⟨RX1, "finishBelow", "(I)Z"⟩
abbrev cX1_bringHome : ByteArray := prog_3_method_21_code
def yX1_bringHome : MethodName := ⟨RX1, "bringHome", "(I)V"⟩
abbrev cX1_bearBusy : ByteArray := prog_3_method_22_code
def yX1_bearBusy : MethodName := ⟨RX1, "bearBusy", "()V"⟩
abbrev cX1_tryAgain : ByteArray := prog_3_method_23_code
def yX1_tryAgain : MethodName := ⟨RX1, "tryAgain", "()V"⟩
abbrev cX1_breakUp : ByteArray := prog_3_method_24_code
def yX1_breakUp : MethodName := ⟨RX1, "breakUp", "()V"⟩
abbrev cX1_finishOldest : ByteArray := prog_3_method_25_code
def yX1_finishOldest : MethodName := ⟨RX1, "finishOldest", "(II)V"⟩
def RX2 : String := "RemoteCells$Host"
def TX2 : u_T := fun k => match k with
  | 0 => ("RemoteCells$Host", "cells", "[I", true)
  | 1 => ("RemoteCells$Host", "keys", "[LRemoteCells$Key;", true)
  | 2 => ("RemoteCells$Host", "oldest", "LRemoteCells$Notice;", false)
  | 3 => ("RemoteCells$Host", "newest", "LRemoteCells$Notice;", false)
  | 4 => ("RemoteCells$Host", "waiting", "I", false)
  | _ => ("RemoteCells$Host", "changesDone", "I", false)
def tyX2 : Nat → FieldType := fun k => match k with
  | 0 => .array .int
  | 1 => .array (.object "RemoteCells$Key")
  | 2 => .object "RemoteCells$Notice"
  | 3 => .object "RemoteCells$Notice"
  | 4 => .int
  | _ => .int
abbrev wsX20 : List Cond := u_ws RX2 TX2 6
theorem nmX2 : ∀ a, a < 6 → ∀ b, b < 6 → a ≠ b → (TX2 a).2.1 ≠ (TX2 b).2.1 := by decide +kernel
theorem tyX2_ok : ∀ k, k < 6 → parseFieldDescriptor (TX2 k).2.2.1 = some (tyX2 k) := by decide +kernel
abbrev cX2_init : ByteArray := prog_4_method_1_code
def yX2_init : MethodName := ⟨RX2, "<init>", "()V"⟩
abbrev cX2_reset : ByteArray := prog_4_method_2_code
def yX2_reset : MethodName := ⟨RX2, "reset", "()V"⟩
abbrev cX2_setKey : ByteArray := prog_4_method_3_code
def yX2_setKey : MethodName := ⟨RX2, "setKey", "(IIII)V"⟩
abbrev cX2_keyCount : ByteArray := prog_4_method_4_code
def yX2_keyCount : MethodName := ⟨RX2, "keyCount", "()I"⟩
abbrev cX2_cellSum : ByteArray := prog_4_method_5_code
def yX2_cellSum : MethodName := ⟨RX2, "cellSum", "()I"⟩
abbrev cX2_pushNotice : ByteArray := prog_4_method_6_code
def yX2_pushNotice : MethodName := ⟨RX2, "pushNotice", "(LRemoteCells$Notice;)V"⟩
abbrev cX2_pullNotice : ByteArray := prog_4_method_7_code
def yX2_pullNotice : MethodName := ⟨RX2, "pullNotice", "()LRemoteCells$Notice;"⟩
def RX3 : String := "RemoteCells$Key"
def TX3 : u_T := fun k => match k with
  | 0 => ("RemoteCells$Key", "exists", "Z", false)
  | 1 => ("RemoteCells$Key", "base", "I", false)
  | 2 => ("RemoteCells$Key", "length", "I", false)
  | _ => ("RemoteCells$Key", "rights", "I", false)
def tyX3 : Nat → FieldType := fun k => match k with
  | 0 => .boolean
  | 1 => .int
  | 2 => .int
  | _ => .int
abbrev wsX30 : List Cond := u_ws RX3 TX3 4
theorem nmX3 : ∀ a, a < 4 → ∀ b, b < 4 → a ≠ b → (TX3 a).2.1 ≠ (TX3 b).2.1 := by decide +kernel
theorem tyX3_ok : ∀ k, k < 4 → parseFieldDescriptor (TX3 k).2.2.1 = some (tyX3 k) := by decide +kernel
abbrev cX3_init : ByteArray := prog_5_method_1_code
def yX3_init : MethodName := ⟨RX3, "<init>", "()V"⟩
def RX4 : String := "RemoteCells$Notice"
def TX4 : u_T := fun k => match k with
  | 0 => ("RemoteCells$Notice", "end", "I", true)
  | 1 => ("RemoteCells$Notice", "kind", "I", true)
  | 2 => ("RemoteCells$Notice", "number", "I", true)
  | 3 => ("RemoteCells$Notice", "result", "I", true)
  | 4 => ("RemoteCells$Notice", "value", "I", true)
  | _ => ("RemoteCells$Notice", "behind", "LRemoteCells$Notice;", false)
def tyX4 : Nat → FieldType := fun k => match k with
  | 0 => .int
  | 1 => .int
  | 2 => .int
  | 3 => .int
  | 4 => .int
  | _ => .object "RemoteCells$Notice"
abbrev wsX40 : List Cond := u_ws RX4 TX4 6
theorem nmX4 : ∀ a, a < 6 → ∀ b, b < 6 → a ≠ b → (TX4 a).2.1 ≠ (TX4 b).2.1 := by decide +kernel
theorem tyX4_ok : ∀ k, k < 6 → parseFieldDescriptor (TX4 k).2.2.1 = some (tyX4 k) := by decide +kernel
abbrev cX4_init : ByteArray := prog_6_method_1_code
def yX4_init : MethodName := ⟨RX4, "<init>", "(IIIII)V"⟩
def RX5 : String := "RemoteCells$Packet"
def TX5 : u_T := fun k => match k with
  | 0 => ("RemoteCells$Packet", "to", "I", false)
  | 1 => ("RemoteCells$Packet", "due", "I", false)
  | 2 => ("RemoteCells$Packet", "type", "I", false)
  | 3 => ("RemoteCells$Packet", "number", "I", false)
  | 4 => ("RemoteCells$Packet", "value", "I", false)
  | 5 => ("RemoteCells$Packet", "kind", "I", false)
  | 6 => ("RemoteCells$Packet", "key", "I", false)
  | 7 => ("RemoteCells$Packet", "offset", "I", false)
  | 8 => ("RemoteCells$Packet", "v", "I", false)
  | _ => ("RemoteCells$Packet", "w", "I", false)
def tyX5 : Nat → FieldType := fun k => match k with
  | 0 => .int
  | 1 => .int
  | 2 => .int
  | 3 => .int
  | 4 => .int
  | 5 => .int
  | 6 => .int
  | 7 => .int
  | 8 => .int
  | _ => .int
abbrev wsX50 : List Cond := u_ws RX5 TX5 10
theorem nmX5 : ∀ a, a < 10 → ∀ b, b < 10 → a ≠ b → (TX5 a).2.1 ≠ (TX5 b).2.1 := by decide +kernel
theorem tyX5_ok : ∀ k, k < 10 → parseFieldDescriptor (TX5 k).2.2.1 = some (tyX5 k) := by decide +kernel
abbrev cX5_init : ByteArray := prog_7_method_1_code
def yX5_init : MethodName := ⟨RX5, "<init>", "()V"⟩
abbrev cX5_beAnswer : ByteArray := prog_7_method_2_code
def yX5_beAnswer : MethodName := ⟨RX5, "beAnswer", "(III)V"⟩
abbrev cX5_beRequest : ByteArray := prog_7_method_3_code
def yX5_beRequest : MethodName := ⟨RX5, "beRequest", "(LRemoteCells$Work;)V"⟩
abbrev cX5_beCopyOf : ByteArray := prog_7_method_4_code
def yX5_beCopyOf : MethodName := ⟨RX5, "beCopyOf", "(LRemoteCells$Packet;)V"⟩
def RX6 : String := "RemoteCells$Text"
def TX6 : u_T := fun k => match k with
  | 0 => ("RemoteCells$Text", "letters", "[C", true)
  | 1 => ("RemoteCells$Text", "numbers", "[I", true)
  | 2 => ("RemoteCells$Text", "length", "I", false)
  | 3 => ("RemoteCells$Text", "tokenStart", "I", false)
  | 4 => ("RemoteCells$Text", "tokenEnd", "I", false)
  | 5 => ("RemoteCells$Text", "word", "I", false)
  | _ => ("RemoteCells$Text", "clauses", "I", false)
def tyX6 : Nat → FieldType := fun k => match k with
  | 0 => .array .char
  | 1 => .array .int
  | 2 => .int
  | 3 => .int
  | 4 => .int
  | 5 => .int
  | _ => .int
abbrev wsX60 : List Cond := u_ws RX6 TX6 7
theorem nmX6 : ∀ a, a < 7 → ∀ b, b < 7 → a ≠ b → (TX6 a).2.1 ≠ (TX6 b).2.1 := by decide +kernel
theorem tyX6_ok : ∀ k, k < 7 → parseFieldDescriptor (TX6 k).2.2.1 = some (tyX6 k) := by decide +kernel
abbrev cX6_init : ByteArray := prog_8_method_1_code
def yX6_init : MethodName := ⟨RX6, "<init>", "()V"⟩
abbrev cX6_append : ByteArray := prog_8_method_2_code
def yX6_append : MethodName := ⟨RX6, "append", "(C)V"⟩
abbrev cX6_rewind : ByteArray := prog_8_method_3_code
def yX6_rewind : MethodName := ⟨RX6, "rewind", "()V"⟩
abbrev cX6_findFault : ByteArray := prog_8_method_4_code
def yX6_findFault : MethodName := ⟨RX6, "findFault", "()I"⟩
abbrev cX6_readClause : ByteArray := prog_8_method_5_code
def yX6_readClause : MethodName := ⟨RX6, "readClause", "()Z"⟩
abbrev cX6_nextToken : ByteArray := prog_8_method_6_code
def yX6_nextToken : MethodName := ⟨RX6, "nextToken", "()V"⟩
abbrev cX6_isSmall : ByteArray := prog_8_method_7_code
def yX6_isSmall : MethodName := ⟨RX6, "isSmall", "(C)Z"⟩
abbrev cX6_isDigit : ByteArray := prog_8_method_8_code
def yX6_isDigit : MethodName := ⟨RX6, "isDigit", "(C)Z"⟩
abbrev cX6_isAlike : ByteArray := prog_8_method_9_code
def yX6_isAlike : MethodName := ⟨RX6, "isAlike", "(CC)Z"⟩
abbrev cX6_wordOfToken : ByteArray := prog_8_method_10_code
def yX6_wordOfToken : MethodName := ⟨RX6, "wordOfToken", "()I"⟩
abbrev cX6_isToken : ByteArray := prog_8_method_11_code
def yX6_isToken : MethodName := ⟨RX6, "isToken", "(Ljava/lang/String;)Z"⟩
abbrev cX6_readNumber : ByteArray := prog_8_method_12_code
def yX6_readNumber : MethodName := ⟨RX6, "readNumber", "(III)Z"⟩
def RX7 : String := "RemoteCells$Wire"
def TX7 : u_T := fun k => match k with
  | 0 => ("RemoteCells$Wire", "packets", "[LRemoteCells$Packet;", true)
  | 1 => ("RemoteCells$Wire", "coming", "LRemoteCells$Packet;", true)
  | 2 => ("RemoteCells$Wire", "delays", "[I", true)
  | 3 => ("RemoteCells$Wire", "used", "I", false)
  | 4 => ("RemoteCells$Wire", "lost", "I", false)
  | _ => ("RemoteCells$Wire", "now", "I", false)
def tyX7 : Nat → FieldType := fun k => match k with
  | 0 => .array (.object "RemoteCells$Packet")
  | 1 => .object "RemoteCells$Packet"
  | 2 => .array .int
  | 3 => .int
  | 4 => .int
  | _ => .int
abbrev wsX70 : List Cond := u_ws RX7 TX7 6
theorem nmX7 : ∀ a, a < 6 → ∀ b, b < 6 → a ≠ b → (TX7 a).2.1 ≠ (TX7 b).2.1 := by decide +kernel
theorem tyX7_ok : ∀ k, k < 6 → parseFieldDescriptor (TX7 k).2.2.1 = some (tyX7 k) := by decide +kernel
abbrev cX7_init : ByteArray := prog_9_method_1_code
def yX7_init : MethodName := ⟨RX7, "<init>", "()V"⟩
abbrev cX7_reset : ByteArray := prog_9_method_2_code
def yX7_reset : MethodName := ⟨RX7, "reset", "()V"⟩
abbrev cX7_placeFor : ByteArray := prog_9_method_3_code
def yX7_placeFor : MethodName := ⟨RX7, "placeFor", "(I)LRemoteCells$Packet;"⟩
abbrev cX7_repeat : ByteArray := prog_9_method_4_code
def yX7_repeat : MethodName := ⟨RX7, "repeat", "(LRemoteCells$Packet;)V"⟩
abbrev cX7_firstPlace : ByteArray := prog_9_method_5_code
def yX7_firstPlace : MethodName := ⟨RX7, "firstPlace", "()I"⟩
abbrev cX7_pullFirst : ByteArray := prog_9_method_6_code
def yX7_pullFirst : MethodName := ⟨RX7, "pullFirst", "()LRemoteCells$Packet;"⟩
abbrev cX7_clearLine : ByteArray := prog_9_method_7_code
def yX7_clearLine : MethodName := ⟨RX7, "clearLine", "(I)V"⟩
abbrev cX7_removeAt : ByteArray := prog_9_method_8_code
def yX7_removeAt : MethodName := ⟨RX7, "removeAt", "(I)V"⟩
abbrev cX7_passTimeTo : ByteArray := prog_9_method_9_code
def yX7_passTimeTo : MethodName := ⟨RX7, "passTimeTo", "(I)V"⟩
def RX8 : String := "RemoteCells$Work"
def TX8 : u_T := fun k => match k with
  | 0 => ("RemoteCells$Work", "number", "I", false)
  | 1 => ("RemoteCells$Work", "kind", "I", false)
  | 2 => ("RemoteCells$Work", "key", "I", false)
  | 3 => ("RemoteCells$Work", "offset", "I", false)
  | 4 => ("RemoteCells$Work", "v", "I", false)
  | 5 => ("RemoteCells$Work", "w", "I", false)
  | _ => ("RemoteCells$Work", "cell", "I", false)
def tyX8 : Nat → FieldType := fun k => match k with
  | 0 => .int
  | 1 => .int
  | 2 => .int
  | 3 => .int
  | 4 => .int
  | 5 => .int
  | _ => .int
abbrev wsX80 : List Cond := u_ws RX8 TX8 7
theorem nmX8 : ∀ a, a < 7 → ∀ b, b < 7 → a ≠ b → (TX8 a).2.1 ≠ (TX8 b).2.1 := by decide +kernel
theorem tyX8_ok : ∀ k, k < 7 → parseFieldDescriptor (TX8 k).2.2.1 = some (tyX8 k) := by decide +kernel
abbrev cX8_init : ByteArray := prog_10_method_1_code
def yX8_init : MethodName := ⟨RX8, "<init>", "()V"⟩
def RX9 : String := "RemoteCells"
def TX9 : u_T := fun k => match k with
  | 0 => ("RemoteCells", "hosts", "[LRemoteCells$Host;", true)
  | 1 => ("RemoteCells", "ends", "[LRemoteCells$End;", true)
  | 2 => ("RemoteCells", "wire", "LRemoteCells$Wire;", true)
  | 3 => ("RemoteCells", "text", "LRemoteCells$Text;", true)
  | 4 => ("RemoteCells", "lastTaken", "LRemoteCells$Notice;", false)
  | _ => ("RemoteCells", "lastTakenHost", "I", false)
def tyX9 : Nat → FieldType := fun k => match k with
  | 0 => .array (.object "RemoteCells$Host")
  | 1 => .array (.object "RemoteCells$End")
  | 2 => .object "RemoteCells$Wire"
  | 3 => .object "RemoteCells$Text"
  | 4 => .object "RemoteCells$Notice"
  | _ => .int
abbrev wsX90 : List Cond := u_ws RX9 TX9 6
theorem nmX9 : ∀ a, a < 6 → ∀ b, b < 6 → a ≠ b → (TX9 a).2.1 ≠ (TX9 b).2.1 := by decide +kernel
theorem tyX9_ok : ∀ k, k < 6 → parseFieldDescriptor (TX9 k).2.2.1 = some (tyX9 k) := by decide +kernel
abbrev cX9_init : ByteArray := prog_1_method_1_code
def yX9_init : MethodName := ⟨RX9, "<init>", "()V"⟩
abbrev cX9_write : ByteArray := prog_1_method_2_code
def yX9_write : MethodName := ⟨RX9, "write", "(I)I"⟩
abbrev cX9_erase : ByteArray := prog_1_method_3_code
def yX9_erase : MethodName := ⟨RX9, "erase", "()I"⟩
abbrev cX9_fault : ByteArray := prog_1_method_4_code
def yX9_fault : MethodName := ⟨RX9, "fault", "()I"⟩
abbrev cX9_tell : ByteArray := prog_1_method_5_code
def yX9_tell : MethodName := ⟨RX9, "tell", "()I"⟩
abbrev cX9_doClause : ByteArray := prog_1_method_6_code
def yX9_doClause : MethodName := ⟨RX9, "doClause", "(I[I)V"⟩
abbrev cX9_resetAll : ByteArray := prog_1_method_7_code
def yX9_resetAll : MethodName := ⟨RX9, "resetAll", "()V"⟩
abbrev cX9_cell : ByteArray := prog_1_method_8_code
def yX9_cell : MethodName := ⟨RX9, "cell", "(II)I"⟩
abbrev cX9_put : ByteArray := prog_1_method_9_code
def yX9_put : MethodName := ⟨RX9, "put", "(III)I"⟩
abbrev cX9_key : ByteArray := prog_1_method_10_code
def yX9_key : MethodName := ⟨RX9, "key", "(IIIII)I"⟩
abbrev cX9_lock : ByteArray := prog_1_method_11_code
def yX9_lock : MethodName := ⟨RX9, "lock", "(II)I"⟩
abbrev cX9_door : ByteArray := prog_1_method_12_code
def yX9_door : MethodName := ⟨RX9, "door", "(III)I"⟩
abbrev cX9_join : ByteArray := prog_1_method_13_code
def yX9_join : MethodName := ⟨RX9, "join", "(I)I"⟩
abbrev cX9_hasReadyEnd : ByteArray := prog_1_method_14_code
def yX9_hasReadyEnd : MethodName := ⟨RX9, "hasReadyEnd", "(I)Z"⟩
abbrev cX9_joinLine : ByteArray := prog_1_method_15_code
def yX9_joinLine : MethodName := ⟨RX9, "joinLine", "(I)V"⟩
abbrev cX9_readyEnds : ByteArray := prog_1_method_16_code
def yX9_readyEnds : MethodName := ⟨RX9, "readyEnds", "()I"⟩
abbrev cX9_tear : ByteArray := prog_1_method_17_code
def yX9_tear : MethodName := ⟨RX9, "tear", "(I)I"⟩
abbrev cX9_delay : ByteArray := prog_1_method_18_code
def yX9_delay : MethodName := ⟨RX9, "delay", "(II)I"⟩
abbrev cX9_aim : ByteArray := prog_1_method_19_code
def yX9_aim : MethodName := ⟨RX9, "aim", "(III)I"⟩
abbrev cX9_send : ByteArray := prog_1_method_20_code
def yX9_send : MethodName := ⟨RX9, "send", "(II)I"⟩
abbrev cX9_store : ByteArray := prog_1_method_21_code
def yX9_store : MethodName := ⟨RX9, "store", "(II)I"⟩
abbrev cX9_read : ByteArray := prog_1_method_22_code
def yX9_read : MethodName := ⟨RX9, "read", "(II)I"⟩
abbrev cX9_add : ByteArray := prog_1_method_23_code
def yX9_add : MethodName := ⟨RX9, "add", "(III)I"⟩
abbrev cX9_swap : ByteArray := prog_1_method_24_code
def yX9_swap : MethodName := ⟨RX9, "swap", "(IIII)I"⟩
abbrev cX9_receive : ByteArray := prog_1_method_25_code
def yX9_receive : MethodName := ⟨RX9, "receive", "(II)I"⟩
abbrev cX9_step : ByteArray := prog_1_method_26_code
def yX9_step : MethodName := ⟨RX9, "step", "(I)I"⟩
abbrev cX9_tick : ByteArray := prog_1_method_27_code
def yX9_tick : MethodName := ⟨RX9, "tick", "(I)I"⟩
abbrev cX9_take : ByteArray := prog_1_method_28_code
def yX9_take : MethodName := ⟨RX9, "take", "(I)I"⟩
abbrev cX9_taken : ByteArray := prog_1_method_29_code
def yX9_taken : MethodName := ⟨RX9, "taken", "(I)I"⟩
abbrev cX9_end : ByteArray := prog_1_method_30_code
def yX9_end : MethodName := ⟨RX9, "end", "(II)I"⟩
abbrev cX9_open : ByteArray := prog_1_method_31_code
def yX9_open : MethodName := ⟨RX9, "open", "(III)I"⟩
abbrev cX9_packet : ByteArray := prog_1_method_32_code
def yX9_packet : MethodName := ⟨RX9, "packet", "(I)I"⟩
abbrev cX9_count : ByteArray := prog_1_method_33_code
def yX9_count : MethodName := ⟨RX9, "count", "(I)I"⟩
abbrev cX9_isOutside : ByteArray := prog_1_method_34_code
def yX9_isOutside : MethodName := ⟨RX9, "isOutside", "(III)Z"⟩
abbrev cX9_isNoHost : ByteArray := prog_1_method_35_code
def yX9_isNoHost : MethodName := ⟨RX9, "isNoHost", "(I)Z"⟩
abbrev cX9_isNoCell : ByteArray := prog_1_method_36_code
def yX9_isNoCell : MethodName := ⟨RX9, "isNoCell", "(I)Z"⟩
abbrev cX9_isNoKey : ByteArray := prog_1_method_37_code
def yX9_isNoKey : MethodName := ⟨RX9, "isNoKey", "(I)Z"⟩
abbrev cX9_isNoLine : ByteArray := prog_1_method_38_code
def yX9_isNoLine : MethodName := ⟨RX9, "isNoLine", "(I)Z"⟩
abbrev cX9_isNoEnd : ByteArray := prog_1_method_39_code
def yX9_isNoEnd : MethodName := ⟨RX9, "isNoEnd", "(I)Z"⟩
abbrev cX9_isNoValue : ByteArray := prog_1_method_40_code
def yX9_isNoValue : MethodName := ⟨RX9, "isNoValue", "(I)Z"⟩
abbrev cX9_lineOf : ByteArray := prog_1_method_41_code
def yX9_lineOf : MethodName := ⟨RX9, "lineOf", "(I)I"⟩
abbrev cX9_firstEndOf : ByteArray := prog_1_method_42_code
def yX9_firstEndOf : MethodName := ⟨RX9, "firstEndOf", "(I)I"⟩
abbrev cX9_otherEnd : ByteArray := prog_1_method_43_code
def yX9_otherEnd : MethodName := ⟨RX9, "otherEnd", "(I)I"⟩
abbrev cX9_isFetch : ByteArray := prog_1_method_44_code
def yX9_isFetch : MethodName := ⟨RX9, "isFetch", "(I)Z"⟩
def RX10 : String := "RemoteCellsModel"
def TX10 : u_T := fun k => match k with
  | 0 => ("RemoteCellsModel", "cells", "[I", true)
  | 1 => ("RemoteCellsModel", "bases", "[I", true)
  | 2 => ("RemoteCellsModel", "lengths", "[I", true)
  | 3 => ("RemoteCellsModel", "rights", "[I", true)
  | 4 => ("RemoteCellsModel", "states", "[I", true)
  | 5 => ("RemoteCellsModel", "nexts", "[I", true)
  | 6 => ("RemoteCellsModel", "opens", "[I", true)
  | 7 => ("RemoteCellsModel", "works", "[I", true)
  | 8 => ("RemoteCellsModel", "expected", "[I", true)
  | 9 => ("RemoteCellsModel", "receives", "[I", true)
  | 10 => ("RemoteCellsModel", "places", "[I", true)
  | 11 => ("RemoteCellsModel", "tries", "[I", true)
  | 12 => ("RemoteCellsModel", "busies", "[I", true)
  | 13 => ("RemoteCellsModel", "hasComplained", "[Z", true)
  | 14 => ("RemoteCellsModel", "changes", "[I", true)
  | 15 => ("RemoteCellsModel", "changed", "[I", true)
  | 16 => ("RemoteCellsModel", "aimKeys", "[I", true)
  | 17 => ("RemoteCellsModel", "aimOffsets", "[I", true)
  | 18 => ("RemoteCellsModel", "delays", "[I", true)
  | 19 => ("RemoteCellsModel", "now", "I", false)
  | 20 => ("RemoteCellsModel", "packets", "[I", true)
  | 21 => ("RemoteCellsModel", "packetsMany", "I", false)
  | 22 => ("RemoteCellsModel", "sent", "I", false)
  | 23 => ("RemoteCellsModel", "told", "[I", true)
  | 24 => ("RemoteCellsModel", "heads", "[I", true)
  | 25 => ("RemoteCellsModel", "tails", "[I", true)
  | 26 => ("RemoteCellsModel", "last", "[I", true)
  | 27 => ("RemoteCellsModel", "isTaken", "Z", false)
  | 28 => ("RemoteCellsModel", "done", "I", false)
  | 29 => ("RemoteCellsModel", "lost", "I", false)
  | 30 => ("RemoteCellsModel", "text", "[I", true)
  | 31 => ("RemoteCellsModel", "length", "I", false)
  | 32 => ("RemoteCellsModel", "first", "I", false)
  | 33 => ("RemoteCellsModel", "behind", "I", false)
  | 34 => ("RemoteCellsModel", "clauses", "I", false)
  | 35 => ("RemoteCellsModel", "doing", "Z", false)
  | 36 => ("RemoteCellsModel", "numbers", "[I", true)
  | 37 => ("RemoteCellsModel", "words", "[I", true)
  | _ => ("RemoteCellsModel", "come", "[I", true)
def tyX10 : Nat → FieldType := fun k => match k with
  | 0 => .array .int
  | 1 => .array .int
  | 2 => .array .int
  | 3 => .array .int
  | 4 => .array .int
  | 5 => .array .int
  | 6 => .array .int
  | 7 => .array .int
  | 8 => .array .int
  | 9 => .array .int
  | 10 => .array .int
  | 11 => .array .int
  | 12 => .array .int
  | 13 => .array .boolean
  | 14 => .array .int
  | 15 => .array .int
  | 16 => .array .int
  | 17 => .array .int
  | 18 => .array .int
  | 19 => .int
  | 20 => .array .int
  | 21 => .int
  | 22 => .int
  | 23 => .array .int
  | 24 => .array .int
  | 25 => .array .int
  | 26 => .array .int
  | 27 => .boolean
  | 28 => .int
  | 29 => .int
  | 30 => .array .int
  | 31 => .int
  | 32 => .int
  | 33 => .int
  | 34 => .int
  | 35 => .boolean
  | 36 => .array .int
  | 37 => .array .int
  | _ => .array .int
abbrev wsX100 : List Cond := u_ws RX10 TX10 39
theorem nmX10 : ∀ a, a < 39 → ∀ b, b < 39 → a ≠ b → (TX10 a).2.1 ≠ (TX10 b).2.1 := by decide +kernel
theorem tyX10_ok : ∀ k, k < 39 → parseFieldDescriptor (TX10 k).2.2.1 = some (tyX10 k) := by decide +kernel
abbrev cX10_init : ByteArray := prog_12_method_1_code
def yX10_init : MethodName := ⟨RX10, "<init>", "()V"⟩
abbrev cX10_in : ByteArray := prog_12_method_2_code
def yX10_in : MethodName := ⟨RX10, "in", "(JJJ)Z"⟩
abbrev cX10_isHost : ByteArray := prog_12_method_3_code
def yX10_isHost : MethodName := ⟨RX10, "isHost", "(I)Z"⟩
abbrev cX10_isCell : ByteArray := prog_12_method_4_code
def yX10_isCell : MethodName := ⟨RX10, "isCell", "(I)Z"⟩
abbrev cX10_isEnd : ByteArray := prog_12_method_5_code
def yX10_isEnd : MethodName := ⟨RX10, "isEnd", "(I)Z"⟩
abbrev cX10_isNumber : ByteArray := prog_12_method_6_code
def yX10_isNumber : MethodName := ⟨RX10, "isNumber", "(I)Z"⟩
abbrev cX10_allAnew : ByteArray := prog_12_method_7_code
def yX10_allAnew : MethodName := ⟨RX10, "allAnew", "()V"⟩
abbrev cX10_endAnew : ByteArray := prog_12_method_8_code
def yX10_endAnew : MethodName := ⟨RX10, "endAnew", "(II)V"⟩
abbrev cX10_write : ByteArray := prog_12_method_9_code
def yX10_write : MethodName := ⟨RX10, "write", "(I)I"⟩
abbrev cX10_erase : ByteArray := prog_12_method_10_code
def yX10_erase : MethodName := ⟨RX10, "erase", "()I"⟩
abbrev cX10_isSmall : ByteArray := prog_12_method_11_code
def yX10_isSmall : MethodName := ⟨RX10, "isSmall", "(I)Z"⟩
abbrev cX10_isDigit : ByteArray := prog_12_method_12_code
def yX10_isDigit : MethodName := ⟨RX10, "isDigit", "(I)Z"⟩
abbrev cX10_next : ByteArray := prog_12_method_13_code
def yX10_next : MethodName := ⟨RX10, "next", "()V"⟩
abbrev cX10_wordHere : ByteArray := prog_12_method_14_code
def yX10_wordHere : MethodName := ⟨RX10, "wordHere", "()I"⟩
abbrev cX10_reads : ByteArray := prog_12_method_15_code
def yX10_reads : MethodName := ⟨RX10, "reads", "(III)Z"⟩
abbrev cX10_readsRest : ByteArray := prog_12_method_16_code
def yX10_readsRest : MethodName := ⟨RX10, "readsRest", "(I)Z"⟩
abbrev cX10_does : ByteArray := prog_12_method_17_code
def yX10_does : MethodName := ⟨RX10, "does", "(I)V"⟩
abbrev cX10_readsClause : ByteArray := prog_12_method_18_code
def yX10_readsClause : MethodName := ⟨RX10, "readsClause", "()Z"⟩
abbrev cX10_readsAll : ByteArray := prog_12_method_19_code
def yX10_readsAll : MethodName := ⟨RX10, "readsAll", "(Z)Z"⟩
abbrev cX10_fault : ByteArray := prog_12_method_20_code
def yX10_fault : MethodName := ⟨RX10, "fault", "()I"⟩
abbrev cX10_tell : ByteArray := prog_12_method_21_code
def yX10_tell : MethodName := ⟨RX10, "tell", "()I"⟩
abbrev cX10_cell : ByteArray := prog_12_method_22_code
def yX10_cell : MethodName := ⟨RX10, "cell", "(II)I"⟩
abbrev cX10_put : ByteArray := prog_12_method_23_code
def yX10_put : MethodName := ⟨RX10, "put", "(III)I"⟩
abbrev cX10_keys : ByteArray := prog_12_method_24_code
def yX10_keys : MethodName := ⟨RX10, "keys", "(IIII)V"⟩
abbrev cX10_keysOf : ByteArray := prog_12_method_25_code
def yX10_keysOf : MethodName := ⟨RX10, "keysOf", "(I)I"⟩
abbrev cX10_key : ByteArray := prog_12_method_26_code
def yX10_key : MethodName := ⟨RX10, "key", "(IIIII)I"⟩
abbrev cX10_lock : ByteArray := prog_12_method_27_code
def yX10_lock : MethodName := ⟨RX10, "lock", "(II)I"⟩
abbrev cX10_door : ByteArray := prog_12_method_28_code
def yX10_door : MethodName := ⟨RX10, "door", "(III)I"⟩
abbrev cX10_isReady : ByteArray := prog_12_method_29_code
def yX10_isReady : MethodName := ⟨RX10, "isReady", "(I)Z"⟩
abbrev cX10_joins : ByteArray := prog_12_method_30_code
def yX10_joins : MethodName := ⟨RX10, "joins", "(I)V"⟩
abbrev cX10_copyPacket : ByteArray := prog_12_method_31_code
def yX10_copyPacket : MethodName := ⟨RX10, "copyPacket", "(II)V"⟩
abbrev cX10_readyEnds : ByteArray := prog_12_method_32_code
def yX10_readyEnds : MethodName := ⟨RX10, "readyEnds", "()I"⟩
abbrev cX10_join : ByteArray := prog_12_method_33_code
def yX10_join : MethodName := ⟨RX10, "join", "(I)I"⟩
abbrev cX10_tear : ByteArray := prog_12_method_34_code
def yX10_tear : MethodName := ⟨RX10, "tear", "(I)I"⟩
abbrev cX10_delay : ByteArray := prog_12_method_35_code
def yX10_delay : MethodName := ⟨RX10, "delay", "(II)I"⟩
abbrev cX10_aim : ByteArray := prog_12_method_36_code
def yX10_aim : MethodName := ⟨RX10, "aim", "(III)I"⟩
abbrev cX10_sends : ByteArray := prog_12_method_37_code
def yX10_sends : MethodName := ⟨RX10, "sends", "(IIIII)V"⟩
abbrev cX10_firstPacket : ByteArray := prog_12_method_38_code
def yX10_firstPacket : MethodName := ⟨RX10, "firstPacket", "()I"⟩
abbrev cX10_step : ByteArray := prog_12_method_39_code
def yX10_step : MethodName := ⟨RX10, "step", "(I)I"⟩
abbrev cX10_tells : ByteArray := prog_12_method_40_code
def yX10_tells : MethodName := ⟨RX10, "tells", "(IIIII)V"⟩
abbrev cX10_tellsOldest : ByteArray := prog_12_method_41_code
def yX10_tellsOldest : MethodName := ⟨RX10, "tellsOldest", "(III)V"⟩
abbrev cX10_breaks : ByteArray := prog_12_method_42_code
def yX10_breaks : MethodName := ⟨RX10, "breaks", "(I)V"⟩
abbrev cX10_sendsWork : ByteArray := prog_12_method_43_code
def yX10_sendsWork : MethodName := ⟨RX10, "sendsWork", "(II)V"⟩
abbrev cX10_again : ByteArray := prog_12_method_44_code
def yX10_again : MethodName := ⟨RX10, "again", "(I)V"⟩
abbrev cX10_requested : ByteArray := prog_12_method_45_code
def yX10_requested : MethodName := ⟨RX10, "requested", "(III)V"⟩
abbrev cX10_tellsAgain : ByteArray := prog_12_method_46_code
def yX10_tellsAgain : MethodName := ⟨RX10, "tellsAgain", "(II)V"⟩
abbrev cX10_receives : ByteArray := prog_12_method_47_code
def yX10_receives : MethodName := ⟨RX10, "receives", "(II)V"⟩
abbrev cX10_passes : ByteArray := prog_12_method_48_code
def yX10_passes : MethodName := ⟨RX10, "passes", "(III)V"⟩
abbrev cX10_reasonOf : ByteArray := prog_12_method_49_code
def yX10_reasonOf : MethodName := ⟨RX10, "reasonOf", "(III)I"⟩
abbrev cX10_accesses : ByteArray := prog_12_method_50_code
def yX10_accesses : MethodName := ⟨RX10, "accesses", "(III)V"⟩
abbrev cX10_changesMore : ByteArray := prog_12_method_51_code
def yX10_changesMore : MethodName := ⟨RX10, "changesMore", "(III)V"⟩
abbrev cX10_oldest : ByteArray := prog_12_method_52_code
def yX10_oldest : MethodName := ⟨RX10, "oldest", "(I)I"⟩
abbrev cX10_isOpen : ByteArray := prog_12_method_53_code
def yX10_isOpen : MethodName := ⟨RX10, "isOpen", "(II)Z"⟩
abbrev cX10_answered : ByteArray := prog_12_method_54_code
def yX10_answered : MethodName := ⟨RX10, "answered", "(III)V"⟩
abbrev cX10_post : ByteArray := prog_12_method_55_code
def yX10_post : MethodName := ⟨RX10, "post", "(IIIII)I"⟩
abbrev cX10_send : ByteArray := prog_12_method_56_code
def yX10_send : MethodName := ⟨RX10, "send", "(II)I"⟩
abbrev cX10_store : ByteArray := prog_12_method_57_code
def yX10_store : MethodName := ⟨RX10, "store", "(II)I"⟩
abbrev cX10_read : ByteArray := prog_12_method_58_code
def yX10_read : MethodName := ⟨RX10, "read", "(II)I"⟩
abbrev cX10_add : ByteArray := prog_12_method_59_code
def yX10_add : MethodName := ⟨RX10, "add", "(III)I"⟩
abbrev cX10_swap : ByteArray := prog_12_method_60_code
def yX10_swap : MethodName := ⟨RX10, "swap", "(IIII)I"⟩
abbrev cX10_receive : ByteArray := prog_12_method_61_code
def yX10_receive : MethodName := ⟨RX10, "receive", "(II)I"⟩
abbrev cX10_tick : ByteArray := prog_12_method_62_code
def yX10_tick : MethodName := ⟨RX10, "tick", "(I)I"⟩
abbrev cX10_take : ByteArray := prog_12_method_63_code
def yX10_take : MethodName := ⟨RX10, "take", "(I)I"⟩
abbrev cX10_taken : ByteArray := prog_12_method_64_code
def yX10_taken : MethodName := ⟨RX10, "taken", "(I)I"⟩
abbrev cX10_end : ByteArray := prog_12_method_65_code
def yX10_end : MethodName := ⟨RX10, "end", "(II)I"⟩
abbrev cX10_open : ByteArray := prog_12_method_66_code
def yX10_open : MethodName := ⟨RX10, "open", "(III)I"⟩
abbrev cX10_packet : ByteArray := prog_12_method_67_code
def yX10_packet : MethodName := ⟨RX10, "packet", "(I)I"⟩
abbrev cX10_allCells : ByteArray := prog_12_method_68_code
def yX10_allCells : MethodName := ⟨RX10, "allCells", "()I"⟩
abbrev cX10_count : ByteArray := prog_12_method_69_code
def yX10_count : MethodName := ⟨RX10, "count", "(I)I"⟩
def RJ0 : String := "java/lang/String"
abbrev cJ0_length_8abf5 : ByteArray := prog_13_method_54_code
def yJ0_length_8abf5 : MethodName := ⟨RJ0, "length", "()I"⟩
abbrev cJ0_charAt_5068e : ByteArray := prog_13_method_56_code
def yJ0_charAt_5068e : MethodName := ⟨RJ0, "charAt", "(I)C"⟩
abbrev cJ0_coder_7d493 : ByteArray := prog_13_method_152_code
def yJ0_coder_7d493 : MethodName := ⟨RJ0, "coder", "()B"⟩
abbrev cJ0_isLatin1_aae02 : ByteArray := prog_13_method_154_code
def yJ0_isLatin1_aae02 : MethodName := ⟨RJ0, "isLatin1", "()Z"⟩
abbrev cJ0_checkIndex_df160 : ByteArray := prog_13_method_155_code
def yJ0_checkIndex_df160 : MethodName := ⟨RJ0, "checkIndex", "(II)V"⟩
def RJ1 : String := "java/lang/StringLatin1"
abbrev cJ1_charAt_3b067 : ByteArray := prog_14_method_2_code
def yJ1_charAt_3b067 : MethodName := ⟨RJ1, "charAt", "([BI)C"⟩
def RJ2 : String := "java/lang/StringUTF16"
abbrev cJ2_getChar_3b067 : ByteArray := prog_15_method_5_code
def yJ2_getChar_3b067 : MethodName := ⟨RJ2, "getChar", "([BI)C"⟩
abbrev cJ2_length_9d52b : ByteArray := prog_15_method_6_code
def yJ2_length_9d52b : MethodName := ⟨RJ2, "length", "([B)I"⟩
abbrev cJ2_charAt_3b067 : ByteArray := prog_15_method_83_code
def yJ2_charAt_3b067 : MethodName := ⟨RJ2, "charAt", "([BI)C"⟩
abbrev cJ2_checkIndex_2214a : ByteArray := prog_15_method_91_code
def yJ2_checkIndex_2214a : MethodName := ⟨RJ2, "checkIndex", "(I[B)V"⟩
def RJ3 : String := "jdk/internal/util/Preconditions"
abbrev cJ3_checkIndex_8e157 : ByteArray := prog_16_method_11_code
def yJ3_checkIndex_8e157 : MethodName := ⟨RJ3, "checkIndex", "(IILjava/util/function/BiFunction;)I"⟩
def RL : String := "RemoteCellsLaw"
abbrev cL_law : ByteArray := code
def yL_law : MethodName := ⟨RL, "law", "([I)Z"⟩
abbrev vwCl : List vw_C := [(RX0, TX0, 3), (RX1, TX1, 16), (RX2, TX2, 6), (RX3, TX3, 4), (RX4, TX4, 6), (RX5, TX5, 10), (RX6, TX6, 7), (RX7, TX7, 6), (RX8, TX8, 7), (RX9, TX9, 6), (RX10, TX10, 39)]
end
section
theorem dX0_init_0 : decode cX0_init 0 = .ok (.aload_n 0, 1) := by decide +kernel
theorem dX0_init_1 : decode cX0_init 1 = .ok (.invokespecial 3, 3) := by decide +kernel
theorem dX0_init_4 : decode cX0_init 4 = .ok (.aload_n 0, 1) := by decide +kernel
theorem dX0_init_5 : decode cX0_init 5 = .ok (.iconst 2, 1) := by decide +kernel
theorem dX0_init_6 : decode cX0_init 6 = .ok (.newarray .int, 2) := by decide +kernel
theorem dX0_init_8 : decode cX0_init 8 = .ok (.putfield 9, 3) := by decide +kernel
theorem dX0_init_11 : decode cX0_init 11 = .ok (.aload_n 0, 1) := by decide +kernel
theorem dX0_init_12 : decode cX0_init 12 = .ok (.iconst 2, 1) := by decide +kernel
theorem dX0_init_13 : decode cX0_init 13 = .ok (.newarray .int, 2) := by decide +kernel
theorem dX0_init_15 : decode cX0_init 15 = .ok (.putfield 15, 3) := by decide +kernel
theorem dX0_init_18 : decode cX0_init 18 = .ok (.aload_n 0, 1) := by decide +kernel
theorem dX0_init_19 : decode cX0_init 19 = .ok (.iconst 0, 1) := by decide +kernel
theorem dX0_init_20 : decode cX0_init 20 = .ok (.putfield 18, 3) := by decide +kernel
theorem dX0_init_23 : decode cX0_init 23 = .ok (.return_, 1) := by decide +kernel
theorem dX0_remember_0 : decode cX0_remember 0 = .ok (.aload_n 0, 1) := by decide +kernel
theorem dX0_remember_1 : decode cX0_remember 1 = .ok (.getfield 18, 3) := by decide +kernel
theorem dX0_remember_4 : decode cX0_remember 4 = .ok (.iconst 2, 1) := by decide +kernel
theorem dX0_remember_5 : decode cX0_remember 5 = .ok (.if_icmp .ne 54, 3) := by decide +kernel
theorem dX0_remember_8 : decode cX0_remember 8 = .ok (.iconst 1, 1) := by decide +kernel
theorem dX0_remember_9 : decode cX0_remember 9 = .ok (.istore_n 3, 1) := by decide +kernel
theorem dX0_remember_10 : decode cX0_remember 10 = .ok (.iload_n 3, 1) := by decide +kernel
theorem dX0_remember_11 : decode cX0_remember 11 = .ok (.iconst 2, 1) := by decide +kernel
theorem dX0_remember_12 : decode cX0_remember 12 = .ok (.if_icmp .ge 37, 3) := by decide +kernel
theorem dX0_remember_15 : decode cX0_remember 15 = .ok (.aload_n 0, 1) := by decide +kernel
theorem dX0_remember_16 : decode cX0_remember 16 = .ok (.getfield 9, 3) := by decide +kernel
theorem dX0_remember_19 : decode cX0_remember 19 = .ok (.iload_n 3, 1) := by decide +kernel
theorem dX0_remember_20 : decode cX0_remember 20 = .ok (.iconst 1, 1) := by decide +kernel
theorem dX0_remember_21 : decode cX0_remember 21 = .ok (.isub, 1) := by decide +kernel
theorem dX0_remember_22 : decode cX0_remember 22 = .ok (.aload_n 0, 1) := by decide +kernel
theorem dX0_remember_23 : decode cX0_remember 23 = .ok (.getfield 9, 3) := by decide +kernel
theorem dX0_remember_26 : decode cX0_remember 26 = .ok (.iload_n 3, 1) := by decide +kernel
theorem dX0_remember_27 : decode cX0_remember 27 = .ok (.iaload, 1) := by decide +kernel
theorem dX0_remember_28 : decode cX0_remember 28 = .ok (.iastore, 1) := by decide +kernel
theorem dX0_remember_29 : decode cX0_remember 29 = .ok (.aload_n 0, 1) := by decide +kernel
theorem dX0_remember_30 : decode cX0_remember 30 = .ok (.getfield 15, 3) := by decide +kernel
theorem dX0_remember_33 : decode cX0_remember 33 = .ok (.iload_n 3, 1) := by decide +kernel
theorem dX0_remember_34 : decode cX0_remember 34 = .ok (.iconst 1, 1) := by decide +kernel
theorem dX0_remember_35 : decode cX0_remember 35 = .ok (.isub, 1) := by decide +kernel
theorem dX0_remember_36 : decode cX0_remember 36 = .ok (.aload_n 0, 1) := by decide +kernel
theorem dX0_remember_37 : decode cX0_remember 37 = .ok (.getfield 15, 3) := by decide +kernel
theorem dX0_remember_40 : decode cX0_remember 40 = .ok (.iload_n 3, 1) := by decide +kernel
theorem dX0_remember_41 : decode cX0_remember 41 = .ok (.iaload, 1) := by decide +kernel
theorem dX0_remember_42 : decode cX0_remember 42 = .ok (.iastore, 1) := by decide +kernel
theorem dX0_remember_43 : decode cX0_remember 43 = .ok (.iinc 3 1, 3) := by decide +kernel
theorem dX0_remember_46 : decode cX0_remember 46 = .ok (.goto (-36), 3) := by decide +kernel
theorem dX0_remember_49 : decode cX0_remember 49 = .ok (.aload_n 0, 1) := by decide +kernel
theorem dX0_remember_50 : decode cX0_remember 50 = .ok (.dup, 1) := by decide +kernel
theorem dX0_remember_51 : decode cX0_remember 51 = .ok (.getfield 18, 3) := by decide +kernel
theorem dX0_remember_54 : decode cX0_remember 54 = .ok (.iconst 1, 1) := by decide +kernel
theorem dX0_remember_55 : decode cX0_remember 55 = .ok (.isub, 1) := by decide +kernel
theorem dX0_remember_56 : decode cX0_remember 56 = .ok (.putfield 18, 3) := by decide +kernel
theorem dX0_remember_59 : decode cX0_remember 59 = .ok (.aload_n 0, 1) := by decide +kernel
theorem dX0_remember_60 : decode cX0_remember 60 = .ok (.getfield 9, 3) := by decide +kernel
theorem dX0_remember_63 : decode cX0_remember 63 = .ok (.aload_n 0, 1) := by decide +kernel
theorem dX0_remember_64 : decode cX0_remember 64 = .ok (.getfield 18, 3) := by decide +kernel
theorem dX0_remember_67 : decode cX0_remember 67 = .ok (.iload_n 1, 1) := by decide +kernel
theorem dX0_remember_68 : decode cX0_remember 68 = .ok (.iastore, 1) := by decide +kernel
theorem dX0_remember_69 : decode cX0_remember 69 = .ok (.aload_n 0, 1) := by decide +kernel
theorem dX0_remember_70 : decode cX0_remember 70 = .ok (.getfield 15, 3) := by decide +kernel
theorem dX0_remember_73 : decode cX0_remember 73 = .ok (.aload_n 0, 1) := by decide +kernel
theorem dX0_remember_74 : decode cX0_remember 74 = .ok (.getfield 18, 3) := by decide +kernel
theorem dX0_remember_77 : decode cX0_remember 77 = .ok (.iload_n 2, 1) := by decide +kernel
theorem dX0_remember_78 : decode cX0_remember 78 = .ok (.iastore, 1) := by decide +kernel
theorem dX0_remember_79 : decode cX0_remember 79 = .ok (.aload_n 0, 1) := by decide +kernel
theorem dX0_remember_80 : decode cX0_remember 80 = .ok (.dup, 1) := by decide +kernel
theorem dX0_remember_81 : decode cX0_remember 81 = .ok (.getfield 18, 3) := by decide +kernel
theorem dX0_remember_84 : decode cX0_remember 84 = .ok (.iconst 1, 1) := by decide +kernel
theorem dX0_remember_85 : decode cX0_remember 85 = .ok (.iadd, 1) := by decide +kernel
theorem dX0_remember_86 : decode cX0_remember 86 = .ok (.putfield 18, 3) := by decide +kernel
theorem dX0_remember_89 : decode cX0_remember 89 = .ok (.return_, 1) := by decide +kernel
theorem dX0_toldOf_0 : decode cX0_toldOf 0 = .ok (.iconst 0, 1) := by decide +kernel
theorem dX0_toldOf_1 : decode cX0_toldOf 1 = .ok (.istore_n 2, 1) := by decide +kernel
theorem dX0_toldOf_2 : decode cX0_toldOf 2 = .ok (.iload_n 2, 1) := by decide +kernel
theorem dX0_toldOf_3 : decode cX0_toldOf 3 = .ok (.aload_n 0, 1) := by decide +kernel
theorem dX0_toldOf_4 : decode cX0_toldOf 4 = .ok (.getfield 18, 3) := by decide +kernel
theorem dX0_toldOf_7 : decode cX0_toldOf 7 = .ok (.if_icmp .ge 26, 3) := by decide +kernel
theorem dX0_toldOf_10 : decode cX0_toldOf 10 = .ok (.aload_n 0, 1) := by decide +kernel
theorem dX0_toldOf_11 : decode cX0_toldOf 11 = .ok (.getfield 9, 3) := by decide +kernel
theorem dX0_toldOf_14 : decode cX0_toldOf 14 = .ok (.iload_n 2, 1) := by decide +kernel
theorem dX0_toldOf_15 : decode cX0_toldOf 15 = .ok (.iaload, 1) := by decide +kernel
theorem dX0_toldOf_16 : decode cX0_toldOf 16 = .ok (.iload_n 1, 1) := by decide +kernel
theorem dX0_toldOf_17 : decode cX0_toldOf 17 = .ok (.if_icmp .ne 10, 3) := by decide +kernel
theorem dX0_toldOf_20 : decode cX0_toldOf 20 = .ok (.aload_n 0, 1) := by decide +kernel
theorem dX0_toldOf_21 : decode cX0_toldOf 21 = .ok (.getfield 15, 3) := by decide +kernel
theorem dX0_toldOf_24 : decode cX0_toldOf 24 = .ok (.iload_n 2, 1) := by decide +kernel
theorem dX0_toldOf_25 : decode cX0_toldOf 25 = .ok (.iaload, 1) := by decide +kernel
theorem dX0_toldOf_26 : decode cX0_toldOf 26 = .ok (.ireturn, 1) := by decide +kernel
theorem dX0_toldOf_27 : decode cX0_toldOf 27 = .ok (.iinc 2 1, 3) := by decide +kernel
theorem dX0_toldOf_30 : decode cX0_toldOf 30 = .ok (.goto (-28), 3) := by decide +kernel
theorem dX0_toldOf_33 : decode cX0_toldOf 33 = .ok (.iconst (-1), 1) := by decide +kernel
theorem dX0_toldOf_34 : decode cX0_toldOf 34 = .ok (.ireturn, 1) := by decide +kernel
theorem dX1_init_0 : decode cX1_init 0 = .ok (.aload_n 0, 1) := by decide +kernel
theorem dX1_init_1 : decode cX1_init 1 = .ok (.invokespecial 3, 3) := by decide +kernel
theorem dX1_init_4 : decode cX1_init 4 = .ok (.aload_n 0, 1) := by decide +kernel
theorem dX1_init_5 : decode cX1_init 5 = .ok (.iconst 4, 1) := by decide +kernel
theorem dX1_init_6 : decode cX1_init 6 = .ok (.anewarray 9, 3) := by decide +kernel
theorem dX1_init_9 : decode cX1_init 9 = .ok (.putfield 11, 3) := by decide +kernel
theorem dX1_init_12 : decode cX1_init 12 = .ok (.aload_n 0, 1) := by decide +kernel
theorem dX1_init_13 : decode cX1_init 13 = .ok (.iconst 3, 1) := by decide +kernel
theorem dX1_init_14 : decode cX1_init 14 = .ok (.newarray .int, 2) := by decide +kernel
theorem dX1_init_16 : decode cX1_init 16 = .ok (.putfield 17, 3) := by decide +kernel
theorem dX1_init_19 : decode cX1_init 19 = .ok (.aload_n 0, 1) := by decide +kernel
theorem dX1_init_20 : decode cX1_init 20 = .ok (.new 21, 3) := by decide +kernel
theorem dX1_init_23 : decode cX1_init 23 = .ok (.dup, 1) := by decide +kernel
theorem dX1_init_24 : decode cX1_init 24 = .ok (.invokespecial 23, 3) := by decide +kernel
theorem dX1_init_27 : decode cX1_init 27 = .ok (.putfield 24, 3) := by decide +kernel
theorem dX1_init_30 : decode cX1_init 30 = .ok (.aload_n 0, 1) := by decide +kernel
theorem dX1_init_31 : decode cX1_init 31 = .ok (.iconst 0, 1) := by decide +kernel
theorem dX1_init_32 : decode cX1_init 32 = .ok (.putfield 28, 3) := by decide +kernel
theorem dX1_init_35 : decode cX1_init 35 = .ok (.aload_n 0, 1) := by decide +kernel
theorem dX1_init_36 : decode cX1_init 36 = .ok (.iconst 0, 1) := by decide +kernel
theorem dX1_init_37 : decode cX1_init 37 = .ok (.putfield 32, 3) := by decide +kernel
theorem dX1_init_40 : decode cX1_init 40 = .ok (.aload_n 0, 1) := by decide +kernel
theorem dX1_init_41 : decode cX1_init 41 = .ok (.iconst 0, 1) := by decide +kernel
theorem dX1_init_42 : decode cX1_init 42 = .ok (.putfield 35, 3) := by decide +kernel
theorem dX1_init_45 : decode cX1_init 45 = .ok (.aload_n 0, 1) := by decide +kernel
theorem dX1_init_46 : decode cX1_init 46 = .ok (.iconst 0, 1) := by decide +kernel
theorem dX1_init_47 : decode cX1_init 47 = .ok (.putfield 38, 3) := by decide +kernel
theorem dX1_init_50 : decode cX1_init 50 = .ok (.aload_n 0, 1) := by decide +kernel
theorem dX1_init_51 : decode cX1_init 51 = .ok (.iconst 0, 1) := by decide +kernel
theorem dX1_init_52 : decode cX1_init 52 = .ok (.putfield 41, 3) := by decide +kernel
theorem dX1_init_55 : decode cX1_init 55 = .ok (.aload_n 0, 1) := by decide +kernel
theorem dX1_init_56 : decode cX1_init 56 = .ok (.iconst 0, 1) := by decide +kernel
theorem dX1_init_57 : decode cX1_init 57 = .ok (.putfield 44, 3) := by decide +kernel
theorem dX1_init_60 : decode cX1_init 60 = .ok (.aload_n 0, 1) := by decide +kernel
theorem dX1_init_61 : decode cX1_init 61 = .ok (.iconst 0, 1) := by decide +kernel
theorem dX1_init_62 : decode cX1_init 62 = .ok (.putfield 47, 3) := by decide +kernel
theorem dX1_init_65 : decode cX1_init 65 = .ok (.aload_n 0, 1) := by decide +kernel
theorem dX1_init_66 : decode cX1_init 66 = .ok (.iconst 0, 1) := by decide +kernel
theorem dX1_init_67 : decode cX1_init 67 = .ok (.putfield 50, 3) := by decide +kernel
theorem dX1_init_70 : decode cX1_init 70 = .ok (.aload_n 0, 1) := by decide +kernel
theorem dX1_init_71 : decode cX1_init 71 = .ok (.iconst 0, 1) := by decide +kernel
theorem dX1_init_72 : decode cX1_init 72 = .ok (.putfield 54, 3) := by decide +kernel
theorem dX1_init_75 : decode cX1_init 75 = .ok (.aload_n 0, 1) := by decide +kernel
theorem dX1_init_76 : decode cX1_init 76 = .ok (.iconst 0, 1) := by decide +kernel
theorem dX1_init_77 : decode cX1_init 77 = .ok (.putfield 57, 3) := by decide +kernel
theorem dX1_init_80 : decode cX1_init 80 = .ok (.aload_n 0, 1) := by decide +kernel
theorem dX1_init_81 : decode cX1_init 81 = .ok (.iload_n 1, 1) := by decide +kernel
theorem dX1_init_82 : decode cX1_init 82 = .ok (.putfield 60, 3) := by decide +kernel
theorem dX1_init_85 : decode cX1_init 85 = .ok (.aload_n 0, 1) := by decide +kernel
theorem dX1_init_86 : decode cX1_init 86 = .ok (.aload_n 2, 1) := by decide +kernel
theorem dX1_init_87 : decode cX1_init 87 = .ok (.putfield 63, 3) := by decide +kernel
theorem dX1_init_90 : decode cX1_init 90 = .ok (.aload_n 0, 1) := by decide +kernel
theorem dX1_init_91 : decode cX1_init 91 = .ok (.aload_n 3, 1) := by decide +kernel
theorem dX1_init_92 : decode cX1_init 92 = .ok (.putfield 67, 3) := by decide +kernel
theorem dX1_init_95 : decode cX1_init 95 = .ok (.iconst 0, 1) := by decide +kernel
theorem dX1_init_96 : decode cX1_init 96 = .ok (.istore 4, 2) := by decide +kernel
theorem dX1_init_98 : decode cX1_init 98 = .ok (.iload 4, 2) := by decide +kernel
theorem dX1_init_100 : decode cX1_init 100 = .ok (.iconst 4, 1) := by decide +kernel
theorem dX1_init_101 : decode cX1_init 101 = .ok (.if_icmp .ge 23, 3) := by decide +kernel
theorem dX1_init_104 : decode cX1_init 104 = .ok (.aload_n 0, 1) := by decide +kernel
theorem dX1_init_105 : decode cX1_init 105 = .ok (.getfield 11, 3) := by decide +kernel
theorem dX1_init_108 : decode cX1_init 108 = .ok (.iload 4, 2) := by decide +kernel
theorem dX1_init_110 : decode cX1_init 110 = .ok (.new 9, 3) := by decide +kernel
theorem dX1_init_113 : decode cX1_init 113 = .ok (.dup, 1) := by decide +kernel
theorem dX1_init_114 : decode cX1_init 114 = .ok (.invokespecial 71, 3) := by decide +kernel
theorem dX1_init_117 : decode cX1_init 117 = .ok (.aastore, 1) := by decide +kernel
theorem dX1_init_118 : decode cX1_init 118 = .ok (.iinc 4 1, 3) := by decide +kernel
theorem dX1_init_121 : decode cX1_init 121 = .ok (.goto (-23), 3) := by decide +kernel
theorem dX1_init_124 : decode cX1_init 124 = .ok (.return_, 1) := by decide +kernel
theorem dX1_reset_0 : decode cX1_reset 0 = .ok (.aload_n 0, 1) := by decide +kernel
theorem dX1_reset_1 : decode cX1_reset 1 = .ok (.iconst 0, 1) := by decide +kernel
theorem dX1_reset_2 : decode cX1_reset 2 = .ok (.invokevirtual 72, 3) := by decide +kernel
theorem dX1_reset_5 : decode cX1_reset 5 = .ok (.aload_n 0, 1) := by decide +kernel
theorem dX1_reset_6 : decode cX1_reset 6 = .ok (.iconst 0, 1) := by decide +kernel
theorem dX1_reset_7 : decode cX1_reset 7 = .ok (.iconst 0, 1) := by decide +kernel
theorem dX1_reset_8 : decode cX1_reset 8 = .ok (.invokevirtual 76, 3) := by decide +kernel
theorem dX1_reset_11 : decode cX1_reset 11 = .ok (.return_, 1) := by decide +kernel
theorem dX1_restart_0 : decode cX1_restart 0 = .ok (.aload_n 0, 1) := by decide +kernel
theorem dX1_restart_1 : decode cX1_restart 1 = .ok (.iload_n 1, 1) := by decide +kernel
theorem dX1_restart_2 : decode cX1_restart 2 = .ok (.putfield 28, 3) := by decide +kernel
theorem dX1_restart_5 : decode cX1_restart 5 = .ok (.aload_n 0, 1) := by decide +kernel
theorem dX1_restart_6 : decode cX1_restart 6 = .ok (.iconst 0, 1) := by decide +kernel
theorem dX1_restart_7 : decode cX1_restart 7 = .ok (.putfield 32, 3) := by decide +kernel
theorem dX1_restart_10 : decode cX1_restart 10 = .ok (.aload_n 0, 1) := by decide +kernel
theorem dX1_restart_11 : decode cX1_restart 11 = .ok (.iconst 0, 1) := by decide +kernel
theorem dX1_restart_12 : decode cX1_restart 12 = .ok (.putfield 35, 3) := by decide +kernel
theorem dX1_restart_15 : decode cX1_restart 15 = .ok (.aload_n 0, 1) := by decide +kernel
theorem dX1_restart_16 : decode cX1_restart 16 = .ok (.iconst 0, 1) := by decide +kernel
theorem dX1_restart_17 : decode cX1_restart 17 = .ok (.putfield 38, 3) := by decide +kernel
theorem dX1_restart_20 : decode cX1_restart 20 = .ok (.aload_n 0, 1) := by decide +kernel
theorem dX1_restart_21 : decode cX1_restart 21 = .ok (.iconst 0, 1) := by decide +kernel
theorem dX1_restart_22 : decode cX1_restart 22 = .ok (.putfield 41, 3) := by decide +kernel
theorem dX1_restart_25 : decode cX1_restart 25 = .ok (.aload_n 0, 1) := by decide +kernel
theorem dX1_restart_26 : decode cX1_restart 26 = .ok (.iconst 0, 1) := by decide +kernel
theorem dX1_restart_27 : decode cX1_restart 27 = .ok (.putfield 44, 3) := by decide +kernel
theorem dX1_restart_30 : decode cX1_restart 30 = .ok (.aload_n 0, 1) := by decide +kernel
theorem dX1_restart_31 : decode cX1_restart 31 = .ok (.iconst 0, 1) := by decide +kernel
theorem dX1_restart_32 : decode cX1_restart 32 = .ok (.putfield 47, 3) := by decide +kernel
theorem dX1_restart_35 : decode cX1_restart 35 = .ok (.aload_n 0, 1) := by decide +kernel
theorem dX1_restart_36 : decode cX1_restart 36 = .ok (.iconst 0, 1) := by decide +kernel
theorem dX1_restart_37 : decode cX1_restart 37 = .ok (.putfield 50, 3) := by decide +kernel
theorem dX1_restart_40 : decode cX1_restart 40 = .ok (.aload_n 0, 1) := by decide +kernel
theorem dX1_restart_41 : decode cX1_restart 41 = .ok (.getfield 24, 3) := by decide +kernel
theorem dX1_restart_44 : decode cX1_restart 44 = .ok (.iconst 0, 1) := by decide +kernel
theorem dX1_restart_45 : decode cX1_restart 45 = .ok (.putfield 80, 3) := by decide +kernel
theorem dX1_restart_48 : decode cX1_restart 48 = .ok (.return_, 1) := by decide +kernel
theorem dX1_setAim_0 : decode cX1_setAim 0 = .ok (.aload_n 0, 1) := by decide +kernel
theorem dX1_setAim_1 : decode cX1_setAim 1 = .ok (.iload_n 1, 1) := by decide +kernel
theorem dX1_setAim_2 : decode cX1_setAim 2 = .ok (.putfield 54, 3) := by decide +kernel
theorem dX1_setAim_5 : decode cX1_setAim 5 = .ok (.aload_n 0, 1) := by decide +kernel
theorem dX1_setAim_6 : decode cX1_setAim 6 = .ok (.iload_n 2, 1) := by decide +kernel
theorem dX1_setAim_7 : decode cX1_setAim 7 = .ok (.putfield 57, 3) := by decide +kernel
theorem dX1_setAim_10 : decode cX1_setAim 10 = .ok (.return_, 1) := by decide +kernel
theorem dX1_postWork_0 : decode cX1_postWork 0 = .ok (.aload_n 0, 1) := by decide +kernel
theorem dX1_postWork_1 : decode cX1_postWork 1 = .ok (.getfield 28, 3) := by decide +kernel
theorem dX1_postWork_4 : decode cX1_postWork 4 = .ok (.iconst 1, 1) := by decide +kernel
theorem dX1_postWork_5 : decode cX1_postWork 5 = .ok (.if_icmp .eq 7, 3) := by decide +kernel
theorem dX1_postWork_8 : decode cX1_postWork 8 = .ok (.sipush (-1003), 3) := by decide +kernel
theorem dX1_postWork_11 : decode cX1_postWork 11 = .ok (.ireturn, 1) := by decide +kernel
theorem dX1_postWork_12 : decode cX1_postWork 12 = .ok (.aload_n 0, 1) := by decide +kernel
theorem dX1_postWork_13 : decode cX1_postWork 13 = .ok (.getfield 35, 3) := by decide +kernel
theorem dX1_postWork_16 : decode cX1_postWork 16 = .ok (.iconst 4, 1) := by decide +kernel
theorem dX1_postWork_17 : decode cX1_postWork 17 = .ok (.if_icmp .ge 18, 3) := by decide +kernel
theorem dX1_postWork_20 : decode cX1_postWork 20 = .ok (.iload_n 1, 1) := by decide +kernel
theorem dX1_postWork_21 : decode cX1_postWork 21 = .ok (.invokestatic 83, 3) := by decide +kernel
theorem dX1_postWork_24 : decode cX1_postWork 24 = .ok (.ifCond .eq 15, 3) := by decide +kernel
theorem dX1_postWork_27 : decode cX1_postWork 27 = .ok (.aload_n 0, 1) := by decide +kernel
theorem dX1_postWork_28 : decode cX1_postWork 28 = .ok (.invokevirtual 87, 3) := by decide +kernel
theorem dX1_postWork_31 : decode cX1_postWork 31 = .ok (.iconst 2, 1) := by decide +kernel
theorem dX1_postWork_32 : decode cX1_postWork 32 = .ok (.if_icmp .lt 7, 3) := by decide +kernel
theorem dX1_postWork_35 : decode cX1_postWork 35 = .ok (.sipush (-1004), 3) := by decide +kernel
theorem dX1_postWork_38 : decode cX1_postWork 38 = .ok (.ireturn, 1) := by decide +kernel
theorem dX1_postWork_39 : decode cX1_postWork 39 = .ok (.aload_n 0, 1) := by decide +kernel
theorem dX1_postWork_40 : decode cX1_postWork 40 = .ok (.getfield 11, 3) := by decide +kernel
theorem dX1_postWork_43 : decode cX1_postWork 43 = .ok (.aload_n 0, 1) := by decide +kernel
theorem dX1_postWork_44 : decode cX1_postWork 44 = .ok (.getfield 35, 3) := by decide +kernel
theorem dX1_postWork_47 : decode cX1_postWork 47 = .ok (.aaload, 1) := by decide +kernel
theorem dX1_postWork_48 : decode cX1_postWork 48 = .ok (.astore 5, 2) := by decide +kernel
theorem dX1_postWork_50 : decode cX1_postWork 50 = .ok (.aload_n 0, 1) := by decide +kernel
theorem dX1_postWork_51 : decode cX1_postWork 51 = .ok (.dup, 1) := by decide +kernel
theorem dX1_postWork_52 : decode cX1_postWork 52 = .ok (.getfield 35, 3) := by decide +kernel
theorem dX1_postWork_55 : decode cX1_postWork 55 = .ok (.iconst 1, 1) := by decide +kernel
theorem dX1_postWork_56 : decode cX1_postWork 56 = .ok (.iadd, 1) := by decide +kernel
theorem dX1_postWork_57 : decode cX1_postWork 57 = .ok (.putfield 35, 3) := by decide +kernel
theorem dX1_postWork_60 : decode cX1_postWork 60 = .ok (.aload 5, 2) := by decide +kernel
theorem dX1_postWork_62 : decode cX1_postWork 62 = .ok (.aload_n 0, 1) := by decide +kernel
theorem dX1_postWork_63 : decode cX1_postWork 63 = .ok (.getfield 32, 3) := by decide +kernel
theorem dX1_postWork_66 : decode cX1_postWork 66 = .ok (.putfield 91, 3) := by decide +kernel
theorem dX1_postWork_69 : decode cX1_postWork 69 = .ok (.aload_n 0, 1) := by decide +kernel
theorem dX1_postWork_70 : decode cX1_postWork 70 = .ok (.dup, 1) := by decide +kernel
theorem dX1_postWork_71 : decode cX1_postWork 71 = .ok (.getfield 32, 3) := by decide +kernel
theorem dX1_postWork_74 : decode cX1_postWork 74 = .ok (.iconst 1, 1) := by decide +kernel
theorem dX1_postWork_75 : decode cX1_postWork 75 = .ok (.iadd, 1) := by decide +kernel
theorem dX1_postWork_76 : decode cX1_postWork 76 = .ok (.putfield 32, 3) := by decide +kernel
theorem dX1_postWork_79 : decode cX1_postWork 79 = .ok (.aload 5, 2) := by decide +kernel
theorem dX1_postWork_81 : decode cX1_postWork 81 = .ok (.iload_n 1, 1) := by decide +kernel
theorem dX1_postWork_82 : decode cX1_postWork 82 = .ok (.putfield 94, 3) := by decide +kernel
theorem dX1_postWork_85 : decode cX1_postWork 85 = .ok (.aload 5, 2) := by decide +kernel
theorem dX1_postWork_87 : decode cX1_postWork 87 = .ok (.aload_n 0, 1) := by decide +kernel
theorem dX1_postWork_88 : decode cX1_postWork 88 = .ok (.getfield 54, 3) := by decide +kernel
theorem dX1_postWork_91 : decode cX1_postWork 91 = .ok (.putfield 97, 3) := by decide +kernel
theorem dX1_postWork_94 : decode cX1_postWork 94 = .ok (.aload 5, 2) := by decide +kernel
theorem dX1_postWork_96 : decode cX1_postWork 96 = .ok (.aload_n 0, 1) := by decide +kernel
theorem dX1_postWork_97 : decode cX1_postWork 97 = .ok (.getfield 57, 3) := by decide +kernel
theorem dX1_postWork_100 : decode cX1_postWork 100 = .ok (.putfield 100, 3) := by decide +kernel
theorem dX1_postWork_103 : decode cX1_postWork 103 = .ok (.aload 5, 2) := by decide +kernel
theorem dX1_postWork_105 : decode cX1_postWork 105 = .ok (.iload_n 2, 1) := by decide +kernel
theorem dX1_postWork_106 : decode cX1_postWork 106 = .ok (.putfield 103, 3) := by decide +kernel
theorem dX1_postWork_109 : decode cX1_postWork 109 = .ok (.aload 5, 2) := by decide +kernel
theorem dX1_postWork_111 : decode cX1_postWork 111 = .ok (.iload_n 3, 1) := by decide +kernel
theorem dX1_postWork_112 : decode cX1_postWork 112 = .ok (.putfield 106, 3) := by decide +kernel
theorem dX1_postWork_115 : decode cX1_postWork 115 = .ok (.aload 5, 2) := by decide +kernel
theorem dX1_postWork_117 : decode cX1_postWork 117 = .ok (.iload 4, 2) := by decide +kernel
theorem dX1_postWork_119 : decode cX1_postWork 119 = .ok (.putfield 109, 3) := by decide +kernel
theorem dX1_postWork_122 : decode cX1_postWork 122 = .ok (.aload_n 0, 1) := by decide +kernel
theorem dX1_postWork_123 : decode cX1_postWork 123 = .ok (.aload 5, 2) := by decide +kernel
theorem dX1_postWork_125 : decode cX1_postWork 125 = .ok (.invokevirtual 112, 3) := by decide +kernel
theorem dX1_postWork_128 : decode cX1_postWork 128 = .ok (.aload 5, 2) := by decide +kernel
theorem dX1_postWork_130 : decode cX1_postWork 130 = .ok (.getfield 91, 3) := by decide +kernel
theorem dX1_postWork_133 : decode cX1_postWork 133 = .ok (.ireturn, 1) := by decide +kernel
theorem dX1_openFetches_0 : decode cX1_openFetches 0 = .ok (.iconst 0, 1) := by decide +kernel
theorem dX1_openFetches_1 : decode cX1_openFetches 1 = .ok (.istore_n 1, 1) := by decide +kernel
theorem dX1_openFetches_2 : decode cX1_openFetches 2 = .ok (.iconst 0, 1) := by decide +kernel
theorem dX1_openFetches_3 : decode cX1_openFetches 3 = .ok (.istore_n 2, 1) := by decide +kernel
theorem dX1_openFetches_4 : decode cX1_openFetches 4 = .ok (.iload_n 2, 1) := by decide +kernel
theorem dX1_openFetches_5 : decode cX1_openFetches 5 = .ok (.aload_n 0, 1) := by decide +kernel
theorem dX1_openFetches_6 : decode cX1_openFetches 6 = .ok (.getfield 35, 3) := by decide +kernel
theorem dX1_openFetches_9 : decode cX1_openFetches 9 = .ok (.if_icmp .ge 27, 3) := by decide +kernel
theorem dX1_openFetches_12 : decode cX1_openFetches 12 = .ok (.aload_n 0, 1) := by decide +kernel
theorem dX1_openFetches_13 : decode cX1_openFetches 13 = .ok (.getfield 11, 3) := by decide +kernel
theorem dX1_openFetches_16 : decode cX1_openFetches 16 = .ok (.iload_n 2, 1) := by decide +kernel
theorem dX1_openFetches_17 : decode cX1_openFetches 17 = .ok (.aaload, 1) := by decide +kernel
theorem dX1_openFetches_18 : decode cX1_openFetches 18 = .ok (.getfield 94, 3) := by decide +kernel
theorem dX1_openFetches_21 : decode cX1_openFetches 21 = .ok (.invokestatic 83, 3) := by decide +kernel
theorem dX1_openFetches_24 : decode cX1_openFetches 24 = .ok (.ifCond .eq 6, 3) := by decide +kernel
theorem dX1_openFetches_27 : decode cX1_openFetches 27 = .ok (.iinc 1 1, 3) := by decide +kernel
theorem dX1_openFetches_30 : decode cX1_openFetches 30 = .ok (.iinc 2 1, 3) := by decide +kernel
theorem dX1_openFetches_33 : decode cX1_openFetches 33 = .ok (.goto (-29), 3) := by decide +kernel
theorem dX1_openFetches_36 : decode cX1_openFetches 36 = .ok (.iload_n 1, 1) := by decide +kernel
theorem dX1_openFetches_37 : decode cX1_openFetches 37 = .ok (.ireturn, 1) := by decide +kernel
theorem dX1_postReceive_0 : decode cX1_postReceive 0 = .ok (.aload_n 0, 1) := by decide +kernel
theorem dX1_postReceive_1 : decode cX1_postReceive 1 = .ok (.getfield 28, 3) := by decide +kernel
theorem dX1_postReceive_4 : decode cX1_postReceive 4 = .ok (.iconst 1, 1) := by decide +kernel
theorem dX1_postReceive_5 : decode cX1_postReceive 5 = .ok (.if_icmp .eq 7, 3) := by decide +kernel
theorem dX1_postReceive_8 : decode cX1_postReceive 8 = .ok (.sipush (-1003), 3) := by decide +kernel
theorem dX1_postReceive_11 : decode cX1_postReceive 11 = .ok (.ireturn, 1) := by decide +kernel
theorem dX1_postReceive_12 : decode cX1_postReceive 12 = .ok (.aload_n 0, 1) := by decide +kernel
theorem dX1_postReceive_13 : decode cX1_postReceive 13 = .ok (.getfield 41, 3) := by decide +kernel
theorem dX1_postReceive_16 : decode cX1_postReceive 16 = .ok (.iconst 3, 1) := by decide +kernel
theorem dX1_postReceive_17 : decode cX1_postReceive 17 = .ok (.if_icmp .lt 7, 3) := by decide +kernel
theorem dX1_postReceive_20 : decode cX1_postReceive 20 = .ok (.sipush (-1004), 3) := by decide +kernel
theorem dX1_postReceive_23 : decode cX1_postReceive 23 = .ok (.ireturn, 1) := by decide +kernel
theorem dX1_postReceive_24 : decode cX1_postReceive 24 = .ok (.aload_n 0, 1) := by decide +kernel
theorem dX1_postReceive_25 : decode cX1_postReceive 25 = .ok (.getfield 17, 3) := by decide +kernel
theorem dX1_postReceive_28 : decode cX1_postReceive 28 = .ok (.aload_n 0, 1) := by decide +kernel
theorem dX1_postReceive_29 : decode cX1_postReceive 29 = .ok (.getfield 41, 3) := by decide +kernel
theorem dX1_postReceive_32 : decode cX1_postReceive 32 = .ok (.iload_n 1, 1) := by decide +kernel
theorem dX1_postReceive_33 : decode cX1_postReceive 33 = .ok (.iastore, 1) := by decide +kernel
theorem dX1_postReceive_34 : decode cX1_postReceive 34 = .ok (.aload_n 0, 1) := by decide +kernel
theorem dX1_postReceive_35 : decode cX1_postReceive 35 = .ok (.dup, 1) := by decide +kernel
theorem dX1_postReceive_36 : decode cX1_postReceive 36 = .ok (.getfield 41, 3) := by decide +kernel
theorem dX1_postReceive_39 : decode cX1_postReceive 39 = .ok (.iconst 1, 1) := by decide +kernel
theorem dX1_postReceive_40 : decode cX1_postReceive 40 = .ok (.iadd, 1) := by decide +kernel
theorem dX1_postReceive_41 : decode cX1_postReceive 41 = .ok (.putfield 41, 3) := by decide +kernel
theorem dX1_postReceive_44 : decode cX1_postReceive 44 = .ok (.aload_n 0, 1) := by decide +kernel
theorem dX1_postReceive_45 : decode cX1_postReceive 45 = .ok (.getfield 41, 3) := by decide +kernel
theorem dX1_postReceive_48 : decode cX1_postReceive 48 = .ok (.ireturn, 1) := by decide +kernel
theorem dX1_request_0 : decode cX1_request 0 = .ok (.aload_n 0, 1) := by decide +kernel
theorem dX1_request_1 : decode cX1_request 1 = .ok (.getfield 67, 3) := by decide +kernel
theorem dX1_request_4 : decode cX1_request 4 = .ok (.aload_n 0, 1) := by decide +kernel
theorem dX1_request_5 : decode cX1_request 5 = .ok (.getfield 60, 3) := by decide +kernel
theorem dX1_request_8 : decode cX1_request 8 = .ok (.invokestatic 116, 3) := by decide +kernel
theorem dX1_request_11 : decode cX1_request 11 = .ok (.invokevirtual 120, 3) := by decide +kernel
theorem dX1_request_14 : decode cX1_request 14 = .ok (.astore_n 2, 1) := by decide +kernel
theorem dX1_request_15 : decode cX1_request 15 = .ok (.aload_n 2, 1) := by decide +kernel
theorem dX1_request_16 : decode cX1_request 16 = .ok (.ifnull 8, 3) := by decide +kernel
theorem dX1_request_19 : decode cX1_request 19 = .ok (.aload_n 2, 1) := by decide +kernel
theorem dX1_request_20 : decode cX1_request 20 = .ok (.aload_n 1, 1) := by decide +kernel
theorem dX1_request_21 : decode cX1_request 21 = .ok (.invokevirtual 126, 3) := by decide +kernel
theorem dX1_request_24 : decode cX1_request 24 = .ok (.return_, 1) := by decide +kernel
theorem dX1_answer_0 : decode cX1_answer 0 = .ok (.aload_n 0, 1) := by decide +kernel
theorem dX1_answer_1 : decode cX1_answer 1 = .ok (.getfield 67, 3) := by decide +kernel
theorem dX1_answer_4 : decode cX1_answer 4 = .ok (.aload_n 0, 1) := by decide +kernel
theorem dX1_answer_5 : decode cX1_answer 5 = .ok (.getfield 60, 3) := by decide +kernel
theorem dX1_answer_8 : decode cX1_answer 8 = .ok (.invokestatic 116, 3) := by decide +kernel
theorem dX1_answer_11 : decode cX1_answer 11 = .ok (.invokevirtual 120, 3) := by decide +kernel
theorem dX1_answer_14 : decode cX1_answer 14 = .ok (.astore 4, 2) := by decide +kernel
theorem dX1_answer_16 : decode cX1_answer 16 = .ok (.aload 4, 2) := by decide +kernel
theorem dX1_answer_18 : decode cX1_answer 18 = .ok (.ifnull 11, 3) := by decide +kernel
theorem dX1_answer_21 : decode cX1_answer 21 = .ok (.aload 4, 2) := by decide +kernel
theorem dX1_answer_23 : decode cX1_answer 23 = .ok (.iload_n 1, 1) := by decide +kernel
theorem dX1_answer_24 : decode cX1_answer 24 = .ok (.iload_n 2, 1) := by decide +kernel
theorem dX1_answer_25 : decode cX1_answer 25 = .ok (.iload_n 3, 1) := by decide +kernel
theorem dX1_answer_26 : decode cX1_answer 26 = .ok (.invokevirtual 131, 3) := by decide +kernel
theorem dX1_answer_29 : decode cX1_answer 29 = .ok (.return_, 1) := by decide +kernel
theorem dX1_meet_0 : decode cX1_meet 0 = .ok (.aload_n 0, 1) := by decide +kernel
theorem dX1_meet_1 : decode cX1_meet 1 = .ok (.getfield 28, 3) := by decide +kernel
theorem dX1_meet_4 : decode cX1_meet 4 = .ok (.iconst 1, 1) := by decide +kernel
theorem dX1_meet_5 : decode cX1_meet 5 = .ok (.if_icmp .eq 4, 3) := by decide +kernel
theorem dX1_meet_8 : decode cX1_meet 8 = .ok (.return_, 1) := by decide +kernel
theorem dX1_meet_9 : decode cX1_meet 9 = .ok (.aload_n 1, 1) := by decide +kernel
theorem dX1_meet_10 : decode cX1_meet 10 = .ok (.getfield 135, 3) := by decide +kernel
theorem dX1_meet_13 : decode cX1_meet 13 = .ok (.ifCond .eq 11, 3) := by decide +kernel
theorem dX1_meet_16 : decode cX1_meet 16 = .ok (.aload_n 0, 1) := by decide +kernel
theorem dX1_meet_17 : decode cX1_meet 17 = .ok (.aload_n 1, 1) := by decide +kernel
theorem dX1_meet_18 : decode cX1_meet 18 = .ok (.invokevirtual 138, 3) := by decide +kernel
theorem dX1_meet_21 : decode cX1_meet 21 = .ok (.goto 45, 3) := by decide +kernel
theorem dX1_meet_24 : decode cX1_meet 24 = .ok (.aload_n 1, 1) := by decide +kernel
theorem dX1_meet_25 : decode cX1_meet 25 = .ok (.getfield 142, 3) := by decide +kernel
theorem dX1_meet_28 : decode cX1_meet 28 = .ok (.aload_n 0, 1) := by decide +kernel
theorem dX1_meet_29 : decode cX1_meet 29 = .ok (.getfield 38, 3) := by decide +kernel
theorem dX1_meet_32 : decode cX1_meet 32 = .ok (.if_icmp .le 10, 3) := by decide +kernel
theorem dX1_meet_35 : decode cX1_meet 35 = .ok (.aload_n 0, 1) := by decide +kernel
theorem dX1_meet_36 : decode cX1_meet 36 = .ok (.invokevirtual 143, 3) := by decide +kernel
theorem dX1_meet_39 : decode cX1_meet 39 = .ok (.goto 27, 3) := by decide +kernel
theorem dX1_meet_42 : decode cX1_meet 42 = .ok (.aload_n 1, 1) := by decide +kernel
theorem dX1_meet_43 : decode cX1_meet 43 = .ok (.getfield 142, 3) := by decide +kernel
theorem dX1_meet_46 : decode cX1_meet 46 = .ok (.aload_n 0, 1) := by decide +kernel
theorem dX1_meet_47 : decode cX1_meet 47 = .ok (.getfield 38, 3) := by decide +kernel
theorem dX1_meet_50 : decode cX1_meet 50 = .ok (.if_icmp .ge 11, 3) := by decide +kernel
theorem dX1_meet_53 : decode cX1_meet 53 = .ok (.aload_n 0, 1) := by decide +kernel
theorem dX1_meet_54 : decode cX1_meet 54 = .ok (.aload_n 1, 1) := by decide +kernel
theorem dX1_meet_55 : decode cX1_meet 55 = .ok (.invokevirtual 146, 3) := by decide +kernel
theorem dX1_meet_58 : decode cX1_meet 58 = .ok (.goto 8, 3) := by decide +kernel
theorem dX1_meet_61 : decode cX1_meet 61 = .ok (.aload_n 0, 1) := by decide +kernel
theorem dX1_meet_62 : decode cX1_meet 62 = .ok (.aload_n 1, 1) := by decide +kernel
theorem dX1_meet_63 : decode cX1_meet 63 = .ok (.invokevirtual 149, 3) := by decide +kernel
theorem dX1_meet_66 : decode cX1_meet 66 = .ok (.return_, 1) := by decide +kernel
theorem dX1_complain_0 : decode cX1_complain 0 = .ok (.aload_n 0, 1) := by decide +kernel
theorem dX1_complain_1 : decode cX1_complain 1 = .ok (.getfield 50, 3) := by decide +kernel
theorem dX1_complain_4 : decode cX1_complain 4 = .ok (.ifCond .ne 18, 3) := by decide +kernel
theorem dX1_complain_7 : decode cX1_complain 7 = .ok (.aload_n 0, 1) := by decide +kernel
theorem dX1_complain_8 : decode cX1_complain 8 = .ok (.iconst 2, 1) := by decide +kernel
theorem dX1_complain_9 : decode cX1_complain 9 = .ok (.aload_n 0, 1) := by decide +kernel
theorem dX1_complain_10 : decode cX1_complain 10 = .ok (.getfield 38, 3) := by decide +kernel
theorem dX1_complain_13 : decode cX1_complain 13 = .ok (.iconst 0, 1) := by decide +kernel
theorem dX1_complain_14 : decode cX1_complain 14 = .ok (.invokevirtual 152, 3) := by decide +kernel
theorem dX1_complain_17 : decode cX1_complain 17 = .ok (.aload_n 0, 1) := by decide +kernel
theorem dX1_complain_18 : decode cX1_complain 18 = .ok (.iconst 1, 1) := by decide +kernel
theorem dX1_complain_19 : decode cX1_complain 19 = .ok (.putfield 50, 3) := by decide +kernel
theorem dX1_complain_22 : decode cX1_complain 22 = .ok (.return_, 1) := by decide +kernel
theorem dX1_meetOldRequest_0 : decode cX1_meetOldRequest 0 = .ok (.iconst 0, 1) := by decide +kernel
theorem dX1_meetOldRequest_1 : decode cX1_meetOldRequest 1 = .ok (.istore_n 2, 1) := by decide +kernel
theorem dX1_meetOldRequest_2 : decode cX1_meetOldRequest 2 = .ok (.aload_n 1, 1) := by decide +kernel
theorem dX1_meetOldRequest_3 : decode cX1_meetOldRequest 3 = .ok (.getfield 155, 3) := by decide +kernel
theorem dX1_meetOldRequest_6 : decode cX1_meetOldRequest 6 = .ok (.iconst 2, 1) := by decide +kernel
theorem dX1_meetOldRequest_7 : decode cX1_meetOldRequest 7 = .ok (.if_icmp .ne 12, 3) := by decide +kernel
theorem dX1_meetOldRequest_10 : decode cX1_meetOldRequest 10 = .ok (.aload_n 0, 1) := by decide +kernel
theorem dX1_meetOldRequest_11 : decode cX1_meetOldRequest 11 = .ok (.aload_n 1, 1) := by decide +kernel
theorem dX1_meetOldRequest_12 : decode cX1_meetOldRequest 12 = .ok (.invokevirtual 156, 3) := by decide +kernel
theorem dX1_meetOldRequest_15 : decode cX1_meetOldRequest 15 = .ok (.istore_n 2, 1) := by decide +kernel
theorem dX1_meetOldRequest_16 : decode cX1_meetOldRequest 16 = .ok (.goto 25, 3) := by decide +kernel
theorem dX1_meetOldRequest_19 : decode cX1_meetOldRequest 19 = .ok (.aload_n 1, 1) := by decide +kernel
theorem dX1_meetOldRequest_20 : decode cX1_meetOldRequest 20 = .ok (.getfield 155, 3) := by decide +kernel
theorem dX1_meetOldRequest_23 : decode cX1_meetOldRequest 23 = .ok (.invokestatic 83, 3) := by decide +kernel
theorem dX1_meetOldRequest_26 : decode cX1_meetOldRequest 26 = .ok (.ifCond .eq 15, 3) := by decide +kernel
theorem dX1_meetOldRequest_29 : decode cX1_meetOldRequest 29 = .ok (.aload_n 0, 1) := by decide +kernel
theorem dX1_meetOldRequest_30 : decode cX1_meetOldRequest 30 = .ok (.getfield 24, 3) := by decide +kernel
theorem dX1_meetOldRequest_33 : decode cX1_meetOldRequest 33 = .ok (.aload_n 1, 1) := by decide +kernel
theorem dX1_meetOldRequest_34 : decode cX1_meetOldRequest 34 = .ok (.getfield 142, 3) := by decide +kernel
theorem dX1_meetOldRequest_37 : decode cX1_meetOldRequest 37 = .ok (.invokevirtual 160, 3) := by decide +kernel
theorem dX1_meetOldRequest_40 : decode cX1_meetOldRequest 40 = .ok (.istore_n 2, 1) := by decide +kernel
theorem dX1_meetOldRequest_41 : decode cX1_meetOldRequest 41 = .ok (.iload_n 2, 1) := by decide +kernel
theorem dX1_meetOldRequest_42 : decode cX1_meetOldRequest 42 = .ok (.iconst (-1), 1) := by decide +kernel
theorem dX1_meetOldRequest_43 : decode cX1_meetOldRequest 43 = .ok (.if_icmp .eq 13, 3) := by decide +kernel
theorem dX1_meetOldRequest_46 : decode cX1_meetOldRequest 46 = .ok (.aload_n 0, 1) := by decide +kernel
theorem dX1_meetOldRequest_47 : decode cX1_meetOldRequest 47 = .ok (.iconst 1, 1) := by decide +kernel
theorem dX1_meetOldRequest_48 : decode cX1_meetOldRequest 48 = .ok (.aload_n 1, 1) := by decide +kernel
theorem dX1_meetOldRequest_49 : decode cX1_meetOldRequest 49 = .ok (.getfield 142, 3) := by decide +kernel
theorem dX1_meetOldRequest_52 : decode cX1_meetOldRequest 52 = .ok (.iload_n 2, 1) := by decide +kernel
theorem dX1_meetOldRequest_53 : decode cX1_meetOldRequest 53 = .ok (.invokevirtual 152, 3) := by decide +kernel
theorem dX1_meetOldRequest_56 : decode cX1_meetOldRequest 56 = .ok (.return_, 1) := by decide +kernel
theorem dX1_meetExpected_0 : decode cX1_meetExpected 0 = .ok (.aload_n 1, 1) := by decide +kernel
theorem dX1_meetExpected_1 : decode cX1_meetExpected 1 = .ok (.getfield 155, 3) := by decide +kernel
theorem dX1_meetExpected_4 : decode cX1_meetExpected 4 = .ok (.ifCond .ne 11, 3) := by decide +kernel
theorem dX1_meetExpected_7 : decode cX1_meetExpected 7 = .ok (.aload_n 0, 1) := by decide +kernel
theorem dX1_meetExpected_8 : decode cX1_meetExpected 8 = .ok (.aload_n 1, 1) := by decide +kernel
theorem dX1_meetExpected_9 : decode cX1_meetExpected 9 = .ok (.invokevirtual 163, 3) := by decide +kernel
theorem dX1_meetExpected_12 : decode cX1_meetExpected 12 = .ok (.goto 8, 3) := by decide +kernel
theorem dX1_meetExpected_15 : decode cX1_meetExpected 15 = .ok (.aload_n 0, 1) := by decide +kernel
theorem dX1_meetExpected_16 : decode cX1_meetExpected 16 = .ok (.aload_n 1, 1) := by decide +kernel
theorem dX1_meetExpected_17 : decode cX1_meetExpected 17 = .ok (.invokevirtual 156, 3) := by decide +kernel
theorem dX1_meetExpected_20 : decode cX1_meetExpected 20 = .ok (.istore_n 2, 1) := by decide +kernel
theorem dX1_meetExpected_21 : decode cX1_meetExpected 21 = .ok (.iload_n 2, 1) := by decide +kernel
theorem dX1_meetExpected_22 : decode cX1_meetExpected 22 = .ok (.iconst (-1), 1) := by decide +kernel
theorem dX1_meetExpected_23 : decode cX1_meetExpected 23 = .ok (.if_icmp .eq 28, 3) := by decide +kernel
theorem dX1_meetExpected_26 : decode cX1_meetExpected 26 = .ok (.aload_n 0, 1) := by decide +kernel
theorem dX1_meetExpected_27 : decode cX1_meetExpected 27 = .ok (.aload_n 1, 1) := by decide +kernel
theorem dX1_meetExpected_28 : decode cX1_meetExpected 28 = .ok (.getfield 142, 3) := by decide +kernel
theorem dX1_meetExpected_31 : decode cX1_meetExpected 31 = .ok (.iconst 1, 1) := by decide +kernel
theorem dX1_meetExpected_32 : decode cX1_meetExpected 32 = .ok (.iadd, 1) := by decide +kernel
theorem dX1_meetExpected_33 : decode cX1_meetExpected 33 = .ok (.putfield 38, 3) := by decide +kernel
theorem dX1_meetExpected_36 : decode cX1_meetExpected 36 = .ok (.aload_n 0, 1) := by decide +kernel
theorem dX1_meetExpected_37 : decode cX1_meetExpected 37 = .ok (.iconst 0, 1) := by decide +kernel
theorem dX1_meetExpected_38 : decode cX1_meetExpected 38 = .ok (.putfield 50, 3) := by decide +kernel
theorem dX1_meetExpected_41 : decode cX1_meetExpected 41 = .ok (.aload_n 0, 1) := by decide +kernel
theorem dX1_meetExpected_42 : decode cX1_meetExpected 42 = .ok (.iconst 1, 1) := by decide +kernel
theorem dX1_meetExpected_43 : decode cX1_meetExpected 43 = .ok (.aload_n 1, 1) := by decide +kernel
theorem dX1_meetExpected_44 : decode cX1_meetExpected 44 = .ok (.getfield 142, 3) := by decide +kernel
theorem dX1_meetExpected_47 : decode cX1_meetExpected 47 = .ok (.iload_n 2, 1) := by decide +kernel
theorem dX1_meetExpected_48 : decode cX1_meetExpected 48 = .ok (.invokevirtual 152, 3) := by decide +kernel
theorem dX1_meetExpected_51 : decode cX1_meetExpected 51 = .ok (.return_, 1) := by decide +kernel
theorem dX1_takeIn_0 : decode cX1_takeIn 0 = .ok (.aload_n 0, 1) := by decide +kernel
theorem dX1_takeIn_1 : decode cX1_takeIn 1 = .ok (.getfield 41, 3) := by decide +kernel
theorem dX1_takeIn_4 : decode cX1_takeIn 4 = .ok (.ifCond .ne 15, 3) := by decide +kernel
theorem dX1_takeIn_7 : decode cX1_takeIn 7 = .ok (.aload_n 0, 1) := by decide +kernel
theorem dX1_takeIn_8 : decode cX1_takeIn 8 = .ok (.iconst 3, 1) := by decide +kernel
theorem dX1_takeIn_9 : decode cX1_takeIn 9 = .ok (.aload_n 1, 1) := by decide +kernel
theorem dX1_takeIn_10 : decode cX1_takeIn 10 = .ok (.getfield 142, 3) := by decide +kernel
theorem dX1_takeIn_13 : decode cX1_takeIn 13 = .ok (.iconst 0, 1) := by decide +kernel
theorem dX1_takeIn_14 : decode cX1_takeIn 14 = .ok (.invokevirtual 152, 3) := by decide +kernel
theorem dX1_takeIn_17 : decode cX1_takeIn 17 = .ok (.iconst (-1), 1) := by decide +kernel
theorem dX1_takeIn_18 : decode cX1_takeIn 18 = .ok (.ireturn, 1) := by decide +kernel
theorem dX1_takeIn_19 : decode cX1_takeIn 19 = .ok (.aload_n 0, 1) := by decide +kernel
theorem dX1_takeIn_20 : decode cX1_takeIn 20 = .ok (.getfield 63, 3) := by decide +kernel
theorem dX1_takeIn_23 : decode cX1_takeIn 23 = .ok (.getfield 166, 3) := by decide +kernel
theorem dX1_takeIn_26 : decode cX1_takeIn 26 = .ok (.aload_n 0, 1) := by decide +kernel
theorem dX1_takeIn_27 : decode cX1_takeIn 27 = .ok (.getfield 17, 3) := by decide +kernel
theorem dX1_takeIn_30 : decode cX1_takeIn 30 = .ok (.iconst 0, 1) := by decide +kernel
theorem dX1_takeIn_31 : decode cX1_takeIn 31 = .ok (.iaload, 1) := by decide +kernel
theorem dX1_takeIn_32 : decode cX1_takeIn 32 = .ok (.aload_n 1, 1) := by decide +kernel
theorem dX1_takeIn_33 : decode cX1_takeIn 33 = .ok (.getfield 171, 3) := by decide +kernel
theorem dX1_takeIn_36 : decode cX1_takeIn 36 = .ok (.iastore, 1) := by decide +kernel
theorem dX1_takeIn_37 : decode cX1_takeIn 37 = .ok (.iconst 1, 1) := by decide +kernel
theorem dX1_takeIn_38 : decode cX1_takeIn 38 = .ok (.istore_n 2, 1) := by decide +kernel
theorem dX1_takeIn_39 : decode cX1_takeIn 39 = .ok (.iload_n 2, 1) := by decide +kernel
theorem dX1_takeIn_40 : decode cX1_takeIn 40 = .ok (.aload_n 0, 1) := by decide +kernel
theorem dX1_takeIn_41 : decode cX1_takeIn 41 = .ok (.getfield 41, 3) := by decide +kernel
theorem dX1_takeIn_44 : decode cX1_takeIn 44 = .ok (.if_icmp .ge 23, 3) := by decide +kernel
theorem dX1_takeIn_47 : decode cX1_takeIn 47 = .ok (.aload_n 0, 1) := by decide +kernel
theorem dX1_takeIn_48 : decode cX1_takeIn 48 = .ok (.getfield 17, 3) := by decide +kernel
theorem dX1_takeIn_51 : decode cX1_takeIn 51 = .ok (.iload_n 2, 1) := by decide +kernel
theorem dX1_takeIn_52 : decode cX1_takeIn 52 = .ok (.iconst 1, 1) := by decide +kernel
theorem dX1_takeIn_53 : decode cX1_takeIn 53 = .ok (.isub, 1) := by decide +kernel
theorem dX1_takeIn_54 : decode cX1_takeIn 54 = .ok (.aload_n 0, 1) := by decide +kernel
theorem dX1_takeIn_55 : decode cX1_takeIn 55 = .ok (.getfield 17, 3) := by decide +kernel
theorem dX1_takeIn_58 : decode cX1_takeIn 58 = .ok (.iload_n 2, 1) := by decide +kernel
theorem dX1_takeIn_59 : decode cX1_takeIn 59 = .ok (.iaload, 1) := by decide +kernel
theorem dX1_takeIn_60 : decode cX1_takeIn 60 = .ok (.iastore, 1) := by decide +kernel
theorem dX1_takeIn_61 : decode cX1_takeIn 61 = .ok (.iinc 2 1, 3) := by decide +kernel
theorem dX1_takeIn_64 : decode cX1_takeIn 64 = .ok (.goto (-25), 3) := by decide +kernel
theorem dX1_takeIn_67 : decode cX1_takeIn 67 = .ok (.aload_n 0, 1) := by decide +kernel
theorem dX1_takeIn_68 : decode cX1_takeIn 68 = .ok (.dup, 1) := by decide +kernel
theorem dX1_takeIn_69 : decode cX1_takeIn 69 = .ok (.getfield 41, 3) := by decide +kernel
theorem dX1_takeIn_72 : decode cX1_takeIn 72 = .ok (.iconst 1, 1) := by decide +kernel
theorem dX1_takeIn_73 : decode cX1_takeIn 73 = .ok (.isub, 1) := by decide +kernel
theorem dX1_takeIn_74 : decode cX1_takeIn 74 = .ok (.putfield 41, 3) := by decide +kernel
theorem dX1_takeIn_77 : decode cX1_takeIn 77 = .ok (.aload_n 0, 1) := by decide +kernel
theorem dX1_takeIn_78 : decode cX1_takeIn 78 = .ok (.getfield 63, 3) := by decide +kernel
theorem dX1_takeIn_81 : decode cX1_takeIn 81 = .ok (.new 172, 3) := by decide +kernel
theorem dX1_takeIn_84 : decode cX1_takeIn 84 = .ok (.dup, 1) := by decide +kernel
theorem dX1_takeIn_85 : decode cX1_takeIn 85 = .ok (.aload_n 0, 1) := by decide +kernel
theorem dX1_takeIn_86 : decode cX1_takeIn 86 = .ok (.getfield 60, 3) := by decide +kernel
theorem dX1_takeIn_89 : decode cX1_takeIn 89 = .ok (.iconst 5, 1) := by decide +kernel
theorem dX1_takeIn_90 : decode cX1_takeIn 90 = .ok (.aload_n 1, 1) := by decide +kernel
theorem dX1_takeIn_91 : decode cX1_takeIn 91 = .ok (.getfield 142, 3) := by decide +kernel
theorem dX1_takeIn_94 : decode cX1_takeIn 94 = .ok (.iconst 0, 1) := by decide +kernel
theorem dX1_takeIn_95 : decode cX1_takeIn 95 = .ok (.aload_n 1, 1) := by decide +kernel
theorem dX1_takeIn_96 : decode cX1_takeIn 96 = .ok (.getfield 171, 3) := by decide +kernel
theorem dX1_takeIn_99 : decode cX1_takeIn 99 = .ok (.invokespecial 174, 3) := by decide +kernel
theorem dX1_takeIn_102 : decode cX1_takeIn 102 = .ok (.invokevirtual 177, 3) := by decide +kernel
theorem dX1_takeIn_105 : decode cX1_takeIn 105 = .ok (.iconst 0, 1) := by decide +kernel
theorem dX1_takeIn_106 : decode cX1_takeIn 106 = .ok (.ireturn, 1) := by decide +kernel
theorem dX1_reach_0 : decode cX1_reach 0 = .ok (.aload_n 0, 1) := by decide +kernel
theorem dX1_reach_1 : decode cX1_reach 1 = .ok (.aload_n 1, 1) := by decide +kernel
theorem dX1_reach_2 : decode cX1_reach 2 = .ok (.invokevirtual 181, 3) := by decide +kernel
theorem dX1_reach_5 : decode cX1_reach 5 = .ok (.istore_n 2, 1) := by decide +kernel
theorem dX1_reach_6 : decode cX1_reach 6 = .ok (.iload_n 2, 1) := by decide +kernel
theorem dX1_reach_7 : decode cX1_reach 7 = .ok (.ifCond .eq 19, 3) := by decide +kernel
theorem dX1_reach_10 : decode cX1_reach 10 = .ok (.aload_n 0, 1) := by decide +kernel
theorem dX1_reach_11 : decode cX1_reach 11 = .ok (.iconst 4, 1) := by decide +kernel
theorem dX1_reach_12 : decode cX1_reach 12 = .ok (.aload_n 1, 1) := by decide +kernel
theorem dX1_reach_13 : decode cX1_reach 13 = .ok (.getfield 142, 3) := by decide +kernel
theorem dX1_reach_16 : decode cX1_reach 16 = .ok (.iload_n 2, 1) := by decide +kernel
theorem dX1_reach_17 : decode cX1_reach 17 = .ok (.invokevirtual 152, 3) := by decide +kernel
theorem dX1_reach_20 : decode cX1_reach 20 = .ok (.aload_n 0, 1) := by decide +kernel
theorem dX1_reach_21 : decode cX1_reach 21 = .ok (.invokevirtual 184, 3) := by decide +kernel
theorem dX1_reach_24 : decode cX1_reach 24 = .ok (.iconst (-1), 1) := by decide +kernel
theorem dX1_reach_25 : decode cX1_reach 25 = .ok (.ireturn, 1) := by decide +kernel
theorem dX1_reach_26 : decode cX1_reach 26 = .ok (.aload_n 0, 1) := by decide +kernel
theorem dX1_reach_27 : decode cX1_reach 27 = .ok (.getfield 63, 3) := by decide +kernel
theorem dX1_reach_30 : decode cX1_reach 30 = .ok (.getfield 187, 3) := by decide +kernel
theorem dX1_reach_33 : decode cX1_reach 33 = .ok (.aload_n 1, 1) := by decide +kernel
theorem dX1_reach_34 : decode cX1_reach 34 = .ok (.getfield 191, 3) := by decide +kernel
theorem dX1_reach_37 : decode cX1_reach 37 = .ok (.aaload, 1) := by decide +kernel
theorem dX1_reach_38 : decode cX1_reach 38 = .ok (.getfield 192, 3) := by decide +kernel
theorem dX1_reach_41 : decode cX1_reach 41 = .ok (.aload_n 1, 1) := by decide +kernel
theorem dX1_reach_42 : decode cX1_reach 42 = .ok (.getfield 197, 3) := by decide +kernel
theorem dX1_reach_45 : decode cX1_reach 45 = .ok (.iadd, 1) := by decide +kernel
theorem dX1_reach_46 : decode cX1_reach 46 = .ok (.istore_n 3, 1) := by decide +kernel
theorem dX1_reach_47 : decode cX1_reach 47 = .ok (.aload_n 0, 1) := by decide +kernel
theorem dX1_reach_48 : decode cX1_reach 48 = .ok (.getfield 63, 3) := by decide +kernel
theorem dX1_reach_51 : decode cX1_reach 51 = .ok (.getfield 166, 3) := by decide +kernel
theorem dX1_reach_54 : decode cX1_reach 54 = .ok (.iload_n 3, 1) := by decide +kernel
theorem dX1_reach_55 : decode cX1_reach 55 = .ok (.iaload, 1) := by decide +kernel
theorem dX1_reach_56 : decode cX1_reach 56 = .ok (.istore 4, 2) := by decide +kernel
theorem dX1_reach_58 : decode cX1_reach 58 = .ok (.aload_n 1, 1) := by decide +kernel
theorem dX1_reach_59 : decode cX1_reach 59 = .ok (.getfield 155, 3) := by decide +kernel
theorem dX1_reach_62 : decode cX1_reach 62 = .ok (.iconst 2, 1) := by decide +kernel
theorem dX1_reach_63 : decode cX1_reach 63 = .ok (.if_icmp .ne 6, 3) := by decide +kernel
theorem dX1_reach_66 : decode cX1_reach 66 = .ok (.iload 4, 2) := by decide +kernel
theorem dX1_reach_68 : decode cX1_reach 68 = .ok (.ireturn, 1) := by decide +kernel
theorem dX1_reach_69 : decode cX1_reach 69 = .ok (.aload_n 1, 1) := by decide +kernel
theorem dX1_reach_70 : decode cX1_reach 70 = .ok (.getfield 155, 3) := by decide +kernel
theorem dX1_reach_73 : decode cX1_reach 73 = .ok (.iconst 1, 1) := by decide +kernel
theorem dX1_reach_74 : decode cX1_reach 74 = .ok (.if_icmp .ne 18, 3) := by decide +kernel
theorem dX1_reach_77 : decode cX1_reach 77 = .ok (.aload_n 0, 1) := by decide +kernel
theorem dX1_reach_78 : decode cX1_reach 78 = .ok (.getfield 63, 3) := by decide +kernel
theorem dX1_reach_81 : decode cX1_reach 81 = .ok (.getfield 166, 3) := by decide +kernel
theorem dX1_reach_84 : decode cX1_reach 84 = .ok (.iload_n 3, 1) := by decide +kernel
theorem dX1_reach_85 : decode cX1_reach 85 = .ok (.aload_n 1, 1) := by decide +kernel
theorem dX1_reach_86 : decode cX1_reach 86 = .ok (.getfield 171, 3) := by decide +kernel
theorem dX1_reach_89 : decode cX1_reach 89 = .ok (.iastore, 1) := by decide +kernel
theorem dX1_reach_90 : decode cX1_reach 90 = .ok (.iconst 0, 1) := by decide +kernel
theorem dX1_reach_91 : decode cX1_reach 91 = .ok (.ireturn, 1) := by decide +kernel
theorem dX1_reach_92 : decode cX1_reach 92 = .ok (.aload_n 1, 1) := by decide +kernel
theorem dX1_reach_93 : decode cX1_reach 93 = .ok (.getfield 155, 3) := by decide +kernel
theorem dX1_reach_96 : decode cX1_reach 96 = .ok (.iconst 3, 1) := by decide +kernel
theorem dX1_reach_97 : decode cX1_reach 97 = .ok (.if_icmp .ne 26, 3) := by decide +kernel
theorem dX1_reach_100 : decode cX1_reach 100 = .ok (.aload_n 0, 1) := by decide +kernel
theorem dX1_reach_101 : decode cX1_reach 101 = .ok (.getfield 63, 3) := by decide +kernel
theorem dX1_reach_104 : decode cX1_reach 104 = .ok (.getfield 166, 3) := by decide +kernel
theorem dX1_reach_107 : decode cX1_reach 107 = .ok (.iload_n 3, 1) := by decide +kernel
theorem dX1_reach_108 : decode cX1_reach 108 = .ok (.iload 4, 2) := by decide +kernel
theorem dX1_reach_110 : decode cX1_reach 110 = .ok (.aload_n 1, 1) := by decide +kernel
theorem dX1_reach_111 : decode cX1_reach 111 = .ok (.getfield 171, 3) := by decide +kernel
theorem dX1_reach_114 : decode cX1_reach 114 = .ok (.iadd, 1) := by decide +kernel
theorem dX1_reach_115 : decode cX1_reach 115 = .ok (.sipush 10000, 3) := by decide +kernel
theorem dX1_reach_118 : decode cX1_reach 118 = .ok (.irem, 1) := by decide +kernel
theorem dX1_reach_119 : decode cX1_reach 119 = .ok (.iastore, 1) := by decide +kernel
theorem dX1_reach_120 : decode cX1_reach 120 = .ok (.goto 25, 3) := by decide +kernel
theorem dX1_reach_123 : decode cX1_reach 123 = .ok (.iload 4, 2) := by decide +kernel
theorem dX1_reach_125 : decode cX1_reach 125 = .ok (.aload_n 1, 1) := by decide +kernel
theorem dX1_reach_126 : decode cX1_reach 126 = .ok (.getfield 171, 3) := by decide +kernel
theorem dX1_reach_129 : decode cX1_reach 129 = .ok (.if_icmp .ne 16, 3) := by decide +kernel
theorem dX1_reach_132 : decode cX1_reach 132 = .ok (.aload_n 0, 1) := by decide +kernel
theorem dX1_reach_133 : decode cX1_reach 133 = .ok (.getfield 63, 3) := by decide +kernel
theorem dX1_reach_136 : decode cX1_reach 136 = .ok (.getfield 166, 3) := by decide +kernel
theorem dX1_reach_139 : decode cX1_reach 139 = .ok (.iload_n 3, 1) := by decide +kernel
theorem dX1_reach_140 : decode cX1_reach 140 = .ok (.aload_n 1, 1) := by decide +kernel
theorem dX1_reach_141 : decode cX1_reach 141 = .ok (.getfield 198, 3) := by decide +kernel
theorem dX1_reach_144 : decode cX1_reach 144 = .ok (.iastore, 1) := by decide +kernel
theorem dX1_reach_145 : decode cX1_reach 145 = .ok (.aload_n 0, 1) := by decide +kernel
theorem dX1_reach_146 : decode cX1_reach 146 = .ok (.getfield 24, 3) := by decide +kernel
theorem dX1_reach_149 : decode cX1_reach 149 = .ok (.aload_n 1, 1) := by decide +kernel
theorem dX1_reach_150 : decode cX1_reach 150 = .ok (.getfield 142, 3) := by decide +kernel
theorem dX1_reach_153 : decode cX1_reach 153 = .ok (.iload 4, 2) := by decide +kernel
theorem dX1_reach_155 : decode cX1_reach 155 = .ok (.invokevirtual 199, 3) := by decide +kernel
theorem dX1_reach_158 : decode cX1_reach 158 = .ok (.aload_n 0, 1) := by decide +kernel
theorem dX1_reach_159 : decode cX1_reach 159 = .ok (.getfield 63, 3) := by decide +kernel
theorem dX1_reach_162 : decode cX1_reach 162 = .ok (.dup, 1) := by decide +kernel
theorem dX1_reach_163 : decode cX1_reach 163 = .ok (.getfield 202, 3) := by decide +kernel
theorem dX1_reach_166 : decode cX1_reach 166 = .ok (.iconst 1, 1) := by decide +kernel
theorem dX1_reach_167 : decode cX1_reach 167 = .ok (.iadd, 1) := by decide +kernel
theorem dX1_reach_168 : decode cX1_reach 168 = .ok (.putfield 202, 3) := by decide +kernel
theorem dX1_reach_171 : decode cX1_reach 171 = .ok (.iload 4, 2) := by decide +kernel
theorem dX1_reach_173 : decode cX1_reach 173 = .ok (.ireturn, 1) := by decide +kernel
theorem dX1_reasonAgainst_0 : decode cX1_reasonAgainst 0 = .ok (.aload_n 0, 1) := by decide +kernel
theorem dX1_reasonAgainst_1 : decode cX1_reasonAgainst 1 = .ok (.getfield 63, 3) := by decide +kernel
theorem dX1_reasonAgainst_4 : decode cX1_reasonAgainst 4 = .ok (.getfield 187, 3) := by decide +kernel
theorem dX1_reasonAgainst_7 : decode cX1_reasonAgainst 7 = .ok (.aload_n 1, 1) := by decide +kernel
theorem dX1_reasonAgainst_8 : decode cX1_reasonAgainst 8 = .ok (.getfield 191, 3) := by decide +kernel
theorem dX1_reasonAgainst_11 : decode cX1_reasonAgainst 11 = .ok (.aaload, 1) := by decide +kernel
theorem dX1_reasonAgainst_12 : decode cX1_reasonAgainst 12 = .ok (.astore_n 2, 1) := by decide +kernel
theorem dX1_reasonAgainst_13 : decode cX1_reasonAgainst 13 = .ok (.aload_n 2, 1) := by decide +kernel
theorem dX1_reasonAgainst_14 : decode cX1_reasonAgainst 14 = .ok (.getfield 205, 3) := by decide +kernel
theorem dX1_reasonAgainst_17 : decode cX1_reasonAgainst 17 = .ok (.ifCond .ne 5, 3) := by decide +kernel
theorem dX1_reasonAgainst_20 : decode cX1_reasonAgainst 20 = .ok (.iconst 1, 1) := by decide +kernel
theorem dX1_reasonAgainst_21 : decode cX1_reasonAgainst 21 = .ok (.ireturn, 1) := by decide +kernel
theorem dX1_reasonAgainst_22 : decode cX1_reasonAgainst 22 = .ok (.aload_n 1, 1) := by decide +kernel
theorem dX1_reasonAgainst_23 : decode cX1_reasonAgainst 23 = .ok (.getfield 197, 3) := by decide +kernel
theorem dX1_reasonAgainst_26 : decode cX1_reasonAgainst 26 = .ok (.aload_n 2, 1) := by decide +kernel
theorem dX1_reasonAgainst_27 : decode cX1_reasonAgainst 27 = .ok (.getfield 208, 3) := by decide +kernel
theorem dX1_reasonAgainst_30 : decode cX1_reasonAgainst 30 = .ok (.if_icmp .lt 5, 3) := by decide +kernel
theorem dX1_reasonAgainst_33 : decode cX1_reasonAgainst 33 = .ok (.iconst 2, 1) := by decide +kernel
theorem dX1_reasonAgainst_34 : decode cX1_reasonAgainst 34 = .ok (.ireturn, 1) := by decide +kernel
theorem dX1_reasonAgainst_35 : decode cX1_reasonAgainst 35 = .ok (.aload_n 2, 1) := by decide +kernel
theorem dX1_reasonAgainst_36 : decode cX1_reasonAgainst 36 = .ok (.getfield 211, 3) := by decide +kernel
theorem dX1_reasonAgainst_39 : decode cX1_reasonAgainst 39 = .ok (.aload_n 1, 1) := by decide +kernel
theorem dX1_reasonAgainst_40 : decode cX1_reasonAgainst 40 = .ok (.getfield 155, 3) := by decide +kernel
theorem dX1_reasonAgainst_43 : decode cX1_reasonAgainst 43 = .ok (.invokestatic 214, 3) := by decide +kernel
theorem dX1_reasonAgainst_46 : decode cX1_reasonAgainst 46 = .ok (.iand, 1) := by decide +kernel
theorem dX1_reasonAgainst_47 : decode cX1_reasonAgainst 47 = .ok (.ifCond .ne 7, 3) := by decide +kernel
theorem dX1_reasonAgainst_50 : decode cX1_reasonAgainst 50 = .ok (.iconst 3, 1) := by decide +kernel
theorem dX1_reasonAgainst_51 : decode cX1_reasonAgainst 51 = .ok (.goto 4, 3) := by decide +kernel
theorem dX1_reasonAgainst_54 : decode cX1_reasonAgainst 54 = .ok (.iconst 0, 1) := by decide +kernel
theorem dX1_reasonAgainst_55 : decode cX1_reasonAgainst 55 = .ok (.ireturn, 1) := by decide +kernel
theorem dX1_rightFor_0 : decode cX1_rightFor 0 = .ok (.iload_n 0, 1) := by decide +kernel
theorem dX1_rightFor_1 : decode cX1_rightFor 1 = .ok (.iconst 2, 1) := by decide +kernel
theorem dX1_rightFor_2 : decode cX1_rightFor 2 = .ok (.if_icmp .ne 5, 3) := by decide +kernel
theorem dX1_rightFor_5 : decode cX1_rightFor 5 = .ok (.iconst 1, 1) := by decide +kernel
theorem dX1_rightFor_6 : decode cX1_rightFor 6 = .ok (.ireturn, 1) := by decide +kernel
theorem dX1_rightFor_7 : decode cX1_rightFor 7 = .ok (.iload_n 0, 1) := by decide +kernel
theorem dX1_rightFor_8 : decode cX1_rightFor 8 = .ok (.iconst 1, 1) := by decide +kernel
theorem dX1_rightFor_9 : decode cX1_rightFor 9 = .ok (.if_icmp .ne 7, 3) := by decide +kernel
theorem dX1_rightFor_12 : decode cX1_rightFor 12 = .ok (.iconst 2, 1) := by decide +kernel
theorem dX1_rightFor_13 : decode cX1_rightFor 13 = .ok (.goto 4, 3) := by decide +kernel
theorem dX1_rightFor_16 : decode cX1_rightFor 16 = .ok (.iconst 4, 1) := by decide +kernel
theorem dX1_rightFor_17 : decode cX1_rightFor 17 = .ok (.ireturn, 1) := by decide +kernel
theorem dX1_meetAnswer_0 : decode cX1_meetAnswer 0 = .ok (.aload_n 0, 1) := by decide +kernel
theorem dX1_meetAnswer_1 : decode cX1_meetAnswer 1 = .ok (.aload_n 1, 1) := by decide +kernel
theorem dX1_meetAnswer_2 : decode cX1_meetAnswer 2 = .ok (.invokevirtual 217, 3) := by decide +kernel
theorem dX1_meetAnswer_5 : decode cX1_meetAnswer 5 = .ok (.ifCond .ne 4, 3) := by decide +kernel
theorem dX1_meetAnswer_8 : decode cX1_meetAnswer 8 = .ok (.return_, 1) := by decide +kernel
theorem dX1_meetAnswer_9 : decode cX1_meetAnswer 9 = .ok (.aload_n 0, 1) := by decide +kernel
theorem dX1_meetAnswer_10 : decode cX1_meetAnswer 10 = .ok (.aload_n 1, 1) := by decide +kernel
theorem dX1_meetAnswer_11 : decode cX1_meetAnswer 11 = .ok (.getfield 142, 3) := by decide +kernel
theorem dX1_meetAnswer_14 : decode cX1_meetAnswer 14 = .ok (.invokevirtual 221, 3) := by decide +kernel
theorem dX1_meetAnswer_17 : decode cX1_meetAnswer 17 = .ok (.ifCond .ne 8, 3) := by decide +kernel
theorem dX1_meetAnswer_20 : decode cX1_meetAnswer 20 = .ok (.aload_n 0, 1) := by decide +kernel
theorem dX1_meetAnswer_21 : decode cX1_meetAnswer 21 = .ok (.invokevirtual 224, 3) := by decide +kernel
theorem dX1_meetAnswer_24 : decode cX1_meetAnswer 24 = .ok (.return_, 1) := by decide +kernel
theorem dX1_meetAnswer_25 : decode cX1_meetAnswer 25 = .ok (.aload_n 1, 1) := by decide +kernel
theorem dX1_meetAnswer_26 : decode cX1_meetAnswer 26 = .ok (.getfield 135, 3) := by decide +kernel
theorem dX1_meetAnswer_29 : decode cX1_meetAnswer 29 = .ok (.tableswitch 72 1 4 #[31, 42, 49, 56], 31) := by decide +kernel
theorem dX1_meetAnswer_60 : decode cX1_meetAnswer 60 = .ok (.aload_n 0, 1) := by decide +kernel
theorem dX1_meetAnswer_61 : decode cX1_meetAnswer 61 = .ok (.aload_n 1, 1) := by decide +kernel
theorem dX1_meetAnswer_62 : decode cX1_meetAnswer 62 = .ok (.getfield 227, 3) := by decide +kernel
theorem dX1_meetAnswer_65 : decode cX1_meetAnswer 65 = .ok (.invokevirtual 230, 3) := by decide +kernel
theorem dX1_meetAnswer_68 : decode cX1_meetAnswer 68 = .ok (.goto 33, 3) := by decide +kernel
theorem dX1_meetAnswer_71 : decode cX1_meetAnswer 71 = .ok (.aload_n 0, 1) := by decide +kernel
theorem dX1_meetAnswer_72 : decode cX1_meetAnswer 72 = .ok (.invokevirtual 224, 3) := by decide +kernel
theorem dX1_meetAnswer_75 : decode cX1_meetAnswer 75 = .ok (.goto 26, 3) := by decide +kernel
theorem dX1_meetAnswer_78 : decode cX1_meetAnswer 78 = .ok (.aload_n 0, 1) := by decide +kernel
theorem dX1_meetAnswer_79 : decode cX1_meetAnswer 79 = .ok (.invokevirtual 233, 3) := by decide +kernel
theorem dX1_meetAnswer_82 : decode cX1_meetAnswer 82 = .ok (.goto 19, 3) := by decide +kernel
theorem dX1_meetAnswer_85 : decode cX1_meetAnswer 85 = .ok (.aload_n 0, 1) := by decide +kernel
theorem dX1_meetAnswer_86 : decode cX1_meetAnswer 86 = .ok (.iconst 1, 1) := by decide +kernel
theorem dX1_meetAnswer_87 : decode cX1_meetAnswer 87 = .ok (.aload_n 1, 1) := by decide +kernel
theorem dX1_meetAnswer_88 : decode cX1_meetAnswer 88 = .ok (.getfield 227, 3) := by decide +kernel
theorem dX1_meetAnswer_91 : decode cX1_meetAnswer 91 = .ok (.invokevirtual 236, 3) := by decide +kernel
theorem dX1_meetAnswer_94 : decode cX1_meetAnswer 94 = .ok (.aload_n 0, 1) := by decide +kernel
theorem dX1_meetAnswer_95 : decode cX1_meetAnswer 95 = .ok (.invokevirtual 184, 3) := by decide +kernel
theorem dX1_meetAnswer_98 : decode cX1_meetAnswer 98 = .ok (.goto 3, 3) := by decide +kernel
theorem dX1_meetAnswer_101 : decode cX1_meetAnswer 101 = .ok (.return_, 1) := by decide +kernel
theorem dX1_isAwaited_0 : decode cX1_isAwaited 0 = .ok (.aload_n 1, 1) := by decide +kernel
theorem dX1_isAwaited_1 : decode cX1_isAwaited 1 = .ok (.getfield 135, 3) := by decide +kernel
theorem dX1_isAwaited_4 : decode cX1_isAwaited 4 = .ok (.iconst 2, 1) := by decide +kernel
theorem dX1_isAwaited_5 : decode cX1_isAwaited 5 = .ok (.if_icmp .ne 32, 3) := by decide +kernel
theorem dX1_isAwaited_8 : decode cX1_isAwaited 8 = .ok (.aload_n 0, 1) := by decide +kernel
theorem dX1_isAwaited_9 : decode cX1_isAwaited 9 = .ok (.getfield 35, 3) := by decide +kernel
theorem dX1_isAwaited_12 : decode cX1_isAwaited 12 = .ok (.ifCond .le 23, 3) := by decide +kernel
theorem dX1_isAwaited_15 : decode cX1_isAwaited 15 = .ok (.aload_n 1, 1) := by decide +kernel
theorem dX1_isAwaited_16 : decode cX1_isAwaited 16 = .ok (.getfield 142, 3) := by decide +kernel
theorem dX1_isAwaited_19 : decode cX1_isAwaited 19 = .ok (.aload_n 0, 1) := by decide +kernel
theorem dX1_isAwaited_20 : decode cX1_isAwaited 20 = .ok (.getfield 11, 3) := by decide +kernel
theorem dX1_isAwaited_23 : decode cX1_isAwaited 23 = .ok (.iconst 0, 1) := by decide +kernel
theorem dX1_isAwaited_24 : decode cX1_isAwaited 24 = .ok (.aaload, 1) := by decide +kernel
theorem dX1_isAwaited_25 : decode cX1_isAwaited 25 = .ok (.getfield 91, 3) := by decide +kernel
theorem dX1_isAwaited_28 : decode cX1_isAwaited 28 = .ok (.if_icmp .lt 7, 3) := by decide +kernel
theorem dX1_isAwaited_31 : decode cX1_isAwaited 31 = .ok (.iconst 1, 1) := by decide +kernel
theorem dX1_isAwaited_32 : decode cX1_isAwaited 32 = .ok (.goto 4, 3) := by decide +kernel
theorem dX1_isAwaited_35 : decode cX1_isAwaited 35 = .ok (.iconst 0, 1) := by decide +kernel
theorem dX1_isAwaited_36 : decode cX1_isAwaited 36 = .ok (.ireturn, 1) := by decide +kernel
theorem dX1_isAwaited_37 : decode cX1_isAwaited 37 = .ok (.iconst 0, 1) := by decide +kernel
theorem dX1_isAwaited_38 : decode cX1_isAwaited 38 = .ok (.istore_n 2, 1) := by decide +kernel
theorem dX1_isAwaited_39 : decode cX1_isAwaited 39 = .ok (.iload_n 2, 1) := by decide +kernel
theorem dX1_isAwaited_40 : decode cX1_isAwaited 40 = .ok (.aload_n 0, 1) := by decide +kernel
theorem dX1_isAwaited_41 : decode cX1_isAwaited 41 = .ok (.getfield 35, 3) := by decide +kernel
theorem dX1_isAwaited_44 : decode cX1_isAwaited 44 = .ok (.if_icmp .ge 27, 3) := by decide +kernel
theorem dX1_isAwaited_47 : decode cX1_isAwaited 47 = .ok (.aload_n 0, 1) := by decide +kernel
theorem dX1_isAwaited_48 : decode cX1_isAwaited 48 = .ok (.getfield 11, 3) := by decide +kernel
theorem dX1_isAwaited_51 : decode cX1_isAwaited 51 = .ok (.iload_n 2, 1) := by decide +kernel
theorem dX1_isAwaited_52 : decode cX1_isAwaited 52 = .ok (.aaload, 1) := by decide +kernel
theorem dX1_isAwaited_53 : decode cX1_isAwaited 53 = .ok (.getfield 91, 3) := by decide +kernel
theorem dX1_isAwaited_56 : decode cX1_isAwaited 56 = .ok (.aload_n 1, 1) := by decide +kernel
theorem dX1_isAwaited_57 : decode cX1_isAwaited 57 = .ok (.getfield 142, 3) := by decide +kernel
theorem dX1_isAwaited_60 : decode cX1_isAwaited 60 = .ok (.if_icmp .ne 5, 3) := by decide +kernel
theorem dX1_isAwaited_63 : decode cX1_isAwaited 63 = .ok (.iconst 1, 1) := by decide +kernel
theorem dX1_isAwaited_64 : decode cX1_isAwaited 64 = .ok (.ireturn, 1) := by decide +kernel
theorem dX1_isAwaited_65 : decode cX1_isAwaited 65 = .ok (.iinc 2 1, 3) := by decide +kernel
theorem dX1_isAwaited_68 : decode cX1_isAwaited 68 = .ok (.goto (-29), 3) := by decide +kernel
theorem dX1_isAwaited_71 : decode cX1_isAwaited 71 = .ok (.iconst 0, 1) := by decide +kernel
theorem dX1_isAwaited_72 : decode cX1_isAwaited 72 = .ok (.ireturn, 1) := by decide +kernel
theorem dX1_finishBelow_0 : decode cX1_finishBelow 0 = .ok (.iconst 0, 1) := by decide +kernel
theorem dX1_finishBelow_1 : decode cX1_finishBelow 1 = .ok (.istore_n 2, 1) := by decide +kernel
theorem dX1_finishBelow_2 : decode cX1_finishBelow 2 = .ok (.iload_n 2, 1) := by decide +kernel
theorem dX1_finishBelow_3 : decode cX1_finishBelow 3 = .ok (.iconst 4, 1) := by decide +kernel
theorem dX1_finishBelow_4 : decode cX1_finishBelow 4 = .ok (.if_icmp .ge 52, 3) := by decide +kernel
theorem dX1_finishBelow_7 : decode cX1_finishBelow 7 = .ok (.aload_n 0, 1) := by decide +kernel
theorem dX1_finishBelow_8 : decode cX1_finishBelow 8 = .ok (.getfield 35, 3) := by decide +kernel
theorem dX1_finishBelow_11 : decode cX1_finishBelow 11 = .ok (.ifCond .le 45, 3) := by decide +kernel
theorem dX1_finishBelow_14 : decode cX1_finishBelow 14 = .ok (.aload_n 0, 1) := by decide +kernel
theorem dX1_finishBelow_15 : decode cX1_finishBelow 15 = .ok (.getfield 11, 3) := by decide +kernel
theorem dX1_finishBelow_18 : decode cX1_finishBelow 18 = .ok (.iconst 0, 1) := by decide +kernel
theorem dX1_finishBelow_19 : decode cX1_finishBelow 19 = .ok (.aaload, 1) := by decide +kernel
theorem dX1_finishBelow_20 : decode cX1_finishBelow 20 = .ok (.getfield 91, 3) := by decide +kernel
theorem dX1_finishBelow_23 : decode cX1_finishBelow 23 = .ok (.iload_n 1, 1) := by decide +kernel
theorem dX1_finishBelow_24 : decode cX1_finishBelow 24 = .ok (.if_icmp .ge 32, 3) := by decide +kernel
theorem dX1_finishBelow_27 : decode cX1_finishBelow 27 = .ok (.aload_n 0, 1) := by decide +kernel
theorem dX1_finishBelow_28 : decode cX1_finishBelow 28 = .ok (.getfield 11, 3) := by decide +kernel
theorem dX1_finishBelow_31 : decode cX1_finishBelow 31 = .ok (.iconst 0, 1) := by decide +kernel
theorem dX1_finishBelow_32 : decode cX1_finishBelow 32 = .ok (.aaload, 1) := by decide +kernel
theorem dX1_finishBelow_33 : decode cX1_finishBelow 33 = .ok (.getfield 94, 3) := by decide +kernel
theorem dX1_finishBelow_36 : decode cX1_finishBelow 36 = .ok (.invokestatic 83, 3) := by decide +kernel
theorem dX1_finishBelow_39 : decode cX1_finishBelow 39 = .ok (.ifCond .eq 5, 3) := by decide +kernel
theorem dX1_finishBelow_42 : decode cX1_finishBelow 42 = .ok (.iconst 0, 1) := by decide +kernel
theorem dX1_finishBelow_43 : decode cX1_finishBelow 43 = .ok (.ireturn, 1) := by decide +kernel
theorem dX1_finishBelow_44 : decode cX1_finishBelow 44 = .ok (.aload_n 0, 1) := by decide +kernel
theorem dX1_finishBelow_45 : decode cX1_finishBelow 45 = .ok (.iconst 0, 1) := by decide +kernel
theorem dX1_finishBelow_46 : decode cX1_finishBelow 46 = .ok (.iconst 0, 1) := by decide +kernel
theorem dX1_finishBelow_47 : decode cX1_finishBelow 47 = .ok (.invokevirtual 236, 3) := by decide +kernel
theorem dX1_finishBelow_50 : decode cX1_finishBelow 50 = .ok (.iinc 2 1, 3) := by decide +kernel
theorem dX1_finishBelow_53 : decode cX1_finishBelow 53 = .ok (.goto (-51), 3) := by decide +kernel
theorem dX1_finishBelow_56 : decode cX1_finishBelow 56 = .ok (.iconst 1, 1) := by decide +kernel
theorem dX1_finishBelow_57 : decode cX1_finishBelow 57 = .ok (.ireturn, 1) := by decide +kernel
theorem dX1_bringHome_0 : decode cX1_bringHome 0 = .ok (.aload_n 0, 1) := by decide +kernel
theorem dX1_bringHome_1 : decode cX1_bringHome 1 = .ok (.getfield 11, 3) := by decide +kernel
theorem dX1_bringHome_4 : decode cX1_bringHome 4 = .ok (.iconst 0, 1) := by decide +kernel
theorem dX1_bringHome_5 : decode cX1_bringHome 5 = .ok (.aaload, 1) := by decide +kernel
theorem dX1_bringHome_6 : decode cX1_bringHome 6 = .ok (.getfield 94, 3) := by decide +kernel
theorem dX1_bringHome_9 : decode cX1_bringHome 9 = .ok (.invokestatic 83, 3) := by decide +kernel
theorem dX1_bringHome_12 : decode cX1_bringHome 12 = .ok (.ifCond .eq 21, 3) := by decide +kernel
theorem dX1_bringHome_15 : decode cX1_bringHome 15 = .ok (.aload_n 0, 1) := by decide +kernel
theorem dX1_bringHome_16 : decode cX1_bringHome 16 = .ok (.getfield 63, 3) := by decide +kernel
theorem dX1_bringHome_19 : decode cX1_bringHome 19 = .ok (.getfield 166, 3) := by decide +kernel
theorem dX1_bringHome_22 : decode cX1_bringHome 22 = .ok (.aload_n 0, 1) := by decide +kernel
theorem dX1_bringHome_23 : decode cX1_bringHome 23 = .ok (.getfield 11, 3) := by decide +kernel
theorem dX1_bringHome_26 : decode cX1_bringHome 26 = .ok (.iconst 0, 1) := by decide +kernel
theorem dX1_bringHome_27 : decode cX1_bringHome 27 = .ok (.aaload, 1) := by decide +kernel
theorem dX1_bringHome_28 : decode cX1_bringHome 28 = .ok (.getfield 109, 3) := by decide +kernel
theorem dX1_bringHome_31 : decode cX1_bringHome 31 = .ok (.iload_n 1, 1) := by decide +kernel
theorem dX1_bringHome_32 : decode cX1_bringHome 32 = .ok (.iastore, 1) := by decide +kernel
theorem dX1_bringHome_33 : decode cX1_bringHome 33 = .ok (.aload_n 0, 1) := by decide +kernel
theorem dX1_bringHome_34 : decode cX1_bringHome 34 = .ok (.iconst 0, 1) := by decide +kernel
theorem dX1_bringHome_35 : decode cX1_bringHome 35 = .ok (.iload_n 1, 1) := by decide +kernel
theorem dX1_bringHome_36 : decode cX1_bringHome 36 = .ok (.invokevirtual 236, 3) := by decide +kernel
theorem dX1_bringHome_39 : decode cX1_bringHome 39 = .ok (.return_, 1) := by decide +kernel
theorem dX1_bearBusy_0 : decode cX1_bearBusy 0 = .ok (.aload_n 0, 1) := by decide +kernel
theorem dX1_bearBusy_1 : decode cX1_bearBusy 1 = .ok (.dup, 1) := by decide +kernel
theorem dX1_bearBusy_2 : decode cX1_bearBusy 2 = .ok (.getfield 47, 3) := by decide +kernel
theorem dX1_bearBusy_5 : decode cX1_bearBusy 5 = .ok (.iconst 1, 1) := by decide +kernel
theorem dX1_bearBusy_6 : decode cX1_bearBusy 6 = .ok (.iadd, 1) := by decide +kernel
theorem dX1_bearBusy_7 : decode cX1_bearBusy 7 = .ok (.putfield 47, 3) := by decide +kernel
theorem dX1_bearBusy_10 : decode cX1_bearBusy 10 = .ok (.aload_n 0, 1) := by decide +kernel
theorem dX1_bearBusy_11 : decode cX1_bearBusy 11 = .ok (.getfield 47, 3) := by decide +kernel
theorem dX1_bearBusy_14 : decode cX1_bearBusy 14 = .ok (.iconst 4, 1) := by decide +kernel
theorem dX1_bearBusy_15 : decode cX1_bearBusy 15 = .ok (.if_icmp .lt 13, 3) := by decide +kernel
theorem dX1_bearBusy_18 : decode cX1_bearBusy 18 = .ok (.aload_n 0, 1) := by decide +kernel
theorem dX1_bearBusy_19 : decode cX1_bearBusy 19 = .ok (.iconst 4, 1) := by decide +kernel
theorem dX1_bearBusy_20 : decode cX1_bearBusy 20 = .ok (.iconst 0, 1) := by decide +kernel
theorem dX1_bearBusy_21 : decode cX1_bearBusy 21 = .ok (.invokevirtual 236, 3) := by decide +kernel
theorem dX1_bearBusy_24 : decode cX1_bearBusy 24 = .ok (.aload_n 0, 1) := by decide +kernel
theorem dX1_bearBusy_25 : decode cX1_bearBusy 25 = .ok (.invokevirtual 184, 3) := by decide +kernel
theorem dX1_bearBusy_28 : decode cX1_bearBusy 28 = .ok (.return_, 1) := by decide +kernel
theorem dX1_tryAgain_0 : decode cX1_tryAgain 0 = .ok (.aload_n 0, 1) := by decide +kernel
theorem dX1_tryAgain_1 : decode cX1_tryAgain 1 = .ok (.getfield 35, 3) := by decide +kernel
theorem dX1_tryAgain_4 : decode cX1_tryAgain 4 = .ok (.ifCond .ne 4, 3) := by decide +kernel
theorem dX1_tryAgain_7 : decode cX1_tryAgain 7 = .ok (.return_, 1) := by decide +kernel
theorem dX1_tryAgain_8 : decode cX1_tryAgain 8 = .ok (.aload_n 0, 1) := by decide +kernel
theorem dX1_tryAgain_9 : decode cX1_tryAgain 9 = .ok (.dup, 1) := by decide +kernel
theorem dX1_tryAgain_10 : decode cX1_tryAgain 10 = .ok (.getfield 44, 3) := by decide +kernel
theorem dX1_tryAgain_13 : decode cX1_tryAgain 13 = .ok (.iconst 1, 1) := by decide +kernel
theorem dX1_tryAgain_14 : decode cX1_tryAgain 14 = .ok (.iadd, 1) := by decide +kernel
theorem dX1_tryAgain_15 : decode cX1_tryAgain 15 = .ok (.putfield 44, 3) := by decide +kernel
theorem dX1_tryAgain_18 : decode cX1_tryAgain 18 = .ok (.aload_n 0, 1) := by decide +kernel
theorem dX1_tryAgain_19 : decode cX1_tryAgain 19 = .ok (.getfield 44, 3) := by decide +kernel
theorem dX1_tryAgain_22 : decode cX1_tryAgain 22 = .ok (.iconst 4, 1) := by decide +kernel
theorem dX1_tryAgain_23 : decode cX1_tryAgain 23 = .ok (.if_icmp .lt 14, 3) := by decide +kernel
theorem dX1_tryAgain_26 : decode cX1_tryAgain 26 = .ok (.aload_n 0, 1) := by decide +kernel
theorem dX1_tryAgain_27 : decode cX1_tryAgain 27 = .ok (.iconst 3, 1) := by decide +kernel
theorem dX1_tryAgain_28 : decode cX1_tryAgain 28 = .ok (.iconst 0, 1) := by decide +kernel
theorem dX1_tryAgain_29 : decode cX1_tryAgain 29 = .ok (.invokevirtual 236, 3) := by decide +kernel
theorem dX1_tryAgain_32 : decode cX1_tryAgain 32 = .ok (.aload_n 0, 1) := by decide +kernel
theorem dX1_tryAgain_33 : decode cX1_tryAgain 33 = .ok (.invokevirtual 184, 3) := by decide +kernel
theorem dX1_tryAgain_36 : decode cX1_tryAgain 36 = .ok (.return_, 1) := by decide +kernel
theorem dX1_tryAgain_37 : decode cX1_tryAgain 37 = .ok (.iconst 0, 1) := by decide +kernel
theorem dX1_tryAgain_38 : decode cX1_tryAgain 38 = .ok (.istore_n 1, 1) := by decide +kernel
theorem dX1_tryAgain_39 : decode cX1_tryAgain 39 = .ok (.iload_n 1, 1) := by decide +kernel
theorem dX1_tryAgain_40 : decode cX1_tryAgain 40 = .ok (.aload_n 0, 1) := by decide +kernel
theorem dX1_tryAgain_41 : decode cX1_tryAgain 41 = .ok (.getfield 35, 3) := by decide +kernel
theorem dX1_tryAgain_44 : decode cX1_tryAgain 44 = .ok (.if_icmp .ge 19, 3) := by decide +kernel
theorem dX1_tryAgain_47 : decode cX1_tryAgain 47 = .ok (.aload_n 0, 1) := by decide +kernel
theorem dX1_tryAgain_48 : decode cX1_tryAgain 48 = .ok (.aload_n 0, 1) := by decide +kernel
theorem dX1_tryAgain_49 : decode cX1_tryAgain 49 = .ok (.getfield 11, 3) := by decide +kernel
theorem dX1_tryAgain_52 : decode cX1_tryAgain 52 = .ok (.iload_n 1, 1) := by decide +kernel
theorem dX1_tryAgain_53 : decode cX1_tryAgain 53 = .ok (.aaload, 1) := by decide +kernel
theorem dX1_tryAgain_54 : decode cX1_tryAgain 54 = .ok (.invokevirtual 112, 3) := by decide +kernel
theorem dX1_tryAgain_57 : decode cX1_tryAgain 57 = .ok (.iinc 1 1, 3) := by decide +kernel
theorem dX1_tryAgain_60 : decode cX1_tryAgain 60 = .ok (.goto (-21), 3) := by decide +kernel
theorem dX1_tryAgain_63 : decode cX1_tryAgain 63 = .ok (.return_, 1) := by decide +kernel
theorem dX1_breakUp_0 : decode cX1_breakUp 0 = .ok (.aload_n 0, 1) := by decide +kernel
theorem dX1_breakUp_1 : decode cX1_breakUp 1 = .ok (.iconst 2, 1) := by decide +kernel
theorem dX1_breakUp_2 : decode cX1_breakUp 2 = .ok (.putfield 28, 3) := by decide +kernel
theorem dX1_breakUp_5 : decode cX1_breakUp 5 = .ok (.iconst 0, 1) := by decide +kernel
theorem dX1_breakUp_6 : decode cX1_breakUp 6 = .ok (.istore_n 1, 1) := by decide +kernel
theorem dX1_breakUp_7 : decode cX1_breakUp 7 = .ok (.iload_n 1, 1) := by decide +kernel
theorem dX1_breakUp_8 : decode cX1_breakUp 8 = .ok (.iconst 4, 1) := by decide +kernel
theorem dX1_breakUp_9 : decode cX1_breakUp 9 = .ok (.if_icmp .ge 22, 3) := by decide +kernel
theorem dX1_breakUp_12 : decode cX1_breakUp 12 = .ok (.aload_n 0, 1) := by decide +kernel
theorem dX1_breakUp_13 : decode cX1_breakUp 13 = .ok (.getfield 35, 3) := by decide +kernel
theorem dX1_breakUp_16 : decode cX1_breakUp 16 = .ok (.ifCond .le 15, 3) := by decide +kernel
theorem dX1_breakUp_19 : decode cX1_breakUp 19 = .ok (.aload_n 0, 1) := by decide +kernel
theorem dX1_breakUp_20 : decode cX1_breakUp 20 = .ok (.iconst 2, 1) := by decide +kernel
theorem dX1_breakUp_21 : decode cX1_breakUp 21 = .ok (.iconst 0, 1) := by decide +kernel
theorem dX1_breakUp_22 : decode cX1_breakUp 22 = .ok (.invokevirtual 236, 3) := by decide +kernel
theorem dX1_breakUp_25 : decode cX1_breakUp 25 = .ok (.iinc 1 1, 3) := by decide +kernel
theorem dX1_breakUp_28 : decode cX1_breakUp 28 = .ok (.goto (-21), 3) := by decide +kernel
theorem dX1_breakUp_31 : decode cX1_breakUp 31 = .ok (.iconst 0, 1) := by decide +kernel
theorem dX1_breakUp_32 : decode cX1_breakUp 32 = .ok (.istore_n 1, 1) := by decide +kernel
theorem dX1_breakUp_33 : decode cX1_breakUp 33 = .ok (.iload_n 1, 1) := by decide +kernel
theorem dX1_breakUp_34 : decode cX1_breakUp 34 = .ok (.aload_n 0, 1) := by decide +kernel
theorem dX1_breakUp_35 : decode cX1_breakUp 35 = .ok (.getfield 41, 3) := by decide +kernel
theorem dX1_breakUp_38 : decode cX1_breakUp 38 = .ok (.if_icmp .ge 36, 3) := by decide +kernel
theorem dX1_breakUp_41 : decode cX1_breakUp 41 = .ok (.aload_n 0, 1) := by decide +kernel
theorem dX1_breakUp_42 : decode cX1_breakUp 42 = .ok (.getfield 63, 3) := by decide +kernel
theorem dX1_breakUp_45 : decode cX1_breakUp 45 = .ok (.new 172, 3) := by decide +kernel
theorem dX1_breakUp_48 : decode cX1_breakUp 48 = .ok (.dup, 1) := by decide +kernel
theorem dX1_breakUp_49 : decode cX1_breakUp 49 = .ok (.aload_n 0, 1) := by decide +kernel
theorem dX1_breakUp_50 : decode cX1_breakUp 50 = .ok (.getfield 60, 3) := by decide +kernel
theorem dX1_breakUp_53 : decode cX1_breakUp 53 = .ok (.iconst 5, 1) := by decide +kernel
theorem dX1_breakUp_54 : decode cX1_breakUp 54 = .ok (.iconst (-1), 1) := by decide +kernel
theorem dX1_breakUp_55 : decode cX1_breakUp 55 = .ok (.iconst 2, 1) := by decide +kernel
theorem dX1_breakUp_56 : decode cX1_breakUp 56 = .ok (.aload_n 0, 1) := by decide +kernel
theorem dX1_breakUp_57 : decode cX1_breakUp 57 = .ok (.getfield 17, 3) := by decide +kernel
theorem dX1_breakUp_60 : decode cX1_breakUp 60 = .ok (.iload_n 1, 1) := by decide +kernel
theorem dX1_breakUp_61 : decode cX1_breakUp 61 = .ok (.iaload, 1) := by decide +kernel
theorem dX1_breakUp_62 : decode cX1_breakUp 62 = .ok (.invokespecial 174, 3) := by decide +kernel
theorem dX1_breakUp_65 : decode cX1_breakUp 65 = .ok (.invokevirtual 177, 3) := by decide +kernel
theorem dX1_breakUp_68 : decode cX1_breakUp 68 = .ok (.iinc 1 1, 3) := by decide +kernel
theorem dX1_breakUp_71 : decode cX1_breakUp 71 = .ok (.goto (-38), 3) := by decide +kernel
theorem dX1_breakUp_74 : decode cX1_breakUp 74 = .ok (.aload_n 0, 1) := by decide +kernel
theorem dX1_breakUp_75 : decode cX1_breakUp 75 = .ok (.iconst 0, 1) := by decide +kernel
theorem dX1_breakUp_76 : decode cX1_breakUp 76 = .ok (.putfield 41, 3) := by decide +kernel
theorem dX1_breakUp_79 : decode cX1_breakUp 79 = .ok (.return_, 1) := by decide +kernel
theorem dX1_finishOldest_0 : decode cX1_finishOldest 0 = .ok (.aload_n 0, 1) := by decide +kernel
theorem dX1_finishOldest_1 : decode cX1_finishOldest 1 = .ok (.getfield 35, 3) := by decide +kernel
theorem dX1_finishOldest_4 : decode cX1_finishOldest 4 = .ok (.ifCond .ne 4, 3) := by decide +kernel
theorem dX1_finishOldest_7 : decode cX1_finishOldest 7 = .ok (.return_, 1) := by decide +kernel
theorem dX1_finishOldest_8 : decode cX1_finishOldest 8 = .ok (.aload_n 0, 1) := by decide +kernel
theorem dX1_finishOldest_9 : decode cX1_finishOldest 9 = .ok (.getfield 11, 3) := by decide +kernel
theorem dX1_finishOldest_12 : decode cX1_finishOldest 12 = .ok (.iconst 0, 1) := by decide +kernel
theorem dX1_finishOldest_13 : decode cX1_finishOldest 13 = .ok (.aaload, 1) := by decide +kernel
theorem dX1_finishOldest_14 : decode cX1_finishOldest 14 = .ok (.astore_n 3, 1) := by decide +kernel
theorem dX1_finishOldest_15 : decode cX1_finishOldest 15 = .ok (.iconst 1, 1) := by decide +kernel
theorem dX1_finishOldest_16 : decode cX1_finishOldest 16 = .ok (.istore 4, 2) := by decide +kernel
theorem dX1_finishOldest_18 : decode cX1_finishOldest 18 = .ok (.iload 4, 2) := by decide +kernel
theorem dX1_finishOldest_20 : decode cX1_finishOldest 20 = .ok (.aload_n 0, 1) := by decide +kernel
theorem dX1_finishOldest_21 : decode cX1_finishOldest 21 = .ok (.getfield 35, 3) := by decide +kernel
theorem dX1_finishOldest_24 : decode cX1_finishOldest 24 = .ok (.if_icmp .ge 25, 3) := by decide +kernel
theorem dX1_finishOldest_27 : decode cX1_finishOldest 27 = .ok (.aload_n 0, 1) := by decide +kernel
theorem dX1_finishOldest_28 : decode cX1_finishOldest 28 = .ok (.getfield 11, 3) := by decide +kernel
theorem dX1_finishOldest_31 : decode cX1_finishOldest 31 = .ok (.iload 4, 2) := by decide +kernel
theorem dX1_finishOldest_33 : decode cX1_finishOldest 33 = .ok (.iconst 1, 1) := by decide +kernel
theorem dX1_finishOldest_34 : decode cX1_finishOldest 34 = .ok (.isub, 1) := by decide +kernel
theorem dX1_finishOldest_35 : decode cX1_finishOldest 35 = .ok (.aload_n 0, 1) := by decide +kernel
theorem dX1_finishOldest_36 : decode cX1_finishOldest 36 = .ok (.getfield 11, 3) := by decide +kernel
theorem dX1_finishOldest_39 : decode cX1_finishOldest 39 = .ok (.iload 4, 2) := by decide +kernel
theorem dX1_finishOldest_41 : decode cX1_finishOldest 41 = .ok (.aaload, 1) := by decide +kernel
theorem dX1_finishOldest_42 : decode cX1_finishOldest 42 = .ok (.aastore, 1) := by decide +kernel
theorem dX1_finishOldest_43 : decode cX1_finishOldest 43 = .ok (.iinc 4 1, 3) := by decide +kernel
theorem dX1_finishOldest_46 : decode cX1_finishOldest 46 = .ok (.goto (-28), 3) := by decide +kernel
theorem dX1_finishOldest_49 : decode cX1_finishOldest 49 = .ok (.aload_n 0, 1) := by decide +kernel
theorem dX1_finishOldest_50 : decode cX1_finishOldest 50 = .ok (.dup, 1) := by decide +kernel
theorem dX1_finishOldest_51 : decode cX1_finishOldest 51 = .ok (.getfield 35, 3) := by decide +kernel
theorem dX1_finishOldest_54 : decode cX1_finishOldest 54 = .ok (.iconst 1, 1) := by decide +kernel
theorem dX1_finishOldest_55 : decode cX1_finishOldest 55 = .ok (.isub, 1) := by decide +kernel
theorem dX1_finishOldest_56 : decode cX1_finishOldest 56 = .ok (.putfield 35, 3) := by decide +kernel
theorem dX1_finishOldest_59 : decode cX1_finishOldest 59 = .ok (.aload_n 0, 1) := by decide +kernel
theorem dX1_finishOldest_60 : decode cX1_finishOldest 60 = .ok (.getfield 11, 3) := by decide +kernel
theorem dX1_finishOldest_63 : decode cX1_finishOldest 63 = .ok (.aload_n 0, 1) := by decide +kernel
theorem dX1_finishOldest_64 : decode cX1_finishOldest 64 = .ok (.getfield 35, 3) := by decide +kernel
theorem dX1_finishOldest_67 : decode cX1_finishOldest 67 = .ok (.aload_n 3, 1) := by decide +kernel
theorem dX1_finishOldest_68 : decode cX1_finishOldest 68 = .ok (.aastore, 1) := by decide +kernel
theorem dX1_finishOldest_69 : decode cX1_finishOldest 69 = .ok (.aload_n 0, 1) := by decide +kernel
theorem dX1_finishOldest_70 : decode cX1_finishOldest 70 = .ok (.iconst 0, 1) := by decide +kernel
theorem dX1_finishOldest_71 : decode cX1_finishOldest 71 = .ok (.putfield 44, 3) := by decide +kernel
theorem dX1_finishOldest_74 : decode cX1_finishOldest 74 = .ok (.aload_n 0, 1) := by decide +kernel
theorem dX1_finishOldest_75 : decode cX1_finishOldest 75 = .ok (.iconst 0, 1) := by decide +kernel
theorem dX1_finishOldest_76 : decode cX1_finishOldest 76 = .ok (.putfield 47, 3) := by decide +kernel
theorem dX1_finishOldest_79 : decode cX1_finishOldest 79 = .ok (.aload_n 0, 1) := by decide +kernel
theorem dX1_finishOldest_80 : decode cX1_finishOldest 80 = .ok (.getfield 63, 3) := by decide +kernel
theorem dX1_finishOldest_83 : decode cX1_finishOldest 83 = .ok (.new 172, 3) := by decide +kernel
theorem dX1_finishOldest_86 : decode cX1_finishOldest 86 = .ok (.dup, 1) := by decide +kernel
theorem dX1_finishOldest_87 : decode cX1_finishOldest 87 = .ok (.aload_n 0, 1) := by decide +kernel
theorem dX1_finishOldest_88 : decode cX1_finishOldest 88 = .ok (.getfield 60, 3) := by decide +kernel
theorem dX1_finishOldest_91 : decode cX1_finishOldest 91 = .ok (.aload_n 3, 1) := by decide +kernel
theorem dX1_finishOldest_92 : decode cX1_finishOldest 92 = .ok (.getfield 94, 3) := by decide +kernel
theorem dX1_finishOldest_95 : decode cX1_finishOldest 95 = .ok (.aload_n 3, 1) := by decide +kernel
theorem dX1_finishOldest_96 : decode cX1_finishOldest 96 = .ok (.getfield 91, 3) := by decide +kernel
theorem dX1_finishOldest_99 : decode cX1_finishOldest 99 = .ok (.iload_n 1, 1) := by decide +kernel
theorem dX1_finishOldest_100 : decode cX1_finishOldest 100 = .ok (.iload_n 2, 1) := by decide +kernel
theorem dX1_finishOldest_101 : decode cX1_finishOldest 101 = .ok (.invokespecial 174, 3) := by decide +kernel
theorem dX1_finishOldest_104 : decode cX1_finishOldest 104 = .ok (.invokevirtual 177, 3) := by decide +kernel
theorem dX1_finishOldest_107 : decode cX1_finishOldest 107 = .ok (.return_, 1) := by decide +kernel
theorem dX2_init_0 : decode cX2_init 0 = .ok (.aload_n 0, 1) := by decide +kernel
theorem dX2_init_1 : decode cX2_init 1 = .ok (.invokespecial 3, 3) := by decide +kernel
theorem dX2_init_4 : decode cX2_init 4 = .ok (.aload_n 0, 1) := by decide +kernel
theorem dX2_init_5 : decode cX2_init 5 = .ok (.bipush 12, 2) := by decide +kernel
theorem dX2_init_7 : decode cX2_init 7 = .ok (.newarray .int, 2) := by decide +kernel
theorem dX2_init_9 : decode cX2_init 9 = .ok (.putfield 9, 3) := by decide +kernel
theorem dX2_init_12 : decode cX2_init 12 = .ok (.aload_n 0, 1) := by decide +kernel
theorem dX2_init_13 : decode cX2_init 13 = .ok (.iconst 4, 1) := by decide +kernel
theorem dX2_init_14 : decode cX2_init 14 = .ok (.anewarray 15, 3) := by decide +kernel
theorem dX2_init_17 : decode cX2_init 17 = .ok (.putfield 17, 3) := by decide +kernel
theorem dX2_init_20 : decode cX2_init 20 = .ok (.aload_n 0, 1) := by decide +kernel
theorem dX2_init_21 : decode cX2_init 21 = .ok (.aconst_null, 1) := by decide +kernel
theorem dX2_init_22 : decode cX2_init 22 = .ok (.putfield 21, 3) := by decide +kernel
theorem dX2_init_25 : decode cX2_init 25 = .ok (.aload_n 0, 1) := by decide +kernel
theorem dX2_init_26 : decode cX2_init 26 = .ok (.aconst_null, 1) := by decide +kernel
theorem dX2_init_27 : decode cX2_init 27 = .ok (.putfield 25, 3) := by decide +kernel
theorem dX2_init_30 : decode cX2_init 30 = .ok (.aload_n 0, 1) := by decide +kernel
theorem dX2_init_31 : decode cX2_init 31 = .ok (.iconst 0, 1) := by decide +kernel
theorem dX2_init_32 : decode cX2_init 32 = .ok (.putfield 28, 3) := by decide +kernel
theorem dX2_init_35 : decode cX2_init 35 = .ok (.aload_n 0, 1) := by decide +kernel
theorem dX2_init_36 : decode cX2_init 36 = .ok (.iconst 0, 1) := by decide +kernel
theorem dX2_init_37 : decode cX2_init 37 = .ok (.putfield 32, 3) := by decide +kernel
theorem dX2_init_40 : decode cX2_init 40 = .ok (.iconst 0, 1) := by decide +kernel
theorem dX2_init_41 : decode cX2_init 41 = .ok (.istore_n 1, 1) := by decide +kernel
theorem dX2_init_42 : decode cX2_init 42 = .ok (.iload_n 1, 1) := by decide +kernel
theorem dX2_init_43 : decode cX2_init 43 = .ok (.iconst 4, 1) := by decide +kernel
theorem dX2_init_44 : decode cX2_init 44 = .ok (.if_icmp .ge 22, 3) := by decide +kernel
theorem dX2_init_47 : decode cX2_init 47 = .ok (.aload_n 0, 1) := by decide +kernel
theorem dX2_init_48 : decode cX2_init 48 = .ok (.getfield 17, 3) := by decide +kernel
theorem dX2_init_51 : decode cX2_init 51 = .ok (.iload_n 1, 1) := by decide +kernel
theorem dX2_init_52 : decode cX2_init 52 = .ok (.new 15, 3) := by decide +kernel
theorem dX2_init_55 : decode cX2_init 55 = .ok (.dup, 1) := by decide +kernel
theorem dX2_init_56 : decode cX2_init 56 = .ok (.invokespecial 35, 3) := by decide +kernel
theorem dX2_init_59 : decode cX2_init 59 = .ok (.aastore, 1) := by decide +kernel
theorem dX2_init_60 : decode cX2_init 60 = .ok (.iinc 1 1, 3) := by decide +kernel
theorem dX2_init_63 : decode cX2_init 63 = .ok (.goto (-21), 3) := by decide +kernel
theorem dX2_init_66 : decode cX2_init 66 = .ok (.return_, 1) := by decide +kernel
theorem dX2_reset_0 : decode cX2_reset 0 = .ok (.iconst 0, 1) := by decide +kernel
theorem dX2_reset_1 : decode cX2_reset 1 = .ok (.istore_n 1, 1) := by decide +kernel
theorem dX2_reset_2 : decode cX2_reset 2 = .ok (.iload_n 1, 1) := by decide +kernel
theorem dX2_reset_3 : decode cX2_reset 3 = .ok (.bipush 12, 2) := by decide +kernel
theorem dX2_reset_5 : decode cX2_reset 5 = .ok (.if_icmp .ge 16, 3) := by decide +kernel
theorem dX2_reset_8 : decode cX2_reset 8 = .ok (.aload_n 0, 1) := by decide +kernel
theorem dX2_reset_9 : decode cX2_reset 9 = .ok (.getfield 9, 3) := by decide +kernel
theorem dX2_reset_12 : decode cX2_reset 12 = .ok (.iload_n 1, 1) := by decide +kernel
theorem dX2_reset_13 : decode cX2_reset 13 = .ok (.iconst 0, 1) := by decide +kernel
theorem dX2_reset_14 : decode cX2_reset 14 = .ok (.iastore, 1) := by decide +kernel
theorem dX2_reset_15 : decode cX2_reset 15 = .ok (.iinc 1 1, 3) := by decide +kernel
theorem dX2_reset_18 : decode cX2_reset 18 = .ok (.goto (-16), 3) := by decide +kernel
theorem dX2_reset_21 : decode cX2_reset 21 = .ok (.iconst 0, 1) := by decide +kernel
theorem dX2_reset_22 : decode cX2_reset 22 = .ok (.istore_n 1, 1) := by decide +kernel
theorem dX2_reset_23 : decode cX2_reset 23 = .ok (.iload_n 1, 1) := by decide +kernel
theorem dX2_reset_24 : decode cX2_reset 24 = .ok (.iconst 4, 1) := by decide +kernel
theorem dX2_reset_25 : decode cX2_reset 25 = .ok (.if_icmp .ge 19, 3) := by decide +kernel
theorem dX2_reset_28 : decode cX2_reset 28 = .ok (.aload_n 0, 1) := by decide +kernel
theorem dX2_reset_29 : decode cX2_reset 29 = .ok (.getfield 17, 3) := by decide +kernel
theorem dX2_reset_32 : decode cX2_reset 32 = .ok (.iload_n 1, 1) := by decide +kernel
theorem dX2_reset_33 : decode cX2_reset 33 = .ok (.aaload, 1) := by decide +kernel
theorem dX2_reset_34 : decode cX2_reset 34 = .ok (.iconst 0, 1) := by decide +kernel
theorem dX2_reset_35 : decode cX2_reset 35 = .ok (.putfield 36, 3) := by decide +kernel
theorem dX2_reset_38 : decode cX2_reset 38 = .ok (.iinc 1 1, 3) := by decide +kernel
theorem dX2_reset_41 : decode cX2_reset 41 = .ok (.goto (-18), 3) := by decide +kernel
theorem dX2_reset_44 : decode cX2_reset 44 = .ok (.aload_n 0, 1) := by decide +kernel
theorem dX2_reset_45 : decode cX2_reset 45 = .ok (.aconst_null, 1) := by decide +kernel
theorem dX2_reset_46 : decode cX2_reset 46 = .ok (.putfield 21, 3) := by decide +kernel
theorem dX2_reset_49 : decode cX2_reset 49 = .ok (.aload_n 0, 1) := by decide +kernel
theorem dX2_reset_50 : decode cX2_reset 50 = .ok (.aconst_null, 1) := by decide +kernel
theorem dX2_reset_51 : decode cX2_reset 51 = .ok (.putfield 25, 3) := by decide +kernel
theorem dX2_reset_54 : decode cX2_reset 54 = .ok (.aload_n 0, 1) := by decide +kernel
theorem dX2_reset_55 : decode cX2_reset 55 = .ok (.iconst 0, 1) := by decide +kernel
theorem dX2_reset_56 : decode cX2_reset 56 = .ok (.putfield 28, 3) := by decide +kernel
theorem dX2_reset_59 : decode cX2_reset 59 = .ok (.aload_n 0, 1) := by decide +kernel
theorem dX2_reset_60 : decode cX2_reset 60 = .ok (.iconst 0, 1) := by decide +kernel
theorem dX2_reset_61 : decode cX2_reset 61 = .ok (.putfield 32, 3) := by decide +kernel
theorem dX2_reset_64 : decode cX2_reset 64 = .ok (.return_, 1) := by decide +kernel
theorem dX2_setKey_0 : decode cX2_setKey 0 = .ok (.aload_n 0, 1) := by decide +kernel
theorem dX2_setKey_1 : decode cX2_setKey 1 = .ok (.getfield 17, 3) := by decide +kernel
theorem dX2_setKey_4 : decode cX2_setKey 4 = .ok (.iload_n 1, 1) := by decide +kernel
theorem dX2_setKey_5 : decode cX2_setKey 5 = .ok (.aaload, 1) := by decide +kernel
theorem dX2_setKey_6 : decode cX2_setKey 6 = .ok (.astore 5, 2) := by decide +kernel
theorem dX2_setKey_8 : decode cX2_setKey 8 = .ok (.aload 5, 2) := by decide +kernel
theorem dX2_setKey_10 : decode cX2_setKey 10 = .ok (.iconst 1, 1) := by decide +kernel
theorem dX2_setKey_11 : decode cX2_setKey 11 = .ok (.putfield 36, 3) := by decide +kernel
theorem dX2_setKey_14 : decode cX2_setKey 14 = .ok (.aload 5, 2) := by decide +kernel
theorem dX2_setKey_16 : decode cX2_setKey 16 = .ok (.iload_n 2, 1) := by decide +kernel
theorem dX2_setKey_17 : decode cX2_setKey 17 = .ok (.putfield 40, 3) := by decide +kernel
theorem dX2_setKey_20 : decode cX2_setKey 20 = .ok (.aload 5, 2) := by decide +kernel
theorem dX2_setKey_22 : decode cX2_setKey 22 = .ok (.iload_n 3, 1) := by decide +kernel
theorem dX2_setKey_23 : decode cX2_setKey 23 = .ok (.putfield 43, 3) := by decide +kernel
theorem dX2_setKey_26 : decode cX2_setKey 26 = .ok (.aload 5, 2) := by decide +kernel
theorem dX2_setKey_28 : decode cX2_setKey 28 = .ok (.iload 4, 2) := by decide +kernel
theorem dX2_setKey_30 : decode cX2_setKey 30 = .ok (.putfield 46, 3) := by decide +kernel
theorem dX2_setKey_33 : decode cX2_setKey 33 = .ok (.return_, 1) := by decide +kernel
theorem dX2_keyCount_0 : decode cX2_keyCount 0 = .ok (.iconst 0, 1) := by decide +kernel
theorem dX2_keyCount_1 : decode cX2_keyCount 1 = .ok (.istore_n 1, 1) := by decide +kernel
theorem dX2_keyCount_2 : decode cX2_keyCount 2 = .ok (.iconst 0, 1) := by decide +kernel
theorem dX2_keyCount_3 : decode cX2_keyCount 3 = .ok (.istore_n 2, 1) := by decide +kernel
theorem dX2_keyCount_4 : decode cX2_keyCount 4 = .ok (.iload_n 2, 1) := by decide +kernel
theorem dX2_keyCount_5 : decode cX2_keyCount 5 = .ok (.iconst 4, 1) := by decide +kernel
theorem dX2_keyCount_6 : decode cX2_keyCount 6 = .ok (.if_icmp .ge 24, 3) := by decide +kernel
theorem dX2_keyCount_9 : decode cX2_keyCount 9 = .ok (.aload_n 0, 1) := by decide +kernel
theorem dX2_keyCount_10 : decode cX2_keyCount 10 = .ok (.getfield 17, 3) := by decide +kernel
theorem dX2_keyCount_13 : decode cX2_keyCount 13 = .ok (.iload_n 2, 1) := by decide +kernel
theorem dX2_keyCount_14 : decode cX2_keyCount 14 = .ok (.aaload, 1) := by decide +kernel
theorem dX2_keyCount_15 : decode cX2_keyCount 15 = .ok (.getfield 36, 3) := by decide +kernel
theorem dX2_keyCount_18 : decode cX2_keyCount 18 = .ok (.ifCond .eq 6, 3) := by decide +kernel
theorem dX2_keyCount_21 : decode cX2_keyCount 21 = .ok (.iinc 1 1, 3) := by decide +kernel
theorem dX2_keyCount_24 : decode cX2_keyCount 24 = .ok (.iinc 2 1, 3) := by decide +kernel
theorem dX2_keyCount_27 : decode cX2_keyCount 27 = .ok (.goto (-23), 3) := by decide +kernel
theorem dX2_keyCount_30 : decode cX2_keyCount 30 = .ok (.iload_n 1, 1) := by decide +kernel
theorem dX2_keyCount_31 : decode cX2_keyCount 31 = .ok (.ireturn, 1) := by decide +kernel
theorem dX2_cellSum_0 : decode cX2_cellSum 0 = .ok (.iconst 0, 1) := by decide +kernel
theorem dX2_cellSum_1 : decode cX2_cellSum 1 = .ok (.istore_n 1, 1) := by decide +kernel
theorem dX2_cellSum_2 : decode cX2_cellSum 2 = .ok (.iconst 0, 1) := by decide +kernel
theorem dX2_cellSum_3 : decode cX2_cellSum 3 = .ok (.istore_n 2, 1) := by decide +kernel
theorem dX2_cellSum_4 : decode cX2_cellSum 4 = .ok (.iload_n 2, 1) := by decide +kernel
theorem dX2_cellSum_5 : decode cX2_cellSum 5 = .ok (.bipush 12, 2) := by decide +kernel
theorem dX2_cellSum_7 : decode cX2_cellSum 7 = .ok (.if_icmp .ge 18, 3) := by decide +kernel
theorem dX2_cellSum_10 : decode cX2_cellSum 10 = .ok (.iload_n 1, 1) := by decide +kernel
theorem dX2_cellSum_11 : decode cX2_cellSum 11 = .ok (.aload_n 0, 1) := by decide +kernel
theorem dX2_cellSum_12 : decode cX2_cellSum 12 = .ok (.getfield 9, 3) := by decide +kernel
theorem dX2_cellSum_15 : decode cX2_cellSum 15 = .ok (.iload_n 2, 1) := by decide +kernel
theorem dX2_cellSum_16 : decode cX2_cellSum 16 = .ok (.iaload, 1) := by decide +kernel
theorem dX2_cellSum_17 : decode cX2_cellSum 17 = .ok (.iadd, 1) := by decide +kernel
theorem dX2_cellSum_18 : decode cX2_cellSum 18 = .ok (.istore_n 1, 1) := by decide +kernel
theorem dX2_cellSum_19 : decode cX2_cellSum 19 = .ok (.iinc 2 1, 3) := by decide +kernel
theorem dX2_cellSum_22 : decode cX2_cellSum 22 = .ok (.goto (-18), 3) := by decide +kernel
theorem dX2_cellSum_25 : decode cX2_cellSum 25 = .ok (.iload_n 1, 1) := by decide +kernel
theorem dX2_cellSum_26 : decode cX2_cellSum 26 = .ok (.ireturn, 1) := by decide +kernel
theorem dX2_pushNotice_0 : decode cX2_pushNotice 0 = .ok (.aload_n 0, 1) := by decide +kernel
theorem dX2_pushNotice_1 : decode cX2_pushNotice 1 = .ok (.getfield 28, 3) := by decide +kernel
theorem dX2_pushNotice_4 : decode cX2_pushNotice 4 = .ok (.sipush 512, 3) := by decide +kernel
theorem dX2_pushNotice_7 : decode cX2_pushNotice 7 = .ok (.if_icmp .lt 4, 3) := by decide +kernel
theorem dX2_pushNotice_10 : decode cX2_pushNotice 10 = .ok (.return_, 1) := by decide +kernel
theorem dX2_pushNotice_11 : decode cX2_pushNotice 11 = .ok (.aload_n 0, 1) := by decide +kernel
theorem dX2_pushNotice_12 : decode cX2_pushNotice 12 = .ok (.getfield 25, 3) := by decide +kernel
theorem dX2_pushNotice_15 : decode cX2_pushNotice 15 = .ok (.ifnonnull 11, 3) := by decide +kernel
theorem dX2_pushNotice_18 : decode cX2_pushNotice 18 = .ok (.aload_n 0, 1) := by decide +kernel
theorem dX2_pushNotice_19 : decode cX2_pushNotice 19 = .ok (.aload_n 1, 1) := by decide +kernel
theorem dX2_pushNotice_20 : decode cX2_pushNotice 20 = .ok (.putfield 21, 3) := by decide +kernel
theorem dX2_pushNotice_23 : decode cX2_pushNotice 23 = .ok (.goto 11, 3) := by decide +kernel
theorem dX2_pushNotice_26 : decode cX2_pushNotice 26 = .ok (.aload_n 0, 1) := by decide +kernel
theorem dX2_pushNotice_27 : decode cX2_pushNotice 27 = .ok (.getfield 25, 3) := by decide +kernel
theorem dX2_pushNotice_30 : decode cX2_pushNotice 30 = .ok (.aload_n 1, 1) := by decide +kernel
theorem dX2_pushNotice_31 : decode cX2_pushNotice 31 = .ok (.putfield 49, 3) := by decide +kernel
theorem dX2_pushNotice_34 : decode cX2_pushNotice 34 = .ok (.aload_n 0, 1) := by decide +kernel
theorem dX2_pushNotice_35 : decode cX2_pushNotice 35 = .ok (.aload_n 1, 1) := by decide +kernel
theorem dX2_pushNotice_36 : decode cX2_pushNotice 36 = .ok (.putfield 25, 3) := by decide +kernel
theorem dX2_pushNotice_39 : decode cX2_pushNotice 39 = .ok (.aload_n 0, 1) := by decide +kernel
theorem dX2_pushNotice_40 : decode cX2_pushNotice 40 = .ok (.dup, 1) := by decide +kernel
theorem dX2_pushNotice_41 : decode cX2_pushNotice 41 = .ok (.getfield 28, 3) := by decide +kernel
theorem dX2_pushNotice_44 : decode cX2_pushNotice 44 = .ok (.iconst 1, 1) := by decide +kernel
theorem dX2_pushNotice_45 : decode cX2_pushNotice 45 = .ok (.iadd, 1) := by decide +kernel
theorem dX2_pushNotice_46 : decode cX2_pushNotice 46 = .ok (.putfield 28, 3) := by decide +kernel
theorem dX2_pushNotice_49 : decode cX2_pushNotice 49 = .ok (.return_, 1) := by decide +kernel
theorem dX2_pullNotice_0 : decode cX2_pullNotice 0 = .ok (.aload_n 0, 1) := by decide +kernel
theorem dX2_pullNotice_1 : decode cX2_pullNotice 1 = .ok (.getfield 21, 3) := by decide +kernel
theorem dX2_pullNotice_4 : decode cX2_pullNotice 4 = .ok (.astore_n 1, 1) := by decide +kernel
theorem dX2_pullNotice_5 : decode cX2_pullNotice 5 = .ok (.aload_n 1, 1) := by decide +kernel
theorem dX2_pullNotice_6 : decode cX2_pullNotice 6 = .ok (.ifnonnull 5, 3) := by decide +kernel
theorem dX2_pullNotice_9 : decode cX2_pullNotice 9 = .ok (.aconst_null, 1) := by decide +kernel
theorem dX2_pullNotice_10 : decode cX2_pullNotice 10 = .ok (.areturn, 1) := by decide +kernel
theorem dX2_pullNotice_11 : decode cX2_pullNotice 11 = .ok (.aload_n 0, 1) := by decide +kernel
theorem dX2_pullNotice_12 : decode cX2_pullNotice 12 = .ok (.aload_n 1, 1) := by decide +kernel
theorem dX2_pullNotice_13 : decode cX2_pullNotice 13 = .ok (.getfield 49, 3) := by decide +kernel
theorem dX2_pullNotice_16 : decode cX2_pullNotice 16 = .ok (.putfield 21, 3) := by decide +kernel
theorem dX2_pullNotice_19 : decode cX2_pullNotice 19 = .ok (.aload_n 0, 1) := by decide +kernel
theorem dX2_pullNotice_20 : decode cX2_pullNotice 20 = .ok (.getfield 21, 3) := by decide +kernel
theorem dX2_pullNotice_23 : decode cX2_pullNotice 23 = .ok (.ifnonnull 8, 3) := by decide +kernel
theorem dX2_pullNotice_26 : decode cX2_pullNotice 26 = .ok (.aload_n 0, 1) := by decide +kernel
theorem dX2_pullNotice_27 : decode cX2_pullNotice 27 = .ok (.aconst_null, 1) := by decide +kernel
theorem dX2_pullNotice_28 : decode cX2_pullNotice 28 = .ok (.putfield 25, 3) := by decide +kernel
theorem dX2_pullNotice_31 : decode cX2_pullNotice 31 = .ok (.aload_n 1, 1) := by decide +kernel
theorem dX2_pullNotice_32 : decode cX2_pullNotice 32 = .ok (.aconst_null, 1) := by decide +kernel
theorem dX2_pullNotice_33 : decode cX2_pullNotice 33 = .ok (.putfield 49, 3) := by decide +kernel
theorem dX2_pullNotice_36 : decode cX2_pullNotice 36 = .ok (.aload_n 0, 1) := by decide +kernel
theorem dX2_pullNotice_37 : decode cX2_pullNotice 37 = .ok (.dup, 1) := by decide +kernel
theorem dX2_pullNotice_38 : decode cX2_pullNotice 38 = .ok (.getfield 28, 3) := by decide +kernel
theorem dX2_pullNotice_41 : decode cX2_pullNotice 41 = .ok (.iconst 1, 1) := by decide +kernel
theorem dX2_pullNotice_42 : decode cX2_pullNotice 42 = .ok (.isub, 1) := by decide +kernel
theorem dX2_pullNotice_43 : decode cX2_pullNotice 43 = .ok (.putfield 28, 3) := by decide +kernel
theorem dX2_pullNotice_46 : decode cX2_pullNotice 46 = .ok (.aload_n 1, 1) := by decide +kernel
theorem dX2_pullNotice_47 : decode cX2_pullNotice 47 = .ok (.areturn, 1) := by decide +kernel
theorem dX3_init_0 : decode cX3_init 0 = .ok (.aload_n 0, 1) := by decide +kernel
theorem dX3_init_1 : decode cX3_init 1 = .ok (.invokespecial 1, 3) := by decide +kernel
theorem dX3_init_4 : decode cX3_init 4 = .ok (.aload_n 0, 1) := by decide +kernel
theorem dX3_init_5 : decode cX3_init 5 = .ok (.iconst 0, 1) := by decide +kernel
theorem dX3_init_6 : decode cX3_init 6 = .ok (.putfield 7, 3) := by decide +kernel
theorem dX3_init_9 : decode cX3_init 9 = .ok (.aload_n 0, 1) := by decide +kernel
theorem dX3_init_10 : decode cX3_init 10 = .ok (.iconst 0, 1) := by decide +kernel
theorem dX3_init_11 : decode cX3_init 11 = .ok (.putfield 13, 3) := by decide +kernel
theorem dX3_init_14 : decode cX3_init 14 = .ok (.aload_n 0, 1) := by decide +kernel
theorem dX3_init_15 : decode cX3_init 15 = .ok (.iconst 0, 1) := by decide +kernel
theorem dX3_init_16 : decode cX3_init 16 = .ok (.putfield 17, 3) := by decide +kernel
theorem dX3_init_19 : decode cX3_init 19 = .ok (.aload_n 0, 1) := by decide +kernel
theorem dX3_init_20 : decode cX3_init 20 = .ok (.iconst 0, 1) := by decide +kernel
theorem dX3_init_21 : decode cX3_init 21 = .ok (.putfield 20, 3) := by decide +kernel
theorem dX3_init_24 : decode cX3_init 24 = .ok (.return_, 1) := by decide +kernel
theorem dX4_init_0 : decode cX4_init 0 = .ok (.aload_n 0, 1) := by decide +kernel
theorem dX4_init_1 : decode cX4_init 1 = .ok (.invokespecial 1, 3) := by decide +kernel
theorem dX4_init_4 : decode cX4_init 4 = .ok (.aload_n 0, 1) := by decide +kernel
theorem dX4_init_5 : decode cX4_init 5 = .ok (.aconst_null, 1) := by decide +kernel
theorem dX4_init_6 : decode cX4_init 6 = .ok (.putfield 7, 3) := by decide +kernel
theorem dX4_init_9 : decode cX4_init 9 = .ok (.aload_n 0, 1) := by decide +kernel
theorem dX4_init_10 : decode cX4_init 10 = .ok (.iload_n 1, 1) := by decide +kernel
theorem dX4_init_11 : decode cX4_init 11 = .ok (.putfield 13, 3) := by decide +kernel
theorem dX4_init_14 : decode cX4_init 14 = .ok (.aload_n 0, 1) := by decide +kernel
theorem dX4_init_15 : decode cX4_init 15 = .ok (.iload_n 2, 1) := by decide +kernel
theorem dX4_init_16 : decode cX4_init 16 = .ok (.putfield 17, 3) := by decide +kernel
theorem dX4_init_19 : decode cX4_init 19 = .ok (.aload_n 0, 1) := by decide +kernel
theorem dX4_init_20 : decode cX4_init 20 = .ok (.iload_n 3, 1) := by decide +kernel
theorem dX4_init_21 : decode cX4_init 21 = .ok (.putfield 20, 3) := by decide +kernel
theorem dX4_init_24 : decode cX4_init 24 = .ok (.aload_n 0, 1) := by decide +kernel
theorem dX4_init_25 : decode cX4_init 25 = .ok (.iload 4, 2) := by decide +kernel
theorem dX4_init_27 : decode cX4_init 27 = .ok (.putfield 23, 3) := by decide +kernel
theorem dX4_init_30 : decode cX4_init 30 = .ok (.aload_n 0, 1) := by decide +kernel
theorem dX4_init_31 : decode cX4_init 31 = .ok (.iload 5, 2) := by decide +kernel
theorem dX4_init_33 : decode cX4_init 33 = .ok (.putfield 26, 3) := by decide +kernel
theorem dX4_init_36 : decode cX4_init 36 = .ok (.return_, 1) := by decide +kernel
theorem dX5_init_0 : decode cX5_init 0 = .ok (.aload_n 0, 1) := by decide +kernel
theorem dX5_init_1 : decode cX5_init 1 = .ok (.invokespecial 3, 3) := by decide +kernel
theorem dX5_init_4 : decode cX5_init 4 = .ok (.aload_n 0, 1) := by decide +kernel
theorem dX5_init_5 : decode cX5_init 5 = .ok (.iconst 0, 1) := by decide +kernel
theorem dX5_init_6 : decode cX5_init 6 = .ok (.putfield 9, 3) := by decide +kernel
theorem dX5_init_9 : decode cX5_init 9 = .ok (.aload_n 0, 1) := by decide +kernel
theorem dX5_init_10 : decode cX5_init 10 = .ok (.iconst 0, 1) := by decide +kernel
theorem dX5_init_11 : decode cX5_init 11 = .ok (.putfield 15, 3) := by decide +kernel
theorem dX5_init_14 : decode cX5_init 14 = .ok (.aload_n 0, 1) := by decide +kernel
theorem dX5_init_15 : decode cX5_init 15 = .ok (.iconst 0, 1) := by decide +kernel
theorem dX5_init_16 : decode cX5_init 16 = .ok (.putfield 18, 3) := by decide +kernel
theorem dX5_init_19 : decode cX5_init 19 = .ok (.aload_n 0, 1) := by decide +kernel
theorem dX5_init_20 : decode cX5_init 20 = .ok (.iconst 0, 1) := by decide +kernel
theorem dX5_init_21 : decode cX5_init 21 = .ok (.putfield 21, 3) := by decide +kernel
theorem dX5_init_24 : decode cX5_init 24 = .ok (.aload_n 0, 1) := by decide +kernel
theorem dX5_init_25 : decode cX5_init 25 = .ok (.iconst 0, 1) := by decide +kernel
theorem dX5_init_26 : decode cX5_init 26 = .ok (.putfield 24, 3) := by decide +kernel
theorem dX5_init_29 : decode cX5_init 29 = .ok (.aload_n 0, 1) := by decide +kernel
theorem dX5_init_30 : decode cX5_init 30 = .ok (.iconst 0, 1) := by decide +kernel
theorem dX5_init_31 : decode cX5_init 31 = .ok (.putfield 27, 3) := by decide +kernel
theorem dX5_init_34 : decode cX5_init 34 = .ok (.aload_n 0, 1) := by decide +kernel
theorem dX5_init_35 : decode cX5_init 35 = .ok (.iconst 0, 1) := by decide +kernel
theorem dX5_init_36 : decode cX5_init 36 = .ok (.putfield 30, 3) := by decide +kernel
theorem dX5_init_39 : decode cX5_init 39 = .ok (.aload_n 0, 1) := by decide +kernel
theorem dX5_init_40 : decode cX5_init 40 = .ok (.iconst 0, 1) := by decide +kernel
theorem dX5_init_41 : decode cX5_init 41 = .ok (.putfield 33, 3) := by decide +kernel
theorem dX5_init_44 : decode cX5_init 44 = .ok (.aload_n 0, 1) := by decide +kernel
theorem dX5_init_45 : decode cX5_init 45 = .ok (.iconst 0, 1) := by decide +kernel
theorem dX5_init_46 : decode cX5_init 46 = .ok (.putfield 36, 3) := by decide +kernel
theorem dX5_init_49 : decode cX5_init 49 = .ok (.aload_n 0, 1) := by decide +kernel
theorem dX5_init_50 : decode cX5_init 50 = .ok (.iconst 0, 1) := by decide +kernel
theorem dX5_init_51 : decode cX5_init 51 = .ok (.putfield 39, 3) := by decide +kernel
theorem dX5_init_54 : decode cX5_init 54 = .ok (.return_, 1) := by decide +kernel
theorem dX5_beAnswer_0 : decode cX5_beAnswer 0 = .ok (.aload_n 0, 1) := by decide +kernel
theorem dX5_beAnswer_1 : decode cX5_beAnswer 1 = .ok (.iload_n 1, 1) := by decide +kernel
theorem dX5_beAnswer_2 : decode cX5_beAnswer 2 = .ok (.putfield 18, 3) := by decide +kernel
theorem dX5_beAnswer_5 : decode cX5_beAnswer 5 = .ok (.aload_n 0, 1) := by decide +kernel
theorem dX5_beAnswer_6 : decode cX5_beAnswer 6 = .ok (.iload_n 2, 1) := by decide +kernel
theorem dX5_beAnswer_7 : decode cX5_beAnswer 7 = .ok (.putfield 21, 3) := by decide +kernel
theorem dX5_beAnswer_10 : decode cX5_beAnswer 10 = .ok (.aload_n 0, 1) := by decide +kernel
theorem dX5_beAnswer_11 : decode cX5_beAnswer 11 = .ok (.iload_n 3, 1) := by decide +kernel
theorem dX5_beAnswer_12 : decode cX5_beAnswer 12 = .ok (.putfield 24, 3) := by decide +kernel
theorem dX5_beAnswer_15 : decode cX5_beAnswer 15 = .ok (.return_, 1) := by decide +kernel
theorem dX5_beRequest_0 : decode cX5_beRequest 0 = .ok (.aload_n 0, 1) := by decide +kernel
theorem dX5_beRequest_1 : decode cX5_beRequest 1 = .ok (.iconst 0, 1) := by decide +kernel
end
section
theorem dX5_beRequest_2 : decode cX5_beRequest 2 = .ok (.putfield 18, 3) := by decide +kernel
theorem dX5_beRequest_5 : decode cX5_beRequest 5 = .ok (.aload_n 0, 1) := by decide +kernel
theorem dX5_beRequest_6 : decode cX5_beRequest 6 = .ok (.aload_n 1, 1) := by decide +kernel
theorem dX5_beRequest_7 : decode cX5_beRequest 7 = .ok (.getfield 42, 3) := by decide +kernel
theorem dX5_beRequest_10 : decode cX5_beRequest 10 = .ok (.putfield 21, 3) := by decide +kernel
theorem dX5_beRequest_13 : decode cX5_beRequest 13 = .ok (.aload_n 0, 1) := by decide +kernel
theorem dX5_beRequest_14 : decode cX5_beRequest 14 = .ok (.iconst 0, 1) := by decide +kernel
theorem dX5_beRequest_15 : decode cX5_beRequest 15 = .ok (.putfield 24, 3) := by decide +kernel
theorem dX5_beRequest_18 : decode cX5_beRequest 18 = .ok (.aload_n 0, 1) := by decide +kernel
theorem dX5_beRequest_19 : decode cX5_beRequest 19 = .ok (.aload_n 1, 1) := by decide +kernel
theorem dX5_beRequest_20 : decode cX5_beRequest 20 = .ok (.getfield 45, 3) := by decide +kernel
theorem dX5_beRequest_23 : decode cX5_beRequest 23 = .ok (.putfield 27, 3) := by decide +kernel
theorem dX5_beRequest_26 : decode cX5_beRequest 26 = .ok (.aload_n 0, 1) := by decide +kernel
theorem dX5_beRequest_27 : decode cX5_beRequest 27 = .ok (.aload_n 1, 1) := by decide +kernel
theorem dX5_beRequest_28 : decode cX5_beRequest 28 = .ok (.getfield 46, 3) := by decide +kernel
theorem dX5_beRequest_31 : decode cX5_beRequest 31 = .ok (.putfield 30, 3) := by decide +kernel
theorem dX5_beRequest_34 : decode cX5_beRequest 34 = .ok (.aload_n 0, 1) := by decide +kernel
theorem dX5_beRequest_35 : decode cX5_beRequest 35 = .ok (.aload_n 1, 1) := by decide +kernel
theorem dX5_beRequest_36 : decode cX5_beRequest 36 = .ok (.getfield 47, 3) := by decide +kernel
theorem dX5_beRequest_39 : decode cX5_beRequest 39 = .ok (.putfield 33, 3) := by decide +kernel
theorem dX5_beRequest_42 : decode cX5_beRequest 42 = .ok (.aload_n 0, 1) := by decide +kernel
theorem dX5_beRequest_43 : decode cX5_beRequest 43 = .ok (.aload_n 1, 1) := by decide +kernel
theorem dX5_beRequest_44 : decode cX5_beRequest 44 = .ok (.getfield 48, 3) := by decide +kernel
theorem dX5_beRequest_47 : decode cX5_beRequest 47 = .ok (.putfield 36, 3) := by decide +kernel
theorem dX5_beRequest_50 : decode cX5_beRequest 50 = .ok (.aload_n 0, 1) := by decide +kernel
theorem dX5_beRequest_51 : decode cX5_beRequest 51 = .ok (.aload_n 1, 1) := by decide +kernel
theorem dX5_beRequest_52 : decode cX5_beRequest 52 = .ok (.getfield 49, 3) := by decide +kernel
theorem dX5_beRequest_55 : decode cX5_beRequest 55 = .ok (.putfield 39, 3) := by decide +kernel
theorem dX5_beRequest_58 : decode cX5_beRequest 58 = .ok (.return_, 1) := by decide +kernel
theorem dX5_beCopyOf_0 : decode cX5_beCopyOf 0 = .ok (.aload_n 0, 1) := by decide +kernel
theorem dX5_beCopyOf_1 : decode cX5_beCopyOf 1 = .ok (.aload_n 1, 1) := by decide +kernel
theorem dX5_beCopyOf_2 : decode cX5_beCopyOf 2 = .ok (.getfield 9, 3) := by decide +kernel
theorem dX5_beCopyOf_5 : decode cX5_beCopyOf 5 = .ok (.putfield 9, 3) := by decide +kernel
theorem dX5_beCopyOf_8 : decode cX5_beCopyOf 8 = .ok (.aload_n 0, 1) := by decide +kernel
theorem dX5_beCopyOf_9 : decode cX5_beCopyOf 9 = .ok (.aload_n 1, 1) := by decide +kernel
theorem dX5_beCopyOf_10 : decode cX5_beCopyOf 10 = .ok (.getfield 15, 3) := by decide +kernel
theorem dX5_beCopyOf_13 : decode cX5_beCopyOf 13 = .ok (.putfield 15, 3) := by decide +kernel
theorem dX5_beCopyOf_16 : decode cX5_beCopyOf 16 = .ok (.aload_n 0, 1) := by decide +kernel
theorem dX5_beCopyOf_17 : decode cX5_beCopyOf 17 = .ok (.aload_n 1, 1) := by decide +kernel
theorem dX5_beCopyOf_18 : decode cX5_beCopyOf 18 = .ok (.getfield 18, 3) := by decide +kernel
theorem dX5_beCopyOf_21 : decode cX5_beCopyOf 21 = .ok (.putfield 18, 3) := by decide +kernel
theorem dX5_beCopyOf_24 : decode cX5_beCopyOf 24 = .ok (.aload_n 0, 1) := by decide +kernel
theorem dX5_beCopyOf_25 : decode cX5_beCopyOf 25 = .ok (.aload_n 1, 1) := by decide +kernel
theorem dX5_beCopyOf_26 : decode cX5_beCopyOf 26 = .ok (.getfield 21, 3) := by decide +kernel
theorem dX5_beCopyOf_29 : decode cX5_beCopyOf 29 = .ok (.putfield 21, 3) := by decide +kernel
theorem dX5_beCopyOf_32 : decode cX5_beCopyOf 32 = .ok (.aload_n 0, 1) := by decide +kernel
theorem dX5_beCopyOf_33 : decode cX5_beCopyOf 33 = .ok (.aload_n 1, 1) := by decide +kernel
theorem dX5_beCopyOf_34 : decode cX5_beCopyOf 34 = .ok (.getfield 24, 3) := by decide +kernel
theorem dX5_beCopyOf_37 : decode cX5_beCopyOf 37 = .ok (.putfield 24, 3) := by decide +kernel
theorem dX5_beCopyOf_40 : decode cX5_beCopyOf 40 = .ok (.aload_n 0, 1) := by decide +kernel
theorem dX5_beCopyOf_41 : decode cX5_beCopyOf 41 = .ok (.aload_n 1, 1) := by decide +kernel
theorem dX5_beCopyOf_42 : decode cX5_beCopyOf 42 = .ok (.getfield 27, 3) := by decide +kernel
theorem dX5_beCopyOf_45 : decode cX5_beCopyOf 45 = .ok (.putfield 27, 3) := by decide +kernel
theorem dX5_beCopyOf_48 : decode cX5_beCopyOf 48 = .ok (.aload_n 0, 1) := by decide +kernel
theorem dX5_beCopyOf_49 : decode cX5_beCopyOf 49 = .ok (.aload_n 1, 1) := by decide +kernel
theorem dX5_beCopyOf_50 : decode cX5_beCopyOf 50 = .ok (.getfield 30, 3) := by decide +kernel
theorem dX5_beCopyOf_53 : decode cX5_beCopyOf 53 = .ok (.putfield 30, 3) := by decide +kernel
theorem dX5_beCopyOf_56 : decode cX5_beCopyOf 56 = .ok (.aload_n 0, 1) := by decide +kernel
theorem dX5_beCopyOf_57 : decode cX5_beCopyOf 57 = .ok (.aload_n 1, 1) := by decide +kernel
theorem dX5_beCopyOf_58 : decode cX5_beCopyOf 58 = .ok (.getfield 33, 3) := by decide +kernel
theorem dX5_beCopyOf_61 : decode cX5_beCopyOf 61 = .ok (.putfield 33, 3) := by decide +kernel
theorem dX5_beCopyOf_64 : decode cX5_beCopyOf 64 = .ok (.aload_n 0, 1) := by decide +kernel
theorem dX5_beCopyOf_65 : decode cX5_beCopyOf 65 = .ok (.aload_n 1, 1) := by decide +kernel
theorem dX5_beCopyOf_66 : decode cX5_beCopyOf 66 = .ok (.getfield 36, 3) := by decide +kernel
theorem dX5_beCopyOf_69 : decode cX5_beCopyOf 69 = .ok (.putfield 36, 3) := by decide +kernel
theorem dX5_beCopyOf_72 : decode cX5_beCopyOf 72 = .ok (.aload_n 0, 1) := by decide +kernel
theorem dX5_beCopyOf_73 : decode cX5_beCopyOf 73 = .ok (.aload_n 1, 1) := by decide +kernel
theorem dX5_beCopyOf_74 : decode cX5_beCopyOf 74 = .ok (.getfield 39, 3) := by decide +kernel
theorem dX5_beCopyOf_77 : decode cX5_beCopyOf 77 = .ok (.putfield 39, 3) := by decide +kernel
theorem dX5_beCopyOf_80 : decode cX5_beCopyOf 80 = .ok (.return_, 1) := by decide +kernel
theorem dX6_init_0 : decode cX6_init 0 = .ok (.aload_n 0, 1) := by decide +kernel
theorem dX6_init_1 : decode cX6_init 1 = .ok (.invokespecial 3, 3) := by decide +kernel
theorem dX6_init_4 : decode cX6_init 4 = .ok (.aload_n 0, 1) := by decide +kernel
theorem dX6_init_5 : decode cX6_init 5 = .ok (.sipush 200, 3) := by decide +kernel
theorem dX6_init_8 : decode cX6_init 8 = .ok (.newarray .char, 2) := by decide +kernel
theorem dX6_init_10 : decode cX6_init 10 = .ok (.putfield 9, 3) := by decide +kernel
theorem dX6_init_13 : decode cX6_init 13 = .ok (.aload_n 0, 1) := by decide +kernel
theorem dX6_init_14 : decode cX6_init 14 = .ok (.iconst 5, 1) := by decide +kernel
theorem dX6_init_15 : decode cX6_init 15 = .ok (.newarray .int, 2) := by decide +kernel
theorem dX6_init_17 : decode cX6_init 17 = .ok (.putfield 15, 3) := by decide +kernel
theorem dX6_init_20 : decode cX6_init 20 = .ok (.aload_n 0, 1) := by decide +kernel
theorem dX6_init_21 : decode cX6_init 21 = .ok (.iconst 0, 1) := by decide +kernel
theorem dX6_init_22 : decode cX6_init 22 = .ok (.putfield 19, 3) := by decide +kernel
theorem dX6_init_25 : decode cX6_init 25 = .ok (.aload_n 0, 1) := by decide +kernel
theorem dX6_init_26 : decode cX6_init 26 = .ok (.iconst 0, 1) := by decide +kernel
theorem dX6_init_27 : decode cX6_init 27 = .ok (.putfield 23, 3) := by decide +kernel
theorem dX6_init_30 : decode cX6_init 30 = .ok (.aload_n 0, 1) := by decide +kernel
theorem dX6_init_31 : decode cX6_init 31 = .ok (.iconst 0, 1) := by decide +kernel
theorem dX6_init_32 : decode cX6_init 32 = .ok (.putfield 26, 3) := by decide +kernel
theorem dX6_init_35 : decode cX6_init 35 = .ok (.aload_n 0, 1) := by decide +kernel
theorem dX6_init_36 : decode cX6_init 36 = .ok (.iconst (-1), 1) := by decide +kernel
theorem dX6_init_37 : decode cX6_init 37 = .ok (.putfield 29, 3) := by decide +kernel
theorem dX6_init_40 : decode cX6_init 40 = .ok (.aload_n 0, 1) := by decide +kernel
theorem dX6_init_41 : decode cX6_init 41 = .ok (.iconst 0, 1) := by decide +kernel
theorem dX6_init_42 : decode cX6_init 42 = .ok (.putfield 32, 3) := by decide +kernel
theorem dX6_init_45 : decode cX6_init 45 = .ok (.return_, 1) := by decide +kernel
theorem dX6_append_0 : decode cX6_append 0 = .ok (.aload_n 0, 1) := by decide +kernel
theorem dX6_append_1 : decode cX6_append 1 = .ok (.getfield 19, 3) := by decide +kernel
theorem dX6_append_4 : decode cX6_append 4 = .ok (.sipush 200, 3) := by decide +kernel
theorem dX6_append_7 : decode cX6_append 7 = .ok (.if_icmp .ge 23, 3) := by decide +kernel
theorem dX6_append_10 : decode cX6_append 10 = .ok (.aload_n 0, 1) := by decide +kernel
theorem dX6_append_11 : decode cX6_append 11 = .ok (.getfield 9, 3) := by decide +kernel
theorem dX6_append_14 : decode cX6_append 14 = .ok (.aload_n 0, 1) := by decide +kernel
theorem dX6_append_15 : decode cX6_append 15 = .ok (.getfield 19, 3) := by decide +kernel
theorem dX6_append_18 : decode cX6_append 18 = .ok (.iload_n 1, 1) := by decide +kernel
theorem dX6_append_19 : decode cX6_append 19 = .ok (.castore, 1) := by decide +kernel
theorem dX6_append_20 : decode cX6_append 20 = .ok (.aload_n 0, 1) := by decide +kernel
theorem dX6_append_21 : decode cX6_append 21 = .ok (.dup, 1) := by decide +kernel
theorem dX6_append_22 : decode cX6_append 22 = .ok (.getfield 19, 3) := by decide +kernel
theorem dX6_append_25 : decode cX6_append 25 = .ok (.iconst 1, 1) := by decide +kernel
theorem dX6_append_26 : decode cX6_append 26 = .ok (.iadd, 1) := by decide +kernel
theorem dX6_append_27 : decode cX6_append 27 = .ok (.putfield 19, 3) := by decide +kernel
theorem dX6_append_30 : decode cX6_append 30 = .ok (.return_, 1) := by decide +kernel
theorem dX6_rewind_0 : decode cX6_rewind 0 = .ok (.aload_n 0, 1) := by decide +kernel
theorem dX6_rewind_1 : decode cX6_rewind 1 = .ok (.iconst 0, 1) := by decide +kernel
theorem dX6_rewind_2 : decode cX6_rewind 2 = .ok (.putfield 23, 3) := by decide +kernel
theorem dX6_rewind_5 : decode cX6_rewind 5 = .ok (.aload_n 0, 1) := by decide +kernel
theorem dX6_rewind_6 : decode cX6_rewind 6 = .ok (.iconst 0, 1) := by decide +kernel
theorem dX6_rewind_7 : decode cX6_rewind 7 = .ok (.putfield 26, 3) := by decide +kernel
theorem dX6_rewind_10 : decode cX6_rewind 10 = .ok (.return_, 1) := by decide +kernel
theorem dX6_findFault_0 : decode cX6_findFault 0 = .ok (.aload_n 0, 1) := by decide +kernel
theorem dX6_findFault_1 : decode cX6_findFault 1 = .ok (.invokevirtual 35, 3) := by decide +kernel
theorem dX6_findFault_4 : decode cX6_findFault 4 = .ok (.iconst 1, 1) := by decide +kernel
theorem dX6_findFault_5 : decode cX6_findFault 5 = .ok (.istore_n 1, 1) := by decide +kernel
theorem dX6_findFault_6 : decode cX6_findFault 6 = .ok (.iload_n 1, 1) := by decide +kernel
theorem dX6_findFault_7 : decode cX6_findFault 7 = .ok (.bipush 24, 2) := by decide +kernel
theorem dX6_findFault_9 : decode cX6_findFault 9 = .ok (.if_icmp .gt 62, 3) := by decide +kernel
theorem dX6_findFault_12 : decode cX6_findFault 12 = .ok (.aload_n 0, 1) := by decide +kernel
theorem dX6_findFault_13 : decode cX6_findFault 13 = .ok (.invokevirtual 38, 3) := by decide +kernel
theorem dX6_findFault_16 : decode cX6_findFault 16 = .ok (.ifCond .ne 8, 3) := by decide +kernel
theorem dX6_findFault_19 : decode cX6_findFault 19 = .ok (.aload_n 0, 1) := by decide +kernel
theorem dX6_findFault_20 : decode cX6_findFault 20 = .ok (.getfield 23, 3) := by decide +kernel
theorem dX6_findFault_23 : decode cX6_findFault 23 = .ok (.ireturn, 1) := by decide +kernel
theorem dX6_findFault_24 : decode cX6_findFault 24 = .ok (.aload_n 0, 1) := by decide +kernel
theorem dX6_findFault_25 : decode cX6_findFault 25 = .ok (.invokevirtual 42, 3) := by decide +kernel
theorem dX6_findFault_28 : decode cX6_findFault 28 = .ok (.aload_n 0, 1) := by decide +kernel
theorem dX6_findFault_29 : decode cX6_findFault 29 = .ok (.getfield 23, 3) := by decide +kernel
theorem dX6_findFault_32 : decode cX6_findFault 32 = .ok (.aload_n 0, 1) := by decide +kernel
theorem dX6_findFault_33 : decode cX6_findFault 33 = .ok (.getfield 19, 3) := by decide +kernel
theorem dX6_findFault_36 : decode cX6_findFault 36 = .ok (.if_icmp .ne 10, 3) := by decide +kernel
theorem dX6_findFault_39 : decode cX6_findFault 39 = .ok (.aload_n 0, 1) := by decide +kernel
theorem dX6_findFault_40 : decode cX6_findFault 40 = .ok (.iload_n 1, 1) := by decide +kernel
theorem dX6_findFault_41 : decode cX6_findFault 41 = .ok (.putfield 32, 3) := by decide +kernel
theorem dX6_findFault_44 : decode cX6_findFault 44 = .ok (.iconst (-1), 1) := by decide +kernel
theorem dX6_findFault_45 : decode cX6_findFault 45 = .ok (.ireturn, 1) := by decide +kernel
theorem dX6_findFault_46 : decode cX6_findFault 46 = .ok (.aload_n 0, 1) := by decide +kernel
theorem dX6_findFault_47 : decode cX6_findFault 47 = .ok (.getfield 9, 3) := by decide +kernel
theorem dX6_findFault_50 : decode cX6_findFault 50 = .ok (.aload_n 0, 1) := by decide +kernel
theorem dX6_findFault_51 : decode cX6_findFault 51 = .ok (.getfield 23, 3) := by decide +kernel
theorem dX6_findFault_54 : decode cX6_findFault 54 = .ok (.caload, 1) := by decide +kernel
theorem dX6_findFault_55 : decode cX6_findFault 55 = .ok (.bipush 59, 2) := by decide +kernel
theorem dX6_findFault_57 : decode cX6_findFault 57 = .ok (.if_icmp .eq 8, 3) := by decide +kernel
theorem dX6_findFault_60 : decode cX6_findFault 60 = .ok (.aload_n 0, 1) := by decide +kernel
theorem dX6_findFault_61 : decode cX6_findFault 61 = .ok (.getfield 23, 3) := by decide +kernel
theorem dX6_findFault_64 : decode cX6_findFault 64 = .ok (.ireturn, 1) := by decide +kernel
theorem dX6_findFault_65 : decode cX6_findFault 65 = .ok (.iinc 1 1, 3) := by decide +kernel
theorem dX6_findFault_68 : decode cX6_findFault 68 = .ok (.goto (-62), 3) := by decide +kernel
theorem dX6_findFault_71 : decode cX6_findFault 71 = .ok (.aload_n 0, 1) := by decide +kernel
theorem dX6_findFault_72 : decode cX6_findFault 72 = .ok (.getfield 23, 3) := by decide +kernel
theorem dX6_findFault_75 : decode cX6_findFault 75 = .ok (.ireturn, 1) := by decide +kernel
theorem dX6_readClause_0 : decode cX6_readClause 0 = .ok (.aload_n 0, 1) := by decide +kernel
theorem dX6_readClause_1 : decode cX6_readClause 1 = .ok (.invokevirtual 42, 3) := by decide +kernel
theorem dX6_readClause_4 : decode cX6_readClause 4 = .ok (.aload_n 0, 1) := by decide +kernel
theorem dX6_readClause_5 : decode cX6_readClause 5 = .ok (.aload_n 0, 1) := by decide +kernel
theorem dX6_readClause_6 : decode cX6_readClause 6 = .ok (.invokevirtual 45, 3) := by decide +kernel
theorem dX6_readClause_9 : decode cX6_readClause 9 = .ok (.putfield 29, 3) := by decide +kernel
theorem dX6_readClause_12 : decode cX6_readClause 12 = .ok (.aload_n 0, 1) := by decide +kernel
theorem dX6_readClause_13 : decode cX6_readClause 13 = .ok (.getfield 29, 3) := by decide +kernel
theorem dX6_readClause_16 : decode cX6_readClause 16 = .ok (.tableswitch 219 0 5 #[40, 42, 108, 147, 174, 211], 40) := by decide +kernel
theorem dX6_readClause_56 : decode cX6_readClause 56 = .ok (.iconst 1, 1) := by decide +kernel
theorem dX6_readClause_57 : decode cX6_readClause 57 = .ok (.ireturn, 1) := by decide +kernel
theorem dX6_readClause_58 : decode cX6_readClause 58 = .ok (.aload_n 0, 1) := by decide +kernel
theorem dX6_readClause_59 : decode cX6_readClause 59 = .ok (.iconst 0, 1) := by decide +kernel
theorem dX6_readClause_60 : decode cX6_readClause 60 = .ok (.iconst 0, 1) := by decide +kernel
theorem dX6_readClause_61 : decode cX6_readClause 61 = .ok (.iconst 1, 1) := by decide +kernel
theorem dX6_readClause_62 : decode cX6_readClause 62 = .ok (.invokevirtual 49, 3) := by decide +kernel
theorem dX6_readClause_65 : decode cX6_readClause 65 = .ok (.ifCond .eq 57, 3) := by decide +kernel
theorem dX6_readClause_68 : decode cX6_readClause 68 = .ok (.aload_n 0, 1) := by decide +kernel
theorem dX6_readClause_69 : decode cX6_readClause 69 = .ok (.iconst 1, 1) := by decide +kernel
theorem dX6_readClause_70 : decode cX6_readClause 70 = .ok (.iconst 0, 1) := by decide +kernel
theorem dX6_readClause_71 : decode cX6_readClause 71 = .ok (.iconst 3, 1) := by decide +kernel
theorem dX6_readClause_72 : decode cX6_readClause 72 = .ok (.invokevirtual 49, 3) := by decide +kernel
theorem dX6_readClause_75 : decode cX6_readClause 75 = .ok (.ifCond .eq 47, 3) := by decide +kernel
theorem dX6_readClause_78 : decode cX6_readClause 78 = .ok (.aload_n 0, 1) := by decide +kernel
theorem dX6_readClause_79 : decode cX6_readClause 79 = .ok (.iconst 2, 1) := by decide +kernel
theorem dX6_readClause_80 : decode cX6_readClause 80 = .ok (.iconst 0, 1) := by decide +kernel
theorem dX6_readClause_81 : decode cX6_readClause 81 = .ok (.bipush 11, 2) := by decide +kernel
theorem dX6_readClause_83 : decode cX6_readClause 83 = .ok (.invokevirtual 49, 3) := by decide +kernel
theorem dX6_readClause_86 : decode cX6_readClause 86 = .ok (.ifCond .eq 36, 3) := by decide +kernel
theorem dX6_readClause_89 : decode cX6_readClause 89 = .ok (.aload_n 0, 1) := by decide +kernel
theorem dX6_readClause_90 : decode cX6_readClause 90 = .ok (.iconst 3, 1) := by decide +kernel
theorem dX6_readClause_91 : decode cX6_readClause 91 = .ok (.iconst 1, 1) := by decide +kernel
theorem dX6_readClause_92 : decode cX6_readClause 92 = .ok (.bipush 12, 2) := by decide +kernel
theorem dX6_readClause_94 : decode cX6_readClause 94 = .ok (.aload_n 0, 1) := by decide +kernel
theorem dX6_readClause_95 : decode cX6_readClause 95 = .ok (.getfield 15, 3) := by decide +kernel
theorem dX6_readClause_98 : decode cX6_readClause 98 = .ok (.iconst 2, 1) := by decide +kernel
theorem dX6_readClause_99 : decode cX6_readClause 99 = .ok (.iaload, 1) := by decide +kernel
theorem dX6_readClause_100 : decode cX6_readClause 100 = .ok (.isub, 1) := by decide +kernel
theorem dX6_readClause_101 : decode cX6_readClause 101 = .ok (.invokevirtual 49, 3) := by decide +kernel
theorem dX6_readClause_104 : decode cX6_readClause 104 = .ok (.ifCond .eq 18, 3) := by decide +kernel
theorem dX6_readClause_107 : decode cX6_readClause 107 = .ok (.aload_n 0, 1) := by decide +kernel
theorem dX6_readClause_108 : decode cX6_readClause 108 = .ok (.iconst 4, 1) := by decide +kernel
theorem dX6_readClause_109 : decode cX6_readClause 109 = .ok (.iconst 0, 1) := by decide +kernel
theorem dX6_readClause_110 : decode cX6_readClause 110 = .ok (.bipush 7, 2) := by decide +kernel
theorem dX6_readClause_112 : decode cX6_readClause 112 = .ok (.invokevirtual 49, 3) := by decide +kernel
theorem dX6_readClause_115 : decode cX6_readClause 115 = .ok (.ifCond .eq 7, 3) := by decide +kernel
theorem dX6_readClause_118 : decode cX6_readClause 118 = .ok (.iconst 1, 1) := by decide +kernel
theorem dX6_readClause_119 : decode cX6_readClause 119 = .ok (.goto 4, 3) := by decide +kernel
theorem dX6_readClause_122 : decode cX6_readClause 122 = .ok (.iconst 0, 1) := by decide +kernel
theorem dX6_readClause_123 : decode cX6_readClause 123 = .ok (.ireturn, 1) := by decide +kernel
theorem dX6_readClause_124 : decode cX6_readClause 124 = .ok (.aload_n 0, 1) := by decide +kernel
theorem dX6_readClause_125 : decode cX6_readClause 125 = .ok (.iconst 0, 1) := by decide +kernel
theorem dX6_readClause_126 : decode cX6_readClause 126 = .ok (.iconst 0, 1) := by decide +kernel
theorem dX6_readClause_127 : decode cX6_readClause 127 = .ok (.iconst 1, 1) := by decide +kernel
theorem dX6_readClause_128 : decode cX6_readClause 128 = .ok (.invokevirtual 49, 3) := by decide +kernel
theorem dX6_readClause_131 : decode cX6_readClause 131 = .ok (.ifCond .eq 30, 3) := by decide +kernel
theorem dX6_readClause_134 : decode cX6_readClause 134 = .ok (.aload_n 0, 1) := by decide +kernel
theorem dX6_readClause_135 : decode cX6_readClause 135 = .ok (.iconst 1, 1) := by decide +kernel
theorem dX6_readClause_136 : decode cX6_readClause 136 = .ok (.iconst 0, 1) := by decide +kernel
theorem dX6_readClause_137 : decode cX6_readClause 137 = .ok (.bipush 11, 2) := by decide +kernel
theorem dX6_readClause_139 : decode cX6_readClause 139 = .ok (.invokevirtual 49, 3) := by decide +kernel
theorem dX6_readClause_142 : decode cX6_readClause 142 = .ok (.ifCond .eq 19, 3) := by decide +kernel
theorem dX6_readClause_145 : decode cX6_readClause 145 = .ok (.aload_n 0, 1) := by decide +kernel
theorem dX6_readClause_146 : decode cX6_readClause 146 = .ok (.iconst 2, 1) := by decide +kernel
theorem dX6_readClause_147 : decode cX6_readClause 147 = .ok (.iconst 0, 1) := by decide +kernel
theorem dX6_readClause_148 : decode cX6_readClause 148 = .ok (.sipush 9999, 3) := by decide +kernel
theorem dX6_readClause_151 : decode cX6_readClause 151 = .ok (.invokevirtual 49, 3) := by decide +kernel
theorem dX6_readClause_154 : decode cX6_readClause 154 = .ok (.ifCond .eq 7, 3) := by decide +kernel
theorem dX6_readClause_157 : decode cX6_readClause 157 = .ok (.iconst 1, 1) := by decide +kernel
theorem dX6_readClause_158 : decode cX6_readClause 158 = .ok (.goto 4, 3) := by decide +kernel
theorem dX6_readClause_161 : decode cX6_readClause 161 = .ok (.iconst 0, 1) := by decide +kernel
theorem dX6_readClause_162 : decode cX6_readClause 162 = .ok (.ireturn, 1) := by decide +kernel
theorem dX6_readClause_163 : decode cX6_readClause 163 = .ok (.aload_n 0, 1) := by decide +kernel
theorem dX6_readClause_164 : decode cX6_readClause 164 = .ok (.iconst 0, 1) := by decide +kernel
theorem dX6_readClause_165 : decode cX6_readClause 165 = .ok (.iconst 0, 1) := by decide +kernel
theorem dX6_readClause_166 : decode cX6_readClause 166 = .ok (.iconst 1, 1) := by decide +kernel
theorem dX6_readClause_167 : decode cX6_readClause 167 = .ok (.invokevirtual 49, 3) := by decide +kernel
theorem dX6_readClause_170 : decode cX6_readClause 170 = .ok (.ifCond .eq 18, 3) := by decide +kernel
theorem dX6_readClause_173 : decode cX6_readClause 173 = .ok (.aload_n 0, 1) := by decide +kernel
theorem dX6_readClause_174 : decode cX6_readClause 174 = .ok (.iconst 1, 1) := by decide +kernel
theorem dX6_readClause_175 : decode cX6_readClause 175 = .ok (.iconst 1, 1) := by decide +kernel
theorem dX6_readClause_176 : decode cX6_readClause 176 = .ok (.bipush 9, 2) := by decide +kernel
theorem dX6_readClause_178 : decode cX6_readClause 178 = .ok (.invokevirtual 49, 3) := by decide +kernel
theorem dX6_readClause_181 : decode cX6_readClause 181 = .ok (.ifCond .eq 7, 3) := by decide +kernel
theorem dX6_readClause_184 : decode cX6_readClause 184 = .ok (.iconst 1, 1) := by decide +kernel
theorem dX6_readClause_185 : decode cX6_readClause 185 = .ok (.goto 4, 3) := by decide +kernel
theorem dX6_readClause_188 : decode cX6_readClause 188 = .ok (.iconst 0, 1) := by decide +kernel
theorem dX6_readClause_189 : decode cX6_readClause 189 = .ok (.ireturn, 1) := by decide +kernel
theorem dX6_readClause_190 : decode cX6_readClause 190 = .ok (.aload_n 0, 1) := by decide +kernel
theorem dX6_readClause_191 : decode cX6_readClause 191 = .ok (.iconst 0, 1) := by decide +kernel
theorem dX6_readClause_192 : decode cX6_readClause 192 = .ok (.iconst 0, 1) := by decide +kernel
theorem dX6_readClause_193 : decode cX6_readClause 193 = .ok (.iconst 3, 1) := by decide +kernel
theorem dX6_readClause_194 : decode cX6_readClause 194 = .ok (.invokevirtual 49, 3) := by decide +kernel
theorem dX6_readClause_197 : decode cX6_readClause 197 = .ok (.ifCond .eq 28, 3) := by decide +kernel
theorem dX6_readClause_200 : decode cX6_readClause 200 = .ok (.aload_n 0, 1) := by decide +kernel
theorem dX6_readClause_201 : decode cX6_readClause 201 = .ok (.iconst 1, 1) := by decide +kernel
theorem dX6_readClause_202 : decode cX6_readClause 202 = .ok (.iconst 0, 1) := by decide +kernel
theorem dX6_readClause_203 : decode cX6_readClause 203 = .ok (.iconst 3, 1) := by decide +kernel
theorem dX6_readClause_204 : decode cX6_readClause 204 = .ok (.invokevirtual 49, 3) := by decide +kernel
theorem dX6_readClause_207 : decode cX6_readClause 207 = .ok (.ifCond .eq 18, 3) := by decide +kernel
theorem dX6_readClause_210 : decode cX6_readClause 210 = .ok (.aload_n 0, 1) := by decide +kernel
theorem dX6_readClause_211 : decode cX6_readClause 211 = .ok (.iconst 2, 1) := by decide +kernel
theorem dX6_readClause_212 : decode cX6_readClause 212 = .ok (.iconst 0, 1) := by decide +kernel
theorem dX6_readClause_213 : decode cX6_readClause 213 = .ok (.bipush 11, 2) := by decide +kernel
theorem dX6_readClause_215 : decode cX6_readClause 215 = .ok (.invokevirtual 49, 3) := by decide +kernel
theorem dX6_readClause_218 : decode cX6_readClause 218 = .ok (.ifCond .eq 7, 3) := by decide +kernel
theorem dX6_readClause_221 : decode cX6_readClause 221 = .ok (.iconst 1, 1) := by decide +kernel
theorem dX6_readClause_222 : decode cX6_readClause 222 = .ok (.goto 4, 3) := by decide +kernel
theorem dX6_readClause_225 : decode cX6_readClause 225 = .ok (.iconst 0, 1) := by decide +kernel
theorem dX6_readClause_226 : decode cX6_readClause 226 = .ok (.ireturn, 1) := by decide +kernel
theorem dX6_readClause_227 : decode cX6_readClause 227 = .ok (.aload_n 0, 1) := by decide +kernel
theorem dX6_readClause_228 : decode cX6_readClause 228 = .ok (.iconst 0, 1) := by decide +kernel
theorem dX6_readClause_229 : decode cX6_readClause 229 = .ok (.iconst 0, 1) := by decide +kernel
theorem dX6_readClause_230 : decode cX6_readClause 230 = .ok (.iconst 1, 1) := by decide +kernel
theorem dX6_readClause_231 : decode cX6_readClause 231 = .ok (.invokevirtual 49, 3) := by decide +kernel
theorem dX6_readClause_234 : decode cX6_readClause 234 = .ok (.ireturn, 1) := by decide +kernel
theorem dX6_readClause_235 : decode cX6_readClause 235 = .ok (.iconst 0, 1) := by decide +kernel
theorem dX6_readClause_236 : decode cX6_readClause 236 = .ok (.ireturn, 1) := by decide +kernel
theorem dX6_nextToken_0 : decode cX6_nextToken 0 = .ok (.aload_n 0, 1) := by decide +kernel
theorem dX6_nextToken_1 : decode cX6_nextToken 1 = .ok (.aload_n 0, 1) := by decide +kernel
theorem dX6_nextToken_2 : decode cX6_nextToken 2 = .ok (.getfield 26, 3) := by decide +kernel
theorem dX6_nextToken_5 : decode cX6_nextToken 5 = .ok (.putfield 23, 3) := by decide +kernel
theorem dX6_nextToken_8 : decode cX6_nextToken 8 = .ok (.aload_n 0, 1) := by decide +kernel
theorem dX6_nextToken_9 : decode cX6_nextToken 9 = .ok (.getfield 23, 3) := by decide +kernel
theorem dX6_nextToken_12 : decode cX6_nextToken 12 = .ok (.aload_n 0, 1) := by decide +kernel
theorem dX6_nextToken_13 : decode cX6_nextToken 13 = .ok (.getfield 19, 3) := by decide +kernel
theorem dX6_nextToken_16 : decode cX6_nextToken 16 = .ok (.if_icmp .ge 30, 3) := by decide +kernel
theorem dX6_nextToken_19 : decode cX6_nextToken 19 = .ok (.aload_n 0, 1) := by decide +kernel
theorem dX6_nextToken_20 : decode cX6_nextToken 20 = .ok (.getfield 9, 3) := by decide +kernel
theorem dX6_nextToken_23 : decode cX6_nextToken 23 = .ok (.aload_n 0, 1) := by decide +kernel
theorem dX6_nextToken_24 : decode cX6_nextToken 24 = .ok (.getfield 23, 3) := by decide +kernel
theorem dX6_nextToken_27 : decode cX6_nextToken 27 = .ok (.caload, 1) := by decide +kernel
theorem dX6_nextToken_28 : decode cX6_nextToken 28 = .ok (.bipush 32, 2) := by decide +kernel
theorem dX6_nextToken_30 : decode cX6_nextToken 30 = .ok (.if_icmp .ne 16, 3) := by decide +kernel
theorem dX6_nextToken_33 : decode cX6_nextToken 33 = .ok (.aload_n 0, 1) := by decide +kernel
theorem dX6_nextToken_34 : decode cX6_nextToken 34 = .ok (.dup, 1) := by decide +kernel
theorem dX6_nextToken_35 : decode cX6_nextToken 35 = .ok (.getfield 23, 3) := by decide +kernel
theorem dX6_nextToken_38 : decode cX6_nextToken 38 = .ok (.iconst 1, 1) := by decide +kernel
theorem dX6_nextToken_39 : decode cX6_nextToken 39 = .ok (.iadd, 1) := by decide +kernel
theorem dX6_nextToken_40 : decode cX6_nextToken 40 = .ok (.putfield 23, 3) := by decide +kernel
theorem dX6_nextToken_43 : decode cX6_nextToken 43 = .ok (.goto (-35), 3) := by decide +kernel
theorem dX6_nextToken_46 : decode cX6_nextToken 46 = .ok (.aload_n 0, 1) := by decide +kernel
theorem dX6_nextToken_47 : decode cX6_nextToken 47 = .ok (.aload_n 0, 1) := by decide +kernel
theorem dX6_nextToken_48 : decode cX6_nextToken 48 = .ok (.getfield 23, 3) := by decide +kernel
theorem dX6_nextToken_51 : decode cX6_nextToken 51 = .ok (.putfield 26, 3) := by decide +kernel
theorem dX6_nextToken_54 : decode cX6_nextToken 54 = .ok (.aload_n 0, 1) := by decide +kernel
theorem dX6_nextToken_55 : decode cX6_nextToken 55 = .ok (.getfield 23, 3) := by decide +kernel
theorem dX6_nextToken_58 : decode cX6_nextToken 58 = .ok (.aload_n 0, 1) := by decide +kernel
theorem dX6_nextToken_59 : decode cX6_nextToken 59 = .ok (.getfield 19, 3) := by decide +kernel
theorem dX6_nextToken_62 : decode cX6_nextToken 62 = .ok (.if_icmp .lt 4, 3) := by decide +kernel
theorem dX6_nextToken_65 : decode cX6_nextToken 65 = .ok (.return_, 1) := by decide +kernel
theorem dX6_nextToken_66 : decode cX6_nextToken 66 = .ok (.aload_n 0, 1) := by decide +kernel
theorem dX6_nextToken_67 : decode cX6_nextToken 67 = .ok (.getfield 9, 3) := by decide +kernel
theorem dX6_nextToken_70 : decode cX6_nextToken 70 = .ok (.aload_n 0, 1) := by decide +kernel
theorem dX6_nextToken_71 : decode cX6_nextToken 71 = .ok (.getfield 23, 3) := by decide +kernel
theorem dX6_nextToken_74 : decode cX6_nextToken 74 = .ok (.caload, 1) := by decide +kernel
theorem dX6_nextToken_75 : decode cX6_nextToken 75 = .ok (.istore_n 1, 1) := by decide +kernel
theorem dX6_nextToken_76 : decode cX6_nextToken 76 = .ok (.aload_n 0, 1) := by decide +kernel
theorem dX6_nextToken_77 : decode cX6_nextToken 77 = .ok (.dup, 1) := by decide +kernel
theorem dX6_nextToken_78 : decode cX6_nextToken 78 = .ok (.getfield 26, 3) := by decide +kernel
theorem dX6_nextToken_81 : decode cX6_nextToken 81 = .ok (.iconst 1, 1) := by decide +kernel
theorem dX6_nextToken_82 : decode cX6_nextToken 82 = .ok (.iadd, 1) := by decide +kernel
theorem dX6_nextToken_83 : decode cX6_nextToken 83 = .ok (.putfield 26, 3) := by decide +kernel
theorem dX6_nextToken_86 : decode cX6_nextToken 86 = .ok (.iload_n 1, 1) := by decide +kernel
theorem dX6_nextToken_87 : decode cX6_nextToken 87 = .ok (.invokestatic 53, 3) := by decide +kernel
theorem dX6_nextToken_90 : decode cX6_nextToken 90 = .ok (.ifCond .ne 11, 3) := by decide +kernel
theorem dX6_nextToken_93 : decode cX6_nextToken 93 = .ok (.iload_n 1, 1) := by decide +kernel
theorem dX6_nextToken_94 : decode cX6_nextToken 94 = .ok (.invokestatic 57, 3) := by decide +kernel
theorem dX6_nextToken_97 : decode cX6_nextToken 97 = .ok (.ifCond .ne 4, 3) := by decide +kernel
theorem dX6_nextToken_100 : decode cX6_nextToken 100 = .ok (.return_, 1) := by decide +kernel
theorem dX6_nextToken_101 : decode cX6_nextToken 101 = .ok (.aload_n 0, 1) := by decide +kernel
theorem dX6_nextToken_102 : decode cX6_nextToken 102 = .ok (.getfield 26, 3) := by decide +kernel
theorem dX6_nextToken_105 : decode cX6_nextToken 105 = .ok (.aload_n 0, 1) := by decide +kernel
theorem dX6_nextToken_106 : decode cX6_nextToken 106 = .ok (.getfield 19, 3) := by decide +kernel
theorem dX6_nextToken_109 : decode cX6_nextToken 109 = .ok (.if_icmp .ge 32, 3) := by decide +kernel
theorem dX6_nextToken_112 : decode cX6_nextToken 112 = .ok (.iload_n 1, 1) := by decide +kernel
theorem dX6_nextToken_113 : decode cX6_nextToken 113 = .ok (.aload_n 0, 1) := by decide +kernel
theorem dX6_nextToken_114 : decode cX6_nextToken 114 = .ok (.getfield 9, 3) := by decide +kernel
theorem dX6_nextToken_117 : decode cX6_nextToken 117 = .ok (.aload_n 0, 1) := by decide +kernel
theorem dX6_nextToken_118 : decode cX6_nextToken 118 = .ok (.getfield 26, 3) := by decide +kernel
theorem dX6_nextToken_121 : decode cX6_nextToken 121 = .ok (.caload, 1) := by decide +kernel
theorem dX6_nextToken_122 : decode cX6_nextToken 122 = .ok (.invokestatic 60, 3) := by decide +kernel
theorem dX6_nextToken_125 : decode cX6_nextToken 125 = .ok (.ifCond .eq 16, 3) := by decide +kernel
theorem dX6_nextToken_128 : decode cX6_nextToken 128 = .ok (.aload_n 0, 1) := by decide +kernel
theorem dX6_nextToken_129 : decode cX6_nextToken 129 = .ok (.dup, 1) := by decide +kernel
theorem dX6_nextToken_130 : decode cX6_nextToken 130 = .ok (.getfield 26, 3) := by decide +kernel
theorem dX6_nextToken_133 : decode cX6_nextToken 133 = .ok (.iconst 1, 1) := by decide +kernel
theorem dX6_nextToken_134 : decode cX6_nextToken 134 = .ok (.iadd, 1) := by decide +kernel
theorem dX6_nextToken_135 : decode cX6_nextToken 135 = .ok (.putfield 26, 3) := by decide +kernel
theorem dX6_nextToken_138 : decode cX6_nextToken 138 = .ok (.goto (-37), 3) := by decide +kernel
theorem dX6_nextToken_141 : decode cX6_nextToken 141 = .ok (.return_, 1) := by decide +kernel
theorem dX6_isSmall_0 : decode cX6_isSmall 0 = .ok (.iload_n 0, 1) := by decide +kernel
theorem dX6_isSmall_1 : decode cX6_isSmall 1 = .ok (.bipush 97, 2) := by decide +kernel
theorem dX6_isSmall_3 : decode cX6_isSmall 3 = .ok (.if_icmp .lt 13, 3) := by decide +kernel
theorem dX6_isSmall_6 : decode cX6_isSmall 6 = .ok (.iload_n 0, 1) := by decide +kernel
theorem dX6_isSmall_7 : decode cX6_isSmall 7 = .ok (.bipush 122, 2) := by decide +kernel
theorem dX6_isSmall_9 : decode cX6_isSmall 9 = .ok (.if_icmp .gt 7, 3) := by decide +kernel
theorem dX6_isSmall_12 : decode cX6_isSmall 12 = .ok (.iconst 1, 1) := by decide +kernel
theorem dX6_isSmall_13 : decode cX6_isSmall 13 = .ok (.goto 4, 3) := by decide +kernel
theorem dX6_isSmall_16 : decode cX6_isSmall 16 = .ok (.iconst 0, 1) := by decide +kernel
theorem dX6_isSmall_17 : decode cX6_isSmall 17 = .ok (.ireturn, 1) := by decide +kernel
theorem dX6_isDigit_0 : decode cX6_isDigit 0 = .ok (.iload_n 0, 1) := by decide +kernel
theorem dX6_isDigit_1 : decode cX6_isDigit 1 = .ok (.bipush 48, 2) := by decide +kernel
theorem dX6_isDigit_3 : decode cX6_isDigit 3 = .ok (.if_icmp .lt 13, 3) := by decide +kernel
theorem dX6_isDigit_6 : decode cX6_isDigit 6 = .ok (.iload_n 0, 1) := by decide +kernel
theorem dX6_isDigit_7 : decode cX6_isDigit 7 = .ok (.bipush 57, 2) := by decide +kernel
theorem dX6_isDigit_9 : decode cX6_isDigit 9 = .ok (.if_icmp .gt 7, 3) := by decide +kernel
theorem dX6_isDigit_12 : decode cX6_isDigit 12 = .ok (.iconst 1, 1) := by decide +kernel
theorem dX6_isDigit_13 : decode cX6_isDigit 13 = .ok (.goto 4, 3) := by decide +kernel
theorem dX6_isDigit_16 : decode cX6_isDigit 16 = .ok (.iconst 0, 1) := by decide +kernel
theorem dX6_isDigit_17 : decode cX6_isDigit 17 = .ok (.ireturn, 1) := by decide +kernel
theorem dX6_isAlike_0 : decode cX6_isAlike 0 = .ok (.iload_n 0, 1) := by decide +kernel
theorem dX6_isAlike_1 : decode cX6_isAlike 1 = .ok (.invokestatic 53, 3) := by decide +kernel
theorem dX6_isAlike_4 : decode cX6_isAlike 4 = .ok (.ifCond .eq 10, 3) := by decide +kernel
theorem dX6_isAlike_7 : decode cX6_isAlike 7 = .ok (.iload_n 1, 1) := by decide +kernel
theorem dX6_isAlike_8 : decode cX6_isAlike 8 = .ok (.invokestatic 53, 3) := by decide +kernel
theorem dX6_isAlike_11 : decode cX6_isAlike 11 = .ok (.goto 7, 3) := by decide +kernel
theorem dX6_isAlike_14 : decode cX6_isAlike 14 = .ok (.iload_n 1, 1) := by decide +kernel
theorem dX6_isAlike_15 : decode cX6_isAlike 15 = .ok (.invokestatic 57, 3) := by decide +kernel
theorem dX6_isAlike_18 : decode cX6_isAlike 18 = .ok (.ireturn, 1) := by decide +kernel
theorem dX6_wordOfToken_0 : decode cX6_wordOfToken 0 = .ok (.aload_n 0, 1) := by decide +kernel
theorem dX6_wordOfToken_1 : decode cX6_wordOfToken 1 = .ok (.ldc 64, 2) := by decide +kernel
theorem dX6_wordOfToken_3 : decode cX6_wordOfToken 3 = .ok (.invokevirtual 66, 3) := by decide +kernel
theorem dX6_wordOfToken_6 : decode cX6_wordOfToken 6 = .ok (.ifCond .eq 5, 3) := by decide +kernel
theorem dX6_wordOfToken_9 : decode cX6_wordOfToken 9 = .ok (.iconst 0, 1) := by decide +kernel
theorem dX6_wordOfToken_10 : decode cX6_wordOfToken 10 = .ok (.ireturn, 1) := by decide +kernel
theorem dX6_wordOfToken_11 : decode cX6_wordOfToken 11 = .ok (.aload_n 0, 1) := by decide +kernel
theorem dX6_wordOfToken_12 : decode cX6_wordOfToken 12 = .ok (.ldc 70, 2) := by decide +kernel
theorem dX6_wordOfToken_14 : decode cX6_wordOfToken 14 = .ok (.invokevirtual 66, 3) := by decide +kernel
theorem dX6_wordOfToken_17 : decode cX6_wordOfToken 17 = .ok (.ifCond .eq 5, 3) := by decide +kernel
theorem dX6_wordOfToken_20 : decode cX6_wordOfToken 20 = .ok (.iconst 1, 1) := by decide +kernel
theorem dX6_wordOfToken_21 : decode cX6_wordOfToken 21 = .ok (.ireturn, 1) := by decide +kernel
theorem dX6_wordOfToken_22 : decode cX6_wordOfToken 22 = .ok (.aload_n 0, 1) := by decide +kernel
theorem dX6_wordOfToken_23 : decode cX6_wordOfToken 23 = .ok (.ldc 72, 2) := by decide +kernel
theorem dX6_wordOfToken_25 : decode cX6_wordOfToken 25 = .ok (.invokevirtual 66, 3) := by decide +kernel
theorem dX6_wordOfToken_28 : decode cX6_wordOfToken 28 = .ok (.ifCond .eq 5, 3) := by decide +kernel
theorem dX6_wordOfToken_31 : decode cX6_wordOfToken 31 = .ok (.iconst 2, 1) := by decide +kernel
theorem dX6_wordOfToken_32 : decode cX6_wordOfToken 32 = .ok (.ireturn, 1) := by decide +kernel
theorem dX6_wordOfToken_33 : decode cX6_wordOfToken 33 = .ok (.aload_n 0, 1) := by decide +kernel
theorem dX6_wordOfToken_34 : decode cX6_wordOfToken 34 = .ok (.ldc 74, 2) := by decide +kernel
theorem dX6_wordOfToken_36 : decode cX6_wordOfToken 36 = .ok (.invokevirtual 66, 3) := by decide +kernel
theorem dX6_wordOfToken_39 : decode cX6_wordOfToken 39 = .ok (.ifCond .eq 5, 3) := by decide +kernel
theorem dX6_wordOfToken_42 : decode cX6_wordOfToken 42 = .ok (.iconst 3, 1) := by decide +kernel
theorem dX6_wordOfToken_43 : decode cX6_wordOfToken 43 = .ok (.ireturn, 1) := by decide +kernel
theorem dX6_wordOfToken_44 : decode cX6_wordOfToken 44 = .ok (.aload_n 0, 1) := by decide +kernel
theorem dX6_wordOfToken_45 : decode cX6_wordOfToken 45 = .ok (.ldc 76, 2) := by decide +kernel
theorem dX6_wordOfToken_47 : decode cX6_wordOfToken 47 = .ok (.invokevirtual 66, 3) := by decide +kernel
theorem dX6_wordOfToken_50 : decode cX6_wordOfToken 50 = .ok (.ifCond .eq 5, 3) := by decide +kernel
theorem dX6_wordOfToken_53 : decode cX6_wordOfToken 53 = .ok (.iconst 4, 1) := by decide +kernel
theorem dX6_wordOfToken_54 : decode cX6_wordOfToken 54 = .ok (.ireturn, 1) := by decide +kernel
theorem dX6_wordOfToken_55 : decode cX6_wordOfToken 55 = .ok (.aload_n 0, 1) := by decide +kernel
theorem dX6_wordOfToken_56 : decode cX6_wordOfToken 56 = .ok (.ldc 78, 2) := by decide +kernel
theorem dX6_wordOfToken_58 : decode cX6_wordOfToken 58 = .ok (.invokevirtual 66, 3) := by decide +kernel
theorem dX6_wordOfToken_61 : decode cX6_wordOfToken 61 = .ok (.ifCond .eq 7, 3) := by decide +kernel
theorem dX6_wordOfToken_64 : decode cX6_wordOfToken 64 = .ok (.iconst 5, 1) := by decide +kernel
theorem dX6_wordOfToken_65 : decode cX6_wordOfToken 65 = .ok (.goto 4, 3) := by decide +kernel
theorem dX6_wordOfToken_68 : decode cX6_wordOfToken 68 = .ok (.iconst (-1), 1) := by decide +kernel
theorem dX6_wordOfToken_69 : decode cX6_wordOfToken 69 = .ok (.ireturn, 1) := by decide +kernel
theorem dX6_isToken_0 : decode cX6_isToken 0 = .ok (.aload_n 0, 1) := by decide +kernel
theorem dX6_isToken_1 : decode cX6_isToken 1 = .ok (.getfield 26, 3) := by decide +kernel
theorem dX6_isToken_4 : decode cX6_isToken 4 = .ok (.aload_n 0, 1) := by decide +kernel
theorem dX6_isToken_5 : decode cX6_isToken 5 = .ok (.getfield 23, 3) := by decide +kernel
theorem dX6_isToken_8 : decode cX6_isToken 8 = .ok (.isub, 1) := by decide +kernel
theorem dX6_isToken_9 : decode cX6_isToken 9 = .ok (.aload_n 1, 1) := by decide +kernel
theorem dX6_isToken_10 : decode cX6_isToken 10 = .ok (.invokevirtual 80, 3) := by decide +kernel
theorem dX6_isToken_13 : decode cX6_isToken 13 = .ok (.if_icmp .eq 5, 3) := by decide +kernel
theorem dX6_isToken_16 : decode cX6_isToken 16 = .ok (.iconst 0, 1) := by decide +kernel
theorem dX6_isToken_17 : decode cX6_isToken 17 = .ok (.ireturn, 1) := by decide +kernel
theorem dX6_isToken_18 : decode cX6_isToken 18 = .ok (.iconst 0, 1) := by decide +kernel
theorem dX6_isToken_19 : decode cX6_isToken 19 = .ok (.istore_n 2, 1) := by decide +kernel
theorem dX6_isToken_20 : decode cX6_isToken 20 = .ok (.iload_n 2, 1) := by decide +kernel
theorem dX6_isToken_21 : decode cX6_isToken 21 = .ok (.aload_n 1, 1) := by decide +kernel
theorem dX6_isToken_22 : decode cX6_isToken 22 = .ok (.invokevirtual 80, 3) := by decide +kernel
theorem dX6_isToken_25 : decode cX6_isToken 25 = .ok (.if_icmp .ge 30, 3) := by decide +kernel
theorem dX6_isToken_28 : decode cX6_isToken 28 = .ok (.aload_n 0, 1) := by decide +kernel
theorem dX6_isToken_29 : decode cX6_isToken 29 = .ok (.getfield 9, 3) := by decide +kernel
theorem dX6_isToken_32 : decode cX6_isToken 32 = .ok (.aload_n 0, 1) := by decide +kernel
theorem dX6_isToken_33 : decode cX6_isToken 33 = .ok (.getfield 23, 3) := by decide +kernel
theorem dX6_isToken_36 : decode cX6_isToken 36 = .ok (.iload_n 2, 1) := by decide +kernel
theorem dX6_isToken_37 : decode cX6_isToken 37 = .ok (.iadd, 1) := by decide +kernel
theorem dX6_isToken_38 : decode cX6_isToken 38 = .ok (.caload, 1) := by decide +kernel
theorem dX6_isToken_39 : decode cX6_isToken 39 = .ok (.aload_n 1, 1) := by decide +kernel
theorem dX6_isToken_40 : decode cX6_isToken 40 = .ok (.iload_n 2, 1) := by decide +kernel
theorem dX6_isToken_41 : decode cX6_isToken 41 = .ok (.invokevirtual 84, 3) := by decide +kernel
theorem dX6_isToken_44 : decode cX6_isToken 44 = .ok (.if_icmp .eq 5, 3) := by decide +kernel
theorem dX6_isToken_47 : decode cX6_isToken 47 = .ok (.iconst 0, 1) := by decide +kernel
theorem dX6_isToken_48 : decode cX6_isToken 48 = .ok (.ireturn, 1) := by decide +kernel
theorem dX6_isToken_49 : decode cX6_isToken 49 = .ok (.iinc 2 1, 3) := by decide +kernel
theorem dX6_isToken_52 : decode cX6_isToken 52 = .ok (.goto (-32), 3) := by decide +kernel
theorem dX6_isToken_55 : decode cX6_isToken 55 = .ok (.iconst 1, 1) := by decide +kernel
theorem dX6_isToken_56 : decode cX6_isToken 56 = .ok (.ireturn, 1) := by decide +kernel
theorem dX6_readNumber_0 : decode cX6_readNumber 0 = .ok (.aload_n 0, 1) := by decide +kernel
theorem dX6_readNumber_1 : decode cX6_readNumber 1 = .ok (.invokevirtual 42, 3) := by decide +kernel
theorem dX6_readNumber_4 : decode cX6_readNumber 4 = .ok (.aload_n 0, 1) := by decide +kernel
theorem dX6_readNumber_5 : decode cX6_readNumber 5 = .ok (.getfield 26, 3) := by decide +kernel
theorem dX6_readNumber_8 : decode cX6_readNumber 8 = .ok (.aload_n 0, 1) := by decide +kernel
theorem dX6_readNumber_9 : decode cX6_readNumber 9 = .ok (.getfield 23, 3) := by decide +kernel
theorem dX6_readNumber_12 : decode cX6_readNumber 12 = .ok (.isub, 1) := by decide +kernel
theorem dX6_readNumber_13 : decode cX6_readNumber 13 = .ok (.istore 4, 2) := by decide +kernel
theorem dX6_readNumber_15 : decode cX6_readNumber 15 = .ok (.iload 4, 2) := by decide +kernel
theorem dX6_readNumber_17 : decode cX6_readNumber 17 = .ok (.iconst 1, 1) := by decide +kernel
theorem dX6_readNumber_18 : decode cX6_readNumber 18 = .ok (.if_icmp .lt 24, 3) := by decide +kernel
theorem dX6_readNumber_21 : decode cX6_readNumber 21 = .ok (.iload 4, 2) := by decide +kernel
theorem dX6_readNumber_23 : decode cX6_readNumber 23 = .ok (.iconst 4, 1) := by decide +kernel
theorem dX6_readNumber_24 : decode cX6_readNumber 24 = .ok (.if_icmp .gt 18, 3) := by decide +kernel
theorem dX6_readNumber_27 : decode cX6_readNumber 27 = .ok (.aload_n 0, 1) := by decide +kernel
theorem dX6_readNumber_28 : decode cX6_readNumber 28 = .ok (.getfield 9, 3) := by decide +kernel
theorem dX6_readNumber_31 : decode cX6_readNumber 31 = .ok (.aload_n 0, 1) := by decide +kernel
theorem dX6_readNumber_32 : decode cX6_readNumber 32 = .ok (.getfield 23, 3) := by decide +kernel
theorem dX6_readNumber_35 : decode cX6_readNumber 35 = .ok (.caload, 1) := by decide +kernel
theorem dX6_readNumber_36 : decode cX6_readNumber 36 = .ok (.invokestatic 57, 3) := by decide +kernel
theorem dX6_readNumber_39 : decode cX6_readNumber 39 = .ok (.ifCond .ne 5, 3) := by decide +kernel
theorem dX6_readNumber_42 : decode cX6_readNumber 42 = .ok (.iconst 0, 1) := by decide +kernel
theorem dX6_readNumber_43 : decode cX6_readNumber 43 = .ok (.ireturn, 1) := by decide +kernel
theorem dX6_readNumber_44 : decode cX6_readNumber 44 = .ok (.iconst 0, 1) := by decide +kernel
theorem dX6_readNumber_45 : decode cX6_readNumber 45 = .ok (.istore 5, 2) := by decide +kernel
theorem dX6_readNumber_47 : decode cX6_readNumber 47 = .ok (.aload_n 0, 1) := by decide +kernel
theorem dX6_readNumber_48 : decode cX6_readNumber 48 = .ok (.getfield 23, 3) := by decide +kernel
theorem dX6_readNumber_51 : decode cX6_readNumber 51 = .ok (.istore 6, 2) := by decide +kernel
theorem dX6_readNumber_53 : decode cX6_readNumber 53 = .ok (.iload 6, 2) := by decide +kernel
theorem dX6_readNumber_55 : decode cX6_readNumber 55 = .ok (.aload_n 0, 1) := by decide +kernel
theorem dX6_readNumber_56 : decode cX6_readNumber 56 = .ok (.getfield 26, 3) := by decide +kernel
theorem dX6_readNumber_59 : decode cX6_readNumber 59 = .ok (.if_icmp .ge 27, 3) := by decide +kernel
theorem dX6_readNumber_62 : decode cX6_readNumber 62 = .ok (.iload 5, 2) := by decide +kernel
theorem dX6_readNumber_64 : decode cX6_readNumber 64 = .ok (.bipush 10, 2) := by decide +kernel
theorem dX6_readNumber_66 : decode cX6_readNumber 66 = .ok (.imul, 1) := by decide +kernel
theorem dX6_readNumber_67 : decode cX6_readNumber 67 = .ok (.aload_n 0, 1) := by decide +kernel
theorem dX6_readNumber_68 : decode cX6_readNumber 68 = .ok (.getfield 9, 3) := by decide +kernel
theorem dX6_readNumber_71 : decode cX6_readNumber 71 = .ok (.iload 6, 2) := by decide +kernel
theorem dX6_readNumber_73 : decode cX6_readNumber 73 = .ok (.caload, 1) := by decide +kernel
theorem dX6_readNumber_74 : decode cX6_readNumber 74 = .ok (.bipush 48, 2) := by decide +kernel
theorem dX6_readNumber_76 : decode cX6_readNumber 76 = .ok (.isub, 1) := by decide +kernel
theorem dX6_readNumber_77 : decode cX6_readNumber 77 = .ok (.iadd, 1) := by decide +kernel
theorem dX6_readNumber_78 : decode cX6_readNumber 78 = .ok (.istore 5, 2) := by decide +kernel
theorem dX6_readNumber_80 : decode cX6_readNumber 80 = .ok (.iinc 6 1, 3) := by decide +kernel
theorem dX6_readNumber_83 : decode cX6_readNumber 83 = .ok (.goto (-30), 3) := by decide +kernel
theorem dX6_readNumber_86 : decode cX6_readNumber 86 = .ok (.aload_n 0, 1) := by decide +kernel
theorem dX6_readNumber_87 : decode cX6_readNumber 87 = .ok (.getfield 15, 3) := by decide +kernel
theorem dX6_readNumber_90 : decode cX6_readNumber 90 = .ok (.iload_n 1, 1) := by decide +kernel
theorem dX6_readNumber_91 : decode cX6_readNumber 91 = .ok (.iload 5, 2) := by decide +kernel
theorem dX6_readNumber_93 : decode cX6_readNumber 93 = .ok (.iastore, 1) := by decide +kernel
theorem dX6_readNumber_94 : decode cX6_readNumber 94 = .ok (.iload 5, 2) := by decide +kernel
theorem dX6_readNumber_96 : decode cX6_readNumber 96 = .ok (.iload_n 2, 1) := by decide +kernel
theorem dX6_readNumber_97 : decode cX6_readNumber 97 = .ok (.iload_n 3, 1) := by decide +kernel
theorem dX6_readNumber_98 : decode cX6_readNumber 98 = .ok (.invokestatic 88, 3) := by decide +kernel
theorem dX6_readNumber_101 : decode cX6_readNumber 101 = .ok (.ifCond .ne 7, 3) := by decide +kernel
theorem dX6_readNumber_104 : decode cX6_readNumber 104 = .ok (.iconst 1, 1) := by decide +kernel
theorem dX6_readNumber_105 : decode cX6_readNumber 105 = .ok (.goto 4, 3) := by decide +kernel
theorem dX6_readNumber_108 : decode cX6_readNumber 108 = .ok (.iconst 0, 1) := by decide +kernel
theorem dX6_readNumber_109 : decode cX6_readNumber 109 = .ok (.ireturn, 1) := by decide +kernel
theorem dX7_init_0 : decode cX7_init 0 = .ok (.aload_n 0, 1) := by decide +kernel
theorem dX7_init_1 : decode cX7_init 1 = .ok (.invokespecial 3, 3) := by decide +kernel
theorem dX7_init_4 : decode cX7_init 4 = .ok (.aload_n 0, 1) := by decide +kernel
theorem dX7_init_5 : decode cX7_init 5 = .ok (.bipush 24, 2) := by decide +kernel
theorem dX7_init_7 : decode cX7_init 7 = .ok (.anewarray 9, 3) := by decide +kernel
theorem dX7_init_10 : decode cX7_init 10 = .ok (.putfield 11, 3) := by decide +kernel
theorem dX7_init_13 : decode cX7_init 13 = .ok (.aload_n 0, 1) := by decide +kernel
theorem dX7_init_14 : decode cX7_init 14 = .ok (.new 9, 3) := by decide +kernel
theorem dX7_init_17 : decode cX7_init 17 = .ok (.dup, 1) := by decide +kernel
theorem dX7_init_18 : decode cX7_init 18 = .ok (.invokespecial 17, 3) := by decide +kernel
theorem dX7_init_21 : decode cX7_init 21 = .ok (.putfield 18, 3) := by decide +kernel
theorem dX7_init_24 : decode cX7_init 24 = .ok (.aload_n 0, 1) := by decide +kernel
theorem dX7_init_25 : decode cX7_init 25 = .ok (.iconst 2, 1) := by decide +kernel
theorem dX7_init_26 : decode cX7_init 26 = .ok (.newarray .int, 2) := by decide +kernel
theorem dX7_init_28 : decode cX7_init 28 = .ok (.putfield 22, 3) := by decide +kernel
theorem dX7_init_31 : decode cX7_init 31 = .ok (.aload_n 0, 1) := by decide +kernel
theorem dX7_init_32 : decode cX7_init 32 = .ok (.iconst 0, 1) := by decide +kernel
theorem dX7_init_33 : decode cX7_init 33 = .ok (.putfield 26, 3) := by decide +kernel
theorem dX7_init_36 : decode cX7_init 36 = .ok (.aload_n 0, 1) := by decide +kernel
theorem dX7_init_37 : decode cX7_init 37 = .ok (.iconst 0, 1) := by decide +kernel
theorem dX7_init_38 : decode cX7_init 38 = .ok (.putfield 30, 3) := by decide +kernel
theorem dX7_init_41 : decode cX7_init 41 = .ok (.aload_n 0, 1) := by decide +kernel
theorem dX7_init_42 : decode cX7_init 42 = .ok (.iconst 0, 1) := by decide +kernel
theorem dX7_init_43 : decode cX7_init 43 = .ok (.putfield 33, 3) := by decide +kernel
theorem dX7_init_46 : decode cX7_init 46 = .ok (.iconst 0, 1) := by decide +kernel
theorem dX7_init_47 : decode cX7_init 47 = .ok (.istore_n 1, 1) := by decide +kernel
theorem dX7_init_48 : decode cX7_init 48 = .ok (.iload_n 1, 1) := by decide +kernel
theorem dX7_init_49 : decode cX7_init 49 = .ok (.bipush 24, 2) := by decide +kernel
theorem dX7_init_51 : decode cX7_init 51 = .ok (.if_icmp .ge 22, 3) := by decide +kernel
theorem dX7_init_54 : decode cX7_init 54 = .ok (.aload_n 0, 1) := by decide +kernel
theorem dX7_init_55 : decode cX7_init 55 = .ok (.getfield 11, 3) := by decide +kernel
theorem dX7_init_58 : decode cX7_init 58 = .ok (.iload_n 1, 1) := by decide +kernel
theorem dX7_init_59 : decode cX7_init 59 = .ok (.new 9, 3) := by decide +kernel
theorem dX7_init_62 : decode cX7_init 62 = .ok (.dup, 1) := by decide +kernel
theorem dX7_init_63 : decode cX7_init 63 = .ok (.invokespecial 17, 3) := by decide +kernel
theorem dX7_init_66 : decode cX7_init 66 = .ok (.aastore, 1) := by decide +kernel
theorem dX7_init_67 : decode cX7_init 67 = .ok (.iinc 1 1, 3) := by decide +kernel
theorem dX7_init_70 : decode cX7_init 70 = .ok (.goto (-22), 3) := by decide +kernel
theorem dX7_init_73 : decode cX7_init 73 = .ok (.iconst 0, 1) := by decide +kernel
theorem dX7_init_74 : decode cX7_init 74 = .ok (.istore_n 1, 1) := by decide +kernel
theorem dX7_init_75 : decode cX7_init 75 = .ok (.iload_n 1, 1) := by decide +kernel
theorem dX7_init_76 : decode cX7_init 76 = .ok (.iconst 2, 1) := by decide +kernel
theorem dX7_init_77 : decode cX7_init 77 = .ok (.if_icmp .ge 16, 3) := by decide +kernel
theorem dX7_init_80 : decode cX7_init 80 = .ok (.aload_n 0, 1) := by decide +kernel
theorem dX7_init_81 : decode cX7_init 81 = .ok (.getfield 22, 3) := by decide +kernel
theorem dX7_init_84 : decode cX7_init 84 = .ok (.iload_n 1, 1) := by decide +kernel
theorem dX7_init_85 : decode cX7_init 85 = .ok (.iconst 1, 1) := by decide +kernel
theorem dX7_init_86 : decode cX7_init 86 = .ok (.iastore, 1) := by decide +kernel
theorem dX7_init_87 : decode cX7_init 87 = .ok (.iinc 1 1, 3) := by decide +kernel
theorem dX7_init_90 : decode cX7_init 90 = .ok (.goto (-15), 3) := by decide +kernel
theorem dX7_init_93 : decode cX7_init 93 = .ok (.return_, 1) := by decide +kernel
theorem dX7_reset_0 : decode cX7_reset 0 = .ok (.aload_n 0, 1) := by decide +kernel
theorem dX7_reset_1 : decode cX7_reset 1 = .ok (.iconst 0, 1) := by decide +kernel
theorem dX7_reset_2 : decode cX7_reset 2 = .ok (.putfield 26, 3) := by decide +kernel
theorem dX7_reset_5 : decode cX7_reset 5 = .ok (.aload_n 0, 1) := by decide +kernel
theorem dX7_reset_6 : decode cX7_reset 6 = .ok (.iconst 0, 1) := by decide +kernel
theorem dX7_reset_7 : decode cX7_reset 7 = .ok (.putfield 30, 3) := by decide +kernel
theorem dX7_reset_10 : decode cX7_reset 10 = .ok (.aload_n 0, 1) := by decide +kernel
theorem dX7_reset_11 : decode cX7_reset 11 = .ok (.iconst 0, 1) := by decide +kernel
theorem dX7_reset_12 : decode cX7_reset 12 = .ok (.putfield 33, 3) := by decide +kernel
theorem dX7_reset_15 : decode cX7_reset 15 = .ok (.iconst 0, 1) := by decide +kernel
theorem dX7_reset_16 : decode cX7_reset 16 = .ok (.istore_n 1, 1) := by decide +kernel
theorem dX7_reset_17 : decode cX7_reset 17 = .ok (.iload_n 1, 1) := by decide +kernel
theorem dX7_reset_18 : decode cX7_reset 18 = .ok (.iconst 2, 1) := by decide +kernel
theorem dX7_reset_19 : decode cX7_reset 19 = .ok (.if_icmp .ge 16, 3) := by decide +kernel
theorem dX7_reset_22 : decode cX7_reset 22 = .ok (.aload_n 0, 1) := by decide +kernel
theorem dX7_reset_23 : decode cX7_reset 23 = .ok (.getfield 22, 3) := by decide +kernel
theorem dX7_reset_26 : decode cX7_reset 26 = .ok (.iload_n 1, 1) := by decide +kernel
theorem dX7_reset_27 : decode cX7_reset 27 = .ok (.iconst 1, 1) := by decide +kernel
theorem dX7_reset_28 : decode cX7_reset 28 = .ok (.iastore, 1) := by decide +kernel
theorem dX7_reset_29 : decode cX7_reset 29 = .ok (.iinc 1 1, 3) := by decide +kernel
theorem dX7_reset_32 : decode cX7_reset 32 = .ok (.goto (-15), 3) := by decide +kernel
theorem dX7_reset_35 : decode cX7_reset 35 = .ok (.return_, 1) := by decide +kernel
theorem dX7_placeFor_0 : decode cX7_placeFor 0 = .ok (.aload_n 0, 1) := by decide +kernel
theorem dX7_placeFor_1 : decode cX7_placeFor 1 = .ok (.getfield 26, 3) := by decide +kernel
theorem dX7_placeFor_4 : decode cX7_placeFor 4 = .ok (.bipush 24, 2) := by decide +kernel
theorem dX7_placeFor_6 : decode cX7_placeFor 6 = .ok (.if_icmp .lt 15, 3) := by decide +kernel
theorem dX7_placeFor_9 : decode cX7_placeFor 9 = .ok (.aload_n 0, 1) := by decide +kernel
theorem dX7_placeFor_10 : decode cX7_placeFor 10 = .ok (.dup, 1) := by decide +kernel
theorem dX7_placeFor_11 : decode cX7_placeFor 11 = .ok (.getfield 30, 3) := by decide +kernel
theorem dX7_placeFor_14 : decode cX7_placeFor 14 = .ok (.iconst 1, 1) := by decide +kernel
theorem dX7_placeFor_15 : decode cX7_placeFor 15 = .ok (.iadd, 1) := by decide +kernel
theorem dX7_placeFor_16 : decode cX7_placeFor 16 = .ok (.putfield 30, 3) := by decide +kernel
theorem dX7_placeFor_19 : decode cX7_placeFor 19 = .ok (.aconst_null, 1) := by decide +kernel
theorem dX7_placeFor_20 : decode cX7_placeFor 20 = .ok (.areturn, 1) := by decide +kernel
theorem dX7_placeFor_21 : decode cX7_placeFor 21 = .ok (.aload_n 0, 1) := by decide +kernel
theorem dX7_placeFor_22 : decode cX7_placeFor 22 = .ok (.getfield 11, 3) := by decide +kernel
theorem dX7_placeFor_25 : decode cX7_placeFor 25 = .ok (.aload_n 0, 1) := by decide +kernel
theorem dX7_placeFor_26 : decode cX7_placeFor 26 = .ok (.getfield 26, 3) := by decide +kernel
theorem dX7_placeFor_29 : decode cX7_placeFor 29 = .ok (.aaload, 1) := by decide +kernel
theorem dX7_placeFor_30 : decode cX7_placeFor 30 = .ok (.astore_n 2, 1) := by decide +kernel
theorem dX7_placeFor_31 : decode cX7_placeFor 31 = .ok (.aload_n 0, 1) := by decide +kernel
theorem dX7_placeFor_32 : decode cX7_placeFor 32 = .ok (.dup, 1) := by decide +kernel
theorem dX7_placeFor_33 : decode cX7_placeFor 33 = .ok (.getfield 26, 3) := by decide +kernel
theorem dX7_placeFor_36 : decode cX7_placeFor 36 = .ok (.iconst 1, 1) := by decide +kernel
theorem dX7_placeFor_37 : decode cX7_placeFor 37 = .ok (.iadd, 1) := by decide +kernel
theorem dX7_placeFor_38 : decode cX7_placeFor 38 = .ok (.putfield 26, 3) := by decide +kernel
theorem dX7_placeFor_41 : decode cX7_placeFor 41 = .ok (.aload_n 2, 1) := by decide +kernel
theorem dX7_placeFor_42 : decode cX7_placeFor 42 = .ok (.iload_n 1, 1) := by decide +kernel
theorem dX7_placeFor_43 : decode cX7_placeFor 43 = .ok (.putfield 36, 3) := by decide +kernel
theorem dX7_placeFor_46 : decode cX7_placeFor 46 = .ok (.aload_n 2, 1) := by decide +kernel
theorem dX7_placeFor_47 : decode cX7_placeFor 47 = .ok (.aload_n 0, 1) := by decide +kernel
theorem dX7_placeFor_48 : decode cX7_placeFor 48 = .ok (.getfield 33, 3) := by decide +kernel
theorem dX7_placeFor_51 : decode cX7_placeFor 51 = .ok (.aload_n 0, 1) := by decide +kernel
theorem dX7_placeFor_52 : decode cX7_placeFor 52 = .ok (.getfield 22, 3) := by decide +kernel
theorem dX7_placeFor_55 : decode cX7_placeFor 55 = .ok (.iload_n 1, 1) := by decide +kernel
theorem dX7_placeFor_56 : decode cX7_placeFor 56 = .ok (.invokestatic 39, 3) := by decide +kernel
theorem dX7_placeFor_59 : decode cX7_placeFor 59 = .ok (.iaload, 1) := by decide +kernel
theorem dX7_placeFor_60 : decode cX7_placeFor 60 = .ok (.iadd, 1) := by decide +kernel
theorem dX7_placeFor_61 : decode cX7_placeFor 61 = .ok (.putfield 43, 3) := by decide +kernel
theorem dX7_placeFor_64 : decode cX7_placeFor 64 = .ok (.aload_n 2, 1) := by decide +kernel
theorem dX7_placeFor_65 : decode cX7_placeFor 65 = .ok (.areturn, 1) := by decide +kernel
theorem dX7_repeat_0 : decode cX7_repeat 0 = .ok (.aload_n 0, 1) := by decide +kernel
theorem dX7_repeat_1 : decode cX7_repeat 1 = .ok (.aload_n 1, 1) := by decide +kernel
theorem dX7_repeat_2 : decode cX7_repeat 2 = .ok (.getfield 36, 3) := by decide +kernel
theorem dX7_repeat_5 : decode cX7_repeat 5 = .ok (.invokevirtual 46, 3) := by decide +kernel
theorem dX7_repeat_8 : decode cX7_repeat 8 = .ok (.astore_n 2, 1) := by decide +kernel
theorem dX7_repeat_9 : decode cX7_repeat 9 = .ok (.aload_n 2, 1) := by decide +kernel
theorem dX7_repeat_10 : decode cX7_repeat 10 = .ok (.ifnull 18, 3) := by decide +kernel
theorem dX7_repeat_13 : decode cX7_repeat 13 = .ok (.aload_n 2, 1) := by decide +kernel
theorem dX7_repeat_14 : decode cX7_repeat 14 = .ok (.getfield 43, 3) := by decide +kernel
theorem dX7_repeat_17 : decode cX7_repeat 17 = .ok (.istore_n 3, 1) := by decide +kernel
theorem dX7_repeat_18 : decode cX7_repeat 18 = .ok (.aload_n 2, 1) := by decide +kernel
theorem dX7_repeat_19 : decode cX7_repeat 19 = .ok (.aload_n 1, 1) := by decide +kernel
theorem dX7_repeat_20 : decode cX7_repeat 20 = .ok (.invokevirtual 50, 3) := by decide +kernel
theorem dX7_repeat_23 : decode cX7_repeat 23 = .ok (.aload_n 2, 1) := by decide +kernel
theorem dX7_repeat_24 : decode cX7_repeat 24 = .ok (.iload_n 3, 1) := by decide +kernel
theorem dX7_repeat_25 : decode cX7_repeat 25 = .ok (.putfield 43, 3) := by decide +kernel
theorem dX7_repeat_28 : decode cX7_repeat 28 = .ok (.return_, 1) := by decide +kernel
theorem dX7_firstPlace_0 : decode cX7_firstPlace 0 = .ok (.iconst (-1), 1) := by decide +kernel
theorem dX7_firstPlace_1 : decode cX7_firstPlace 1 = .ok (.istore_n 1, 1) := by decide +kernel
theorem dX7_firstPlace_2 : decode cX7_firstPlace 2 = .ok (.iconst 0, 1) := by decide +kernel
theorem dX7_firstPlace_3 : decode cX7_firstPlace 3 = .ok (.istore_n 2, 1) := by decide +kernel
theorem dX7_firstPlace_4 : decode cX7_firstPlace 4 = .ok (.iload_n 2, 1) := by decide +kernel
theorem dX7_firstPlace_5 : decode cX7_firstPlace 5 = .ok (.aload_n 0, 1) := by decide +kernel
theorem dX7_firstPlace_6 : decode cX7_firstPlace 6 = .ok (.getfield 26, 3) := by decide +kernel
theorem dX7_firstPlace_9 : decode cX7_firstPlace 9 = .ok (.if_icmp .ge 37, 3) := by decide +kernel
theorem dX7_firstPlace_12 : decode cX7_firstPlace 12 = .ok (.iload_n 1, 1) := by decide +kernel
theorem dX7_firstPlace_13 : decode cX7_firstPlace 13 = .ok (.iconst (-1), 1) := by decide +kernel
theorem dX7_firstPlace_14 : decode cX7_firstPlace 14 = .ok (.if_icmp .eq 24, 3) := by decide +kernel
theorem dX7_firstPlace_17 : decode cX7_firstPlace 17 = .ok (.aload_n 0, 1) := by decide +kernel
theorem dX7_firstPlace_18 : decode cX7_firstPlace 18 = .ok (.getfield 11, 3) := by decide +kernel
theorem dX7_firstPlace_21 : decode cX7_firstPlace 21 = .ok (.iload_n 2, 1) := by decide +kernel
theorem dX7_firstPlace_22 : decode cX7_firstPlace 22 = .ok (.aaload, 1) := by decide +kernel
theorem dX7_firstPlace_23 : decode cX7_firstPlace 23 = .ok (.getfield 43, 3) := by decide +kernel
theorem dX7_firstPlace_26 : decode cX7_firstPlace 26 = .ok (.aload_n 0, 1) := by decide +kernel
theorem dX7_firstPlace_27 : decode cX7_firstPlace 27 = .ok (.getfield 11, 3) := by decide +kernel
theorem dX7_firstPlace_30 : decode cX7_firstPlace 30 = .ok (.iload_n 1, 1) := by decide +kernel
theorem dX7_firstPlace_31 : decode cX7_firstPlace 31 = .ok (.aaload, 1) := by decide +kernel
theorem dX7_firstPlace_32 : decode cX7_firstPlace 32 = .ok (.getfield 43, 3) := by decide +kernel
theorem dX7_firstPlace_35 : decode cX7_firstPlace 35 = .ok (.if_icmp .ge 5, 3) := by decide +kernel
theorem dX7_firstPlace_38 : decode cX7_firstPlace 38 = .ok (.iload_n 2, 1) := by decide +kernel
theorem dX7_firstPlace_39 : decode cX7_firstPlace 39 = .ok (.istore_n 1, 1) := by decide +kernel
theorem dX7_firstPlace_40 : decode cX7_firstPlace 40 = .ok (.iinc 2 1, 3) := by decide +kernel
theorem dX7_firstPlace_43 : decode cX7_firstPlace 43 = .ok (.goto (-39), 3) := by decide +kernel
theorem dX7_firstPlace_46 : decode cX7_firstPlace 46 = .ok (.iload_n 1, 1) := by decide +kernel
theorem dX7_firstPlace_47 : decode cX7_firstPlace 47 = .ok (.ireturn, 1) := by decide +kernel
theorem dX7_pullFirst_0 : decode cX7_pullFirst 0 = .ok (.aload_n 0, 1) := by decide +kernel
theorem dX7_pullFirst_1 : decode cX7_pullFirst 1 = .ok (.invokevirtual 54, 3) := by decide +kernel
theorem dX7_pullFirst_4 : decode cX7_pullFirst 4 = .ok (.istore_n 1, 1) := by decide +kernel
theorem dX7_pullFirst_5 : decode cX7_pullFirst 5 = .ok (.iload_n 1, 1) := by decide +kernel
theorem dX7_pullFirst_6 : decode cX7_pullFirst 6 = .ok (.iconst (-1), 1) := by decide +kernel
theorem dX7_pullFirst_7 : decode cX7_pullFirst 7 = .ok (.if_icmp .ne 5, 3) := by decide +kernel
theorem dX7_pullFirst_10 : decode cX7_pullFirst 10 = .ok (.aconst_null, 1) := by decide +kernel
theorem dX7_pullFirst_11 : decode cX7_pullFirst 11 = .ok (.areturn, 1) := by decide +kernel
theorem dX7_pullFirst_12 : decode cX7_pullFirst 12 = .ok (.aload_n 0, 1) := by decide +kernel
theorem dX7_pullFirst_13 : decode cX7_pullFirst 13 = .ok (.getfield 18, 3) := by decide +kernel
theorem dX7_pullFirst_16 : decode cX7_pullFirst 16 = .ok (.aload_n 0, 1) := by decide +kernel
theorem dX7_pullFirst_17 : decode cX7_pullFirst 17 = .ok (.getfield 11, 3) := by decide +kernel
theorem dX7_pullFirst_20 : decode cX7_pullFirst 20 = .ok (.iload_n 1, 1) := by decide +kernel
theorem dX7_pullFirst_21 : decode cX7_pullFirst 21 = .ok (.aaload, 1) := by decide +kernel
theorem dX7_pullFirst_22 : decode cX7_pullFirst 22 = .ok (.invokevirtual 50, 3) := by decide +kernel
theorem dX7_pullFirst_25 : decode cX7_pullFirst 25 = .ok (.aload_n 0, 1) := by decide +kernel
theorem dX7_pullFirst_26 : decode cX7_pullFirst 26 = .ok (.iload_n 1, 1) := by decide +kernel
theorem dX7_pullFirst_27 : decode cX7_pullFirst 27 = .ok (.invokevirtual 58, 3) := by decide +kernel
theorem dX7_pullFirst_30 : decode cX7_pullFirst 30 = .ok (.aload_n 0, 1) := by decide +kernel
theorem dX7_pullFirst_31 : decode cX7_pullFirst 31 = .ok (.getfield 18, 3) := by decide +kernel
theorem dX7_pullFirst_34 : decode cX7_pullFirst 34 = .ok (.areturn, 1) := by decide +kernel
theorem dX7_clearLine_0 : decode cX7_clearLine 0 = .ok (.aload_n 0, 1) := by decide +kernel
theorem dX7_clearLine_1 : decode cX7_clearLine 1 = .ok (.getfield 26, 3) := by decide +kernel
theorem dX7_clearLine_4 : decode cX7_clearLine 4 = .ok (.iconst 1, 1) := by decide +kernel
theorem dX7_clearLine_5 : decode cX7_clearLine 5 = .ok (.isub, 1) := by decide +kernel
theorem dX7_clearLine_6 : decode cX7_clearLine 6 = .ok (.istore_n 2, 1) := by decide +kernel
theorem dX7_clearLine_7 : decode cX7_clearLine 7 = .ok (.iload_n 2, 1) := by decide +kernel
theorem dX7_clearLine_8 : decode cX7_clearLine 8 = .ok (.ifCond .lt 30, 3) := by decide +kernel
theorem dX7_clearLine_11 : decode cX7_clearLine 11 = .ok (.aload_n 0, 1) := by decide +kernel
theorem dX7_clearLine_12 : decode cX7_clearLine 12 = .ok (.getfield 11, 3) := by decide +kernel
theorem dX7_clearLine_15 : decode cX7_clearLine 15 = .ok (.iload_n 2, 1) := by decide +kernel
theorem dX7_clearLine_16 : decode cX7_clearLine 16 = .ok (.aaload, 1) := by decide +kernel
theorem dX7_clearLine_17 : decode cX7_clearLine 17 = .ok (.getfield 36, 3) := by decide +kernel
theorem dX7_clearLine_20 : decode cX7_clearLine 20 = .ok (.invokestatic 39, 3) := by decide +kernel
theorem dX7_clearLine_23 : decode cX7_clearLine 23 = .ok (.iload_n 1, 1) := by decide +kernel
theorem dX7_clearLine_24 : decode cX7_clearLine 24 = .ok (.if_icmp .ne 8, 3) := by decide +kernel
theorem dX7_clearLine_27 : decode cX7_clearLine 27 = .ok (.aload_n 0, 1) := by decide +kernel
theorem dX7_clearLine_28 : decode cX7_clearLine 28 = .ok (.iload_n 2, 1) := by decide +kernel
theorem dX7_clearLine_29 : decode cX7_clearLine 29 = .ok (.invokevirtual 58, 3) := by decide +kernel
theorem dX7_clearLine_32 : decode cX7_clearLine 32 = .ok (.iinc 2 (-1), 3) := by decide +kernel
theorem dX7_clearLine_35 : decode cX7_clearLine 35 = .ok (.goto (-28), 3) := by decide +kernel
theorem dX7_clearLine_38 : decode cX7_clearLine 38 = .ok (.return_, 1) := by decide +kernel
theorem dX7_removeAt_0 : decode cX7_removeAt 0 = .ok (.aload_n 0, 1) := by decide +kernel
theorem dX7_removeAt_1 : decode cX7_removeAt 1 = .ok (.getfield 11, 3) := by decide +kernel
theorem dX7_removeAt_4 : decode cX7_removeAt 4 = .ok (.iload_n 1, 1) := by decide +kernel
theorem dX7_removeAt_5 : decode cX7_removeAt 5 = .ok (.aaload, 1) := by decide +kernel
theorem dX7_removeAt_6 : decode cX7_removeAt 6 = .ok (.astore_n 2, 1) := by decide +kernel
theorem dX7_removeAt_7 : decode cX7_removeAt 7 = .ok (.iload_n 1, 1) := by decide +kernel
theorem dX7_removeAt_8 : decode cX7_removeAt 8 = .ok (.istore_n 3, 1) := by decide +kernel
theorem dX7_removeAt_9 : decode cX7_removeAt 9 = .ok (.iload_n 3, 1) := by decide +kernel
theorem dX7_removeAt_10 : decode cX7_removeAt 10 = .ok (.aload_n 0, 1) := by decide +kernel
theorem dX7_removeAt_11 : decode cX7_removeAt 11 = .ok (.getfield 26, 3) := by decide +kernel
theorem dX7_removeAt_14 : decode cX7_removeAt 14 = .ok (.iconst 1, 1) := by decide +kernel
theorem dX7_removeAt_15 : decode cX7_removeAt 15 = .ok (.isub, 1) := by decide +kernel
theorem dX7_removeAt_16 : decode cX7_removeAt 16 = .ok (.if_icmp .ge 23, 3) := by decide +kernel
theorem dX7_removeAt_19 : decode cX7_removeAt 19 = .ok (.aload_n 0, 1) := by decide +kernel
theorem dX7_removeAt_20 : decode cX7_removeAt 20 = .ok (.getfield 11, 3) := by decide +kernel
theorem dX7_removeAt_23 : decode cX7_removeAt 23 = .ok (.iload_n 3, 1) := by decide +kernel
theorem dX7_removeAt_24 : decode cX7_removeAt 24 = .ok (.aload_n 0, 1) := by decide +kernel
theorem dX7_removeAt_25 : decode cX7_removeAt 25 = .ok (.getfield 11, 3) := by decide +kernel
theorem dX7_removeAt_28 : decode cX7_removeAt 28 = .ok (.iload_n 3, 1) := by decide +kernel
theorem dX7_removeAt_29 : decode cX7_removeAt 29 = .ok (.iconst 1, 1) := by decide +kernel
theorem dX7_removeAt_30 : decode cX7_removeAt 30 = .ok (.iadd, 1) := by decide +kernel
theorem dX7_removeAt_31 : decode cX7_removeAt 31 = .ok (.aaload, 1) := by decide +kernel
theorem dX7_removeAt_32 : decode cX7_removeAt 32 = .ok (.aastore, 1) := by decide +kernel
theorem dX7_removeAt_33 : decode cX7_removeAt 33 = .ok (.iinc 3 1, 3) := by decide +kernel
theorem dX7_removeAt_36 : decode cX7_removeAt 36 = .ok (.goto (-27), 3) := by decide +kernel
theorem dX7_removeAt_39 : decode cX7_removeAt 39 = .ok (.aload_n 0, 1) := by decide +kernel
theorem dX7_removeAt_40 : decode cX7_removeAt 40 = .ok (.dup, 1) := by decide +kernel
theorem dX7_removeAt_41 : decode cX7_removeAt 41 = .ok (.getfield 26, 3) := by decide +kernel
theorem dX7_removeAt_44 : decode cX7_removeAt 44 = .ok (.iconst 1, 1) := by decide +kernel
theorem dX7_removeAt_45 : decode cX7_removeAt 45 = .ok (.isub, 1) := by decide +kernel
theorem dX7_removeAt_46 : decode cX7_removeAt 46 = .ok (.putfield 26, 3) := by decide +kernel
theorem dX7_removeAt_49 : decode cX7_removeAt 49 = .ok (.aload_n 0, 1) := by decide +kernel
theorem dX7_removeAt_50 : decode cX7_removeAt 50 = .ok (.getfield 11, 3) := by decide +kernel
theorem dX7_removeAt_53 : decode cX7_removeAt 53 = .ok (.aload_n 0, 1) := by decide +kernel
theorem dX7_removeAt_54 : decode cX7_removeAt 54 = .ok (.getfield 26, 3) := by decide +kernel
theorem dX7_removeAt_57 : decode cX7_removeAt 57 = .ok (.aload_n 2, 1) := by decide +kernel
theorem dX7_removeAt_58 : decode cX7_removeAt 58 = .ok (.aastore, 1) := by decide +kernel
theorem dX7_removeAt_59 : decode cX7_removeAt 59 = .ok (.return_, 1) := by decide +kernel
theorem dX7_passTimeTo_0 : decode cX7_passTimeTo 0 = .ok (.iload_n 1, 1) := by decide +kernel
theorem dX7_passTimeTo_1 : decode cX7_passTimeTo 1 = .ok (.aload_n 0, 1) := by decide +kernel
theorem dX7_passTimeTo_2 : decode cX7_passTimeTo 2 = .ok (.getfield 33, 3) := by decide +kernel
theorem dX7_passTimeTo_5 : decode cX7_passTimeTo 5 = .ok (.if_icmp .le 8, 3) := by decide +kernel
theorem dX7_passTimeTo_8 : decode cX7_passTimeTo 8 = .ok (.aload_n 0, 1) := by decide +kernel
theorem dX7_passTimeTo_9 : decode cX7_passTimeTo 9 = .ok (.iload_n 1, 1) := by decide +kernel
theorem dX7_passTimeTo_10 : decode cX7_passTimeTo 10 = .ok (.putfield 33, 3) := by decide +kernel
theorem dX7_passTimeTo_13 : decode cX7_passTimeTo 13 = .ok (.return_, 1) := by decide +kernel
theorem dX8_init_0 : decode cX8_init 0 = .ok (.aload_n 0, 1) := by decide +kernel
theorem dX8_init_1 : decode cX8_init 1 = .ok (.invokespecial 1, 3) := by decide +kernel
theorem dX8_init_4 : decode cX8_init 4 = .ok (.aload_n 0, 1) := by decide +kernel
theorem dX8_init_5 : decode cX8_init 5 = .ok (.iconst 0, 1) := by decide +kernel
theorem dX8_init_6 : decode cX8_init 6 = .ok (.putfield 7, 3) := by decide +kernel
theorem dX8_init_9 : decode cX8_init 9 = .ok (.aload_n 0, 1) := by decide +kernel
theorem dX8_init_10 : decode cX8_init 10 = .ok (.iconst 0, 1) := by decide +kernel
theorem dX8_init_11 : decode cX8_init 11 = .ok (.putfield 13, 3) := by decide +kernel
theorem dX8_init_14 : decode cX8_init 14 = .ok (.aload_n 0, 1) := by decide +kernel
theorem dX8_init_15 : decode cX8_init 15 = .ok (.iconst 0, 1) := by decide +kernel
theorem dX8_init_16 : decode cX8_init 16 = .ok (.putfield 16, 3) := by decide +kernel
theorem dX8_init_19 : decode cX8_init 19 = .ok (.aload_n 0, 1) := by decide +kernel
theorem dX8_init_20 : decode cX8_init 20 = .ok (.iconst 0, 1) := by decide +kernel
theorem dX8_init_21 : decode cX8_init 21 = .ok (.putfield 19, 3) := by decide +kernel
theorem dX8_init_24 : decode cX8_init 24 = .ok (.aload_n 0, 1) := by decide +kernel
theorem dX8_init_25 : decode cX8_init 25 = .ok (.iconst 0, 1) := by decide +kernel
theorem dX8_init_26 : decode cX8_init 26 = .ok (.putfield 22, 3) := by decide +kernel
theorem dX8_init_29 : decode cX8_init 29 = .ok (.aload_n 0, 1) := by decide +kernel
theorem dX8_init_30 : decode cX8_init 30 = .ok (.iconst 0, 1) := by decide +kernel
theorem dX8_init_31 : decode cX8_init 31 = .ok (.putfield 25, 3) := by decide +kernel
theorem dX8_init_34 : decode cX8_init 34 = .ok (.aload_n 0, 1) := by decide +kernel
theorem dX8_init_35 : decode cX8_init 35 = .ok (.iconst 0, 1) := by decide +kernel
theorem dX8_init_36 : decode cX8_init 36 = .ok (.putfield 28, 3) := by decide +kernel
theorem dX8_init_39 : decode cX8_init 39 = .ok (.return_, 1) := by decide +kernel
theorem dX9_init_0 : decode cX9_init 0 = .ok (.aload_n 0, 1) := by decide +kernel
theorem dX9_init_1 : decode cX9_init 1 = .ok (.invokespecial 1, 3) := by decide +kernel
theorem dX9_init_4 : decode cX9_init 4 = .ok (.aload_n 0, 1) := by decide +kernel
theorem dX9_init_5 : decode cX9_init 5 = .ok (.iconst 2, 1) := by decide +kernel
theorem dX9_init_6 : decode cX9_init 6 = .ok (.anewarray 9, 3) := by decide +kernel
theorem dX9_init_9 : decode cX9_init 9 = .ok (.putfield 11, 3) := by decide +kernel
theorem dX9_init_12 : decode cX9_init 12 = .ok (.aload_n 0, 1) := by decide +kernel
theorem dX9_init_13 : decode cX9_init 13 = .ok (.iconst 4, 1) := by decide +kernel
theorem dX9_init_14 : decode cX9_init 14 = .ok (.anewarray 15, 3) := by decide +kernel
theorem dX9_init_17 : decode cX9_init 17 = .ok (.putfield 17, 3) := by decide +kernel
theorem dX9_init_20 : decode cX9_init 20 = .ok (.aload_n 0, 1) := by decide +kernel
theorem dX9_init_21 : decode cX9_init 21 = .ok (.new 21, 3) := by decide +kernel
theorem dX9_init_24 : decode cX9_init 24 = .ok (.dup, 1) := by decide +kernel
theorem dX9_init_25 : decode cX9_init 25 = .ok (.invokespecial 23, 3) := by decide +kernel
theorem dX9_init_28 : decode cX9_init 28 = .ok (.putfield 24, 3) := by decide +kernel
theorem dX9_init_31 : decode cX9_init 31 = .ok (.aload_n 0, 1) := by decide +kernel
theorem dX9_init_32 : decode cX9_init 32 = .ok (.new 28, 3) := by decide +kernel
theorem dX9_init_35 : decode cX9_init 35 = .ok (.dup, 1) := by decide +kernel
theorem dX9_init_36 : decode cX9_init 36 = .ok (.invokespecial 30, 3) := by decide +kernel
theorem dX9_init_39 : decode cX9_init 39 = .ok (.putfield 31, 3) := by decide +kernel
theorem dX9_init_42 : decode cX9_init 42 = .ok (.aload_n 0, 1) := by decide +kernel
theorem dX9_init_43 : decode cX9_init 43 = .ok (.aconst_null, 1) := by decide +kernel
theorem dX9_init_44 : decode cX9_init 44 = .ok (.putfield 35, 3) := by decide +kernel
theorem dX9_init_47 : decode cX9_init 47 = .ok (.aload_n 0, 1) := by decide +kernel
theorem dX9_init_48 : decode cX9_init 48 = .ok (.iconst 0, 1) := by decide +kernel
theorem dX9_init_49 : decode cX9_init 49 = .ok (.putfield 39, 3) := by decide +kernel
theorem dX9_init_52 : decode cX9_init 52 = .ok (.iconst 0, 1) := by decide +kernel
theorem dX9_init_53 : decode cX9_init 53 = .ok (.istore_n 1, 1) := by decide +kernel
theorem dX9_init_54 : decode cX9_init 54 = .ok (.iload_n 1, 1) := by decide +kernel
theorem dX9_init_55 : decode cX9_init 55 = .ok (.iconst 2, 1) := by decide +kernel
theorem dX9_init_56 : decode cX9_init 56 = .ok (.if_icmp .ge 22, 3) := by decide +kernel
theorem dX9_init_59 : decode cX9_init 59 = .ok (.aload_n 0, 1) := by decide +kernel
theorem dX9_init_60 : decode cX9_init 60 = .ok (.getfield 11, 3) := by decide +kernel
theorem dX9_init_63 : decode cX9_init 63 = .ok (.iload_n 1, 1) := by decide +kernel
theorem dX9_init_64 : decode cX9_init 64 = .ok (.new 9, 3) := by decide +kernel
theorem dX9_init_67 : decode cX9_init 67 = .ok (.dup, 1) := by decide +kernel
theorem dX9_init_68 : decode cX9_init 68 = .ok (.invokespecial 43, 3) := by decide +kernel
theorem dX9_init_71 : decode cX9_init 71 = .ok (.aastore, 1) := by decide +kernel
theorem dX9_init_72 : decode cX9_init 72 = .ok (.iinc 1 1, 3) := by decide +kernel
theorem dX9_init_75 : decode cX9_init 75 = .ok (.goto (-21), 3) := by decide +kernel
theorem dX9_init_78 : decode cX9_init 78 = .ok (.iconst 0, 1) := by decide +kernel
theorem dX9_init_79 : decode cX9_init 79 = .ok (.istore_n 1, 1) := by decide +kernel
theorem dX9_init_80 : decode cX9_init 80 = .ok (.iload_n 1, 1) := by decide +kernel
theorem dX9_init_81 : decode cX9_init 81 = .ok (.iconst 4, 1) := by decide +kernel
theorem dX9_init_82 : decode cX9_init 82 = .ok (.if_icmp .ge 35, 3) := by decide +kernel
theorem dX9_init_85 : decode cX9_init 85 = .ok (.aload_n 0, 1) := by decide +kernel
theorem dX9_init_86 : decode cX9_init 86 = .ok (.getfield 17, 3) := by decide +kernel
theorem dX9_init_89 : decode cX9_init 89 = .ok (.iload_n 1, 1) := by decide +kernel
theorem dX9_init_90 : decode cX9_init 90 = .ok (.new 15, 3) := by decide +kernel
theorem dX9_init_93 : decode cX9_init 93 = .ok (.dup, 1) := by decide +kernel
theorem dX9_init_94 : decode cX9_init 94 = .ok (.iload_n 1, 1) := by decide +kernel
theorem dX9_init_95 : decode cX9_init 95 = .ok (.aload_n 0, 1) := by decide +kernel
theorem dX9_init_96 : decode cX9_init 96 = .ok (.getfield 11, 3) := by decide +kernel
theorem dX9_init_99 : decode cX9_init 99 = .ok (.iload_n 1, 1) := by decide +kernel
theorem dX9_init_100 : decode cX9_init 100 = .ok (.iconst 2, 1) := by decide +kernel
theorem dX9_init_101 : decode cX9_init 101 = .ok (.irem, 1) := by decide +kernel
theorem dX9_init_102 : decode cX9_init 102 = .ok (.aaload, 1) := by decide +kernel
theorem dX9_init_103 : decode cX9_init 103 = .ok (.aload_n 0, 1) := by decide +kernel
theorem dX9_init_104 : decode cX9_init 104 = .ok (.getfield 24, 3) := by decide +kernel
theorem dX9_init_107 : decode cX9_init 107 = .ok (.invokespecial 44, 3) := by decide +kernel
theorem dX9_init_110 : decode cX9_init 110 = .ok (.aastore, 1) := by decide +kernel
theorem dX9_init_111 : decode cX9_init 111 = .ok (.iinc 1 1, 3) := by decide +kernel
theorem dX9_init_114 : decode cX9_init 114 = .ok (.goto (-34), 3) := by decide +kernel
theorem dX9_init_117 : decode cX9_init 117 = .ok (.return_, 1) := by decide +kernel
theorem dX9_write_0 : decode cX9_write 0 = .ok (.iload_n 1, 1) := by decide +kernel
theorem dX9_write_1 : decode cX9_write 1 = .ok (.iconst 0, 1) := by decide +kernel
theorem dX9_write_2 : decode cX9_write 2 = .ok (.sipush 255, 3) := by decide +kernel
theorem dX9_write_5 : decode cX9_write 5 = .ok (.invokestatic 47, 3) := by decide +kernel
theorem dX9_write_8 : decode cX9_write 8 = .ok (.ifCond .eq 7, 3) := by decide +kernel
theorem dX9_write_11 : decode cX9_write 11 = .ok (.sipush (-1002), 3) := by decide +kernel
theorem dX9_write_14 : decode cX9_write 14 = .ok (.ireturn, 1) := by decide +kernel
theorem dX9_write_15 : decode cX9_write 15 = .ok (.aload_n 0, 1) := by decide +kernel
theorem dX9_write_16 : decode cX9_write 16 = .ok (.getfield 31, 3) := by decide +kernel
theorem dX9_write_19 : decode cX9_write 19 = .ok (.getfield 51, 3) := by decide +kernel
theorem dX9_write_22 : decode cX9_write 22 = .ok (.sipush 200, 3) := by decide +kernel
theorem dX9_write_25 : decode cX9_write 25 = .ok (.if_icmp .lt 7, 3) := by decide +kernel
theorem dX9_write_28 : decode cX9_write 28 = .ok (.sipush (-1004), 3) := by decide +kernel
theorem dX9_write_31 : decode cX9_write 31 = .ok (.ireturn, 1) := by decide +kernel
theorem dX9_write_32 : decode cX9_write 32 = .ok (.aload_n 0, 1) := by decide +kernel
theorem dX9_write_33 : decode cX9_write 33 = .ok (.getfield 31, 3) := by decide +kernel
theorem dX9_write_36 : decode cX9_write 36 = .ok (.iload_n 1, 1) := by decide +kernel
theorem dX9_write_37 : decode cX9_write 37 = .ok (.i2c, 1) := by decide +kernel
theorem dX9_write_38 : decode cX9_write 38 = .ok (.invokevirtual 54, 3) := by decide +kernel
theorem dX9_write_41 : decode cX9_write 41 = .ok (.aload_n 0, 1) := by decide +kernel
theorem dX9_write_42 : decode cX9_write 42 = .ok (.getfield 31, 3) := by decide +kernel
theorem dX9_write_45 : decode cX9_write 45 = .ok (.getfield 51, 3) := by decide +kernel
theorem dX9_write_48 : decode cX9_write 48 = .ok (.ireturn, 1) := by decide +kernel
theorem dX9_erase_0 : decode cX9_erase 0 = .ok (.aload_n 0, 1) := by decide +kernel
theorem dX9_erase_1 : decode cX9_erase 1 = .ok (.getfield 31, 3) := by decide +kernel
theorem dX9_erase_4 : decode cX9_erase 4 = .ok (.getfield 51, 3) := by decide +kernel
theorem dX9_erase_7 : decode cX9_erase 7 = .ok (.istore_n 1, 1) := by decide +kernel
theorem dX9_erase_8 : decode cX9_erase 8 = .ok (.aload_n 0, 1) := by decide +kernel
theorem dX9_erase_9 : decode cX9_erase 9 = .ok (.getfield 31, 3) := by decide +kernel
theorem dX9_erase_12 : decode cX9_erase 12 = .ok (.iconst 0, 1) := by decide +kernel
theorem dX9_erase_13 : decode cX9_erase 13 = .ok (.putfield 51, 3) := by decide +kernel
theorem dX9_erase_16 : decode cX9_erase 16 = .ok (.iload_n 1, 1) := by decide +kernel
theorem dX9_erase_17 : decode cX9_erase 17 = .ok (.ireturn, 1) := by decide +kernel
theorem dX9_fault_0 : decode cX9_fault 0 = .ok (.aload_n 0, 1) := by decide +kernel
theorem dX9_fault_1 : decode cX9_fault 1 = .ok (.getfield 31, 3) := by decide +kernel
theorem dX9_fault_4 : decode cX9_fault 4 = .ok (.invokevirtual 58, 3) := by decide +kernel
theorem dX9_fault_7 : decode cX9_fault 7 = .ok (.ireturn, 1) := by decide +kernel
theorem dX9_tell_0 : decode cX9_tell 0 = .ok (.aload_n 0, 1) := by decide +kernel
theorem dX9_tell_1 : decode cX9_tell 1 = .ok (.getfield 31, 3) := by decide +kernel
theorem dX9_tell_4 : decode cX9_tell 4 = .ok (.invokevirtual 58, 3) := by decide +kernel
theorem dX9_tell_7 : decode cX9_tell 7 = .ok (.iconst (-1), 1) := by decide +kernel
theorem dX9_tell_8 : decode cX9_tell 8 = .ok (.if_icmp .eq 7, 3) := by decide +kernel
theorem dX9_tell_11 : decode cX9_tell 11 = .ok (.sipush (-1003), 3) := by decide +kernel
theorem dX9_tell_14 : decode cX9_tell 14 = .ok (.ireturn, 1) := by decide +kernel
theorem dX9_tell_15 : decode cX9_tell 15 = .ok (.aload_n 0, 1) := by decide +kernel
theorem dX9_tell_16 : decode cX9_tell 16 = .ok (.getfield 31, 3) := by decide +kernel
theorem dX9_tell_19 : decode cX9_tell 19 = .ok (.getfield 62, 3) := by decide +kernel
theorem dX9_tell_22 : decode cX9_tell 22 = .ok (.istore_n 1, 1) := by decide +kernel
theorem dX9_tell_23 : decode cX9_tell 23 = .ok (.aload_n 0, 1) := by decide +kernel
theorem dX9_tell_24 : decode cX9_tell 24 = .ok (.getfield 31, 3) := by decide +kernel
theorem dX9_tell_27 : decode cX9_tell 27 = .ok (.invokevirtual 65, 3) := by decide +kernel
theorem dX9_tell_30 : decode cX9_tell 30 = .ok (.iconst 0, 1) := by decide +kernel
theorem dX9_tell_31 : decode cX9_tell 31 = .ok (.istore_n 2, 1) := by decide +kernel
theorem dX9_tell_32 : decode cX9_tell 32 = .ok (.iload_n 2, 1) := by decide +kernel
theorem dX9_tell_33 : decode cX9_tell 33 = .ok (.iload_n 1, 1) := by decide +kernel
theorem dX9_tell_34 : decode cX9_tell 34 = .ok (.if_icmp .ge 42, 3) := by decide +kernel
theorem dX9_tell_37 : decode cX9_tell 37 = .ok (.aload_n 0, 1) := by decide +kernel
theorem dX9_tell_38 : decode cX9_tell 38 = .ok (.getfield 31, 3) := by decide +kernel
theorem dX9_tell_41 : decode cX9_tell 41 = .ok (.invokevirtual 68, 3) := by decide +kernel
theorem dX9_tell_44 : decode cX9_tell 44 = .ok (.pop, 1) := by decide +kernel
theorem dX9_tell_45 : decode cX9_tell 45 = .ok (.aload_n 0, 1) := by decide +kernel
theorem dX9_tell_46 : decode cX9_tell 46 = .ok (.aload_n 0, 1) := by decide +kernel
theorem dX9_tell_47 : decode cX9_tell 47 = .ok (.getfield 31, 3) := by decide +kernel
theorem dX9_tell_50 : decode cX9_tell 50 = .ok (.getfield 72, 3) := by decide +kernel
theorem dX9_tell_53 : decode cX9_tell 53 = .ok (.aload_n 0, 1) := by decide +kernel
theorem dX9_tell_54 : decode cX9_tell 54 = .ok (.getfield 31, 3) := by decide +kernel
theorem dX9_tell_57 : decode cX9_tell 57 = .ok (.getfield 75, 3) := by decide +kernel
theorem dX9_tell_60 : decode cX9_tell 60 = .ok (.invokevirtual 79, 3) := by decide +kernel
theorem dX9_tell_63 : decode cX9_tell 63 = .ok (.aload_n 0, 1) := by decide +kernel
theorem dX9_tell_64 : decode cX9_tell 64 = .ok (.getfield 31, 3) := by decide +kernel
theorem dX9_tell_67 : decode cX9_tell 67 = .ok (.invokevirtual 83, 3) := by decide +kernel
theorem dX9_tell_70 : decode cX9_tell 70 = .ok (.iinc 2 1, 3) := by decide +kernel
theorem dX9_tell_73 : decode cX9_tell 73 = .ok (.goto (-41), 3) := by decide +kernel
theorem dX9_tell_76 : decode cX9_tell 76 = .ok (.aload_n 0, 1) := by decide +kernel
theorem dX9_tell_77 : decode cX9_tell 77 = .ok (.getfield 31, 3) := by decide +kernel
theorem dX9_tell_80 : decode cX9_tell 80 = .ok (.iconst 0, 1) := by decide +kernel
theorem dX9_tell_81 : decode cX9_tell 81 = .ok (.putfield 51, 3) := by decide +kernel
theorem dX9_tell_84 : decode cX9_tell 84 = .ok (.iload_n 1, 1) := by decide +kernel
theorem dX9_tell_85 : decode cX9_tell 85 = .ok (.ireturn, 1) := by decide +kernel
theorem dX9_doClause_0 : decode cX9_doClause 0 = .ok (.iload_n 1, 1) := by decide +kernel
theorem dX9_doClause_1 : decode cX9_doClause 1 = .ok (.tableswitch 150 0 5 #[39, 46, 72, 93, 110, 130], 39) := by decide +kernel
theorem dX9_doClause_40 : decode cX9_doClause 40 = .ok (.aload_n 0, 1) := by decide +kernel
theorem dX9_doClause_41 : decode cX9_doClause 41 = .ok (.invokevirtual 86, 3) := by decide +kernel
theorem dX9_doClause_44 : decode cX9_doClause 44 = .ok (.goto 107, 3) := by decide +kernel
theorem dX9_doClause_47 : decode cX9_doClause 47 = .ok (.aload_n 0, 1) := by decide +kernel
theorem dX9_doClause_48 : decode cX9_doClause 48 = .ok (.getfield 11, 3) := by decide +kernel
theorem dX9_doClause_51 : decode cX9_doClause 51 = .ok (.aload_n 2, 1) := by decide +kernel
theorem dX9_doClause_52 : decode cX9_doClause 52 = .ok (.iconst 0, 1) := by decide +kernel
theorem dX9_doClause_53 : decode cX9_doClause 53 = .ok (.iaload, 1) := by decide +kernel
theorem dX9_doClause_54 : decode cX9_doClause 54 = .ok (.aaload, 1) := by decide +kernel
theorem dX9_doClause_55 : decode cX9_doClause 55 = .ok (.aload_n 2, 1) := by decide +kernel
theorem dX9_doClause_56 : decode cX9_doClause 56 = .ok (.iconst 1, 1) := by decide +kernel
theorem dX9_doClause_57 : decode cX9_doClause 57 = .ok (.iaload, 1) := by decide +kernel
theorem dX9_doClause_58 : decode cX9_doClause 58 = .ok (.aload_n 2, 1) := by decide +kernel
theorem dX9_doClause_59 : decode cX9_doClause 59 = .ok (.iconst 2, 1) := by decide +kernel
theorem dX9_doClause_60 : decode cX9_doClause 60 = .ok (.iaload, 1) := by decide +kernel
theorem dX9_doClause_61 : decode cX9_doClause 61 = .ok (.aload_n 2, 1) := by decide +kernel
theorem dX9_doClause_62 : decode cX9_doClause 62 = .ok (.iconst 3, 1) := by decide +kernel
theorem dX9_doClause_63 : decode cX9_doClause 63 = .ok (.iaload, 1) := by decide +kernel
theorem dX9_doClause_64 : decode cX9_doClause 64 = .ok (.aload_n 2, 1) := by decide +kernel
theorem dX9_doClause_65 : decode cX9_doClause 65 = .ok (.iconst 4, 1) := by decide +kernel
theorem dX9_doClause_66 : decode cX9_doClause 66 = .ok (.iaload, 1) := by decide +kernel
theorem dX9_doClause_67 : decode cX9_doClause 67 = .ok (.invokevirtual 89, 3) := by decide +kernel
theorem dX9_doClause_70 : decode cX9_doClause 70 = .ok (.goto 81, 3) := by decide +kernel
theorem dX9_doClause_73 : decode cX9_doClause 73 = .ok (.aload_n 0, 1) := by decide +kernel
theorem dX9_doClause_74 : decode cX9_doClause 74 = .ok (.getfield 11, 3) := by decide +kernel
theorem dX9_doClause_77 : decode cX9_doClause 77 = .ok (.aload_n 2, 1) := by decide +kernel
theorem dX9_doClause_78 : decode cX9_doClause 78 = .ok (.iconst 0, 1) := by decide +kernel
theorem dX9_doClause_79 : decode cX9_doClause 79 = .ok (.iaload, 1) := by decide +kernel
theorem dX9_doClause_80 : decode cX9_doClause 80 = .ok (.aaload, 1) := by decide +kernel
theorem dX9_doClause_81 : decode cX9_doClause 81 = .ok (.getfield 93, 3) := by decide +kernel
theorem dX9_doClause_84 : decode cX9_doClause 84 = .ok (.aload_n 2, 1) := by decide +kernel
theorem dX9_doClause_85 : decode cX9_doClause 85 = .ok (.iconst 1, 1) := by decide +kernel
theorem dX9_doClause_86 : decode cX9_doClause 86 = .ok (.iaload, 1) := by decide +kernel
theorem dX9_doClause_87 : decode cX9_doClause 87 = .ok (.aload_n 2, 1) := by decide +kernel
theorem dX9_doClause_88 : decode cX9_doClause 88 = .ok (.iconst 2, 1) := by decide +kernel
theorem dX9_doClause_89 : decode cX9_doClause 89 = .ok (.iaload, 1) := by decide +kernel
theorem dX9_doClause_90 : decode cX9_doClause 90 = .ok (.iastore, 1) := by decide +kernel
theorem dX9_doClause_91 : decode cX9_doClause 91 = .ok (.goto 60, 3) := by decide +kernel
theorem dX9_doClause_94 : decode cX9_doClause 94 = .ok (.aload_n 0, 1) := by decide +kernel
theorem dX9_doClause_95 : decode cX9_doClause 95 = .ok (.getfield 24, 3) := by decide +kernel
theorem dX9_doClause_98 : decode cX9_doClause 98 = .ok (.getfield 96, 3) := by decide +kernel
theorem dX9_doClause_101 : decode cX9_doClause 101 = .ok (.aload_n 2, 1) := by decide +kernel
theorem dX9_doClause_102 : decode cX9_doClause 102 = .ok (.iconst 0, 1) := by decide +kernel
theorem dX9_doClause_103 : decode cX9_doClause 103 = .ok (.iaload, 1) := by decide +kernel
theorem dX9_doClause_104 : decode cX9_doClause 104 = .ok (.aload_n 2, 1) := by decide +kernel
theorem dX9_doClause_105 : decode cX9_doClause 105 = .ok (.iconst 1, 1) := by decide +kernel
theorem dX9_doClause_106 : decode cX9_doClause 106 = .ok (.iaload, 1) := by decide +kernel
theorem dX9_doClause_107 : decode cX9_doClause 107 = .ok (.iastore, 1) := by decide +kernel
theorem dX9_doClause_108 : decode cX9_doClause 108 = .ok (.goto 43, 3) := by decide +kernel
theorem dX9_doClause_111 : decode cX9_doClause 111 = .ok (.aload_n 0, 1) := by decide +kernel
theorem dX9_doClause_112 : decode cX9_doClause 112 = .ok (.getfield 17, 3) := by decide +kernel
theorem dX9_doClause_115 : decode cX9_doClause 115 = .ok (.aload_n 2, 1) := by decide +kernel
theorem dX9_doClause_116 : decode cX9_doClause 116 = .ok (.iconst 0, 1) := by decide +kernel
theorem dX9_doClause_117 : decode cX9_doClause 117 = .ok (.iaload, 1) := by decide +kernel
theorem dX9_doClause_118 : decode cX9_doClause 118 = .ok (.aaload, 1) := by decide +kernel
theorem dX9_doClause_119 : decode cX9_doClause 119 = .ok (.aload_n 2, 1) := by decide +kernel
theorem dX9_doClause_120 : decode cX9_doClause 120 = .ok (.iconst 1, 1) := by decide +kernel
theorem dX9_doClause_121 : decode cX9_doClause 121 = .ok (.iaload, 1) := by decide +kernel
theorem dX9_doClause_122 : decode cX9_doClause 122 = .ok (.aload_n 2, 1) := by decide +kernel
theorem dX9_doClause_123 : decode cX9_doClause 123 = .ok (.iconst 2, 1) := by decide +kernel
theorem dX9_doClause_124 : decode cX9_doClause 124 = .ok (.iaload, 1) := by decide +kernel
theorem dX9_doClause_125 : decode cX9_doClause 125 = .ok (.invokevirtual 99, 3) := by decide +kernel
theorem dX9_doClause_128 : decode cX9_doClause 128 = .ok (.goto 23, 3) := by decide +kernel
theorem dX9_doClause_131 : decode cX9_doClause 131 = .ok (.aload_n 0, 1) := by decide +kernel
theorem dX9_doClause_132 : decode cX9_doClause 132 = .ok (.aload_n 2, 1) := by decide +kernel
theorem dX9_doClause_133 : decode cX9_doClause 133 = .ok (.iconst 0, 1) := by decide +kernel
theorem dX9_doClause_134 : decode cX9_doClause 134 = .ok (.iaload, 1) := by decide +kernel
theorem dX9_doClause_135 : decode cX9_doClause 135 = .ok (.invokevirtual 103, 3) := by decide +kernel
theorem dX9_doClause_138 : decode cX9_doClause 138 = .ok (.ifCond .ne 13, 3) := by decide +kernel
theorem dX9_doClause_141 : decode cX9_doClause 141 = .ok (.aload_n 0, 1) := by decide +kernel
theorem dX9_doClause_142 : decode cX9_doClause 142 = .ok (.aload_n 2, 1) := by decide +kernel
theorem dX9_doClause_143 : decode cX9_doClause 143 = .ok (.iconst 0, 1) := by decide +kernel
theorem dX9_doClause_144 : decode cX9_doClause 144 = .ok (.iaload, 1) := by decide +kernel
theorem dX9_doClause_145 : decode cX9_doClause 145 = .ok (.invokevirtual 107, 3) := by decide +kernel
theorem dX9_doClause_148 : decode cX9_doClause 148 = .ok (.goto 3, 3) := by decide +kernel
theorem dX9_doClause_151 : decode cX9_doClause 151 = .ok (.return_, 1) := by decide +kernel
theorem dX9_resetAll_0 : decode cX9_resetAll 0 = .ok (.iconst 0, 1) := by decide +kernel
theorem dX9_resetAll_1 : decode cX9_resetAll 1 = .ok (.istore_n 1, 1) := by decide +kernel
theorem dX9_resetAll_2 : decode cX9_resetAll 2 = .ok (.iload_n 1, 1) := by decide +kernel
theorem dX9_resetAll_3 : decode cX9_resetAll 3 = .ok (.iconst 2, 1) := by decide +kernel
theorem dX9_resetAll_4 : decode cX9_resetAll 4 = .ok (.if_icmp .ge 18, 3) := by decide +kernel
theorem dX9_resetAll_7 : decode cX9_resetAll 7 = .ok (.aload_n 0, 1) := by decide +kernel
theorem dX9_resetAll_8 : decode cX9_resetAll 8 = .ok (.getfield 11, 3) := by decide +kernel
theorem dX9_resetAll_11 : decode cX9_resetAll 11 = .ok (.iload_n 1, 1) := by decide +kernel
theorem dX9_resetAll_12 : decode cX9_resetAll 12 = .ok (.aaload, 1) := by decide +kernel
theorem dX9_resetAll_13 : decode cX9_resetAll 13 = .ok (.invokevirtual 111, 3) := by decide +kernel
theorem dX9_resetAll_16 : decode cX9_resetAll 16 = .ok (.iinc 1 1, 3) := by decide +kernel
theorem dX9_resetAll_19 : decode cX9_resetAll 19 = .ok (.goto (-17), 3) := by decide +kernel
theorem dX9_resetAll_22 : decode cX9_resetAll 22 = .ok (.iconst 0, 1) := by decide +kernel
theorem dX9_resetAll_23 : decode cX9_resetAll 23 = .ok (.istore_n 1, 1) := by decide +kernel
theorem dX9_resetAll_24 : decode cX9_resetAll 24 = .ok (.iload_n 1, 1) := by decide +kernel
theorem dX9_resetAll_25 : decode cX9_resetAll 25 = .ok (.iconst 4, 1) := by decide +kernel
theorem dX9_resetAll_26 : decode cX9_resetAll 26 = .ok (.if_icmp .ge 18, 3) := by decide +kernel
theorem dX9_resetAll_29 : decode cX9_resetAll 29 = .ok (.aload_n 0, 1) := by decide +kernel
theorem dX9_resetAll_30 : decode cX9_resetAll 30 = .ok (.getfield 17, 3) := by decide +kernel
theorem dX9_resetAll_33 : decode cX9_resetAll 33 = .ok (.iload_n 1, 1) := by decide +kernel
theorem dX9_resetAll_34 : decode cX9_resetAll 34 = .ok (.aaload, 1) := by decide +kernel
theorem dX9_resetAll_35 : decode cX9_resetAll 35 = .ok (.invokevirtual 114, 3) := by decide +kernel
theorem dX9_resetAll_38 : decode cX9_resetAll 38 = .ok (.iinc 1 1, 3) := by decide +kernel
theorem dX9_resetAll_41 : decode cX9_resetAll 41 = .ok (.goto (-17), 3) := by decide +kernel
theorem dX9_resetAll_44 : decode cX9_resetAll 44 = .ok (.aload_n 0, 1) := by decide +kernel
theorem dX9_resetAll_45 : decode cX9_resetAll 45 = .ok (.getfield 24, 3) := by decide +kernel
theorem dX9_resetAll_48 : decode cX9_resetAll 48 = .ok (.invokevirtual 115, 3) := by decide +kernel
theorem dX9_resetAll_51 : decode cX9_resetAll 51 = .ok (.aload_n 0, 1) := by decide +kernel
theorem dX9_resetAll_52 : decode cX9_resetAll 52 = .ok (.aconst_null, 1) := by decide +kernel
theorem dX9_resetAll_53 : decode cX9_resetAll 53 = .ok (.putfield 35, 3) := by decide +kernel
theorem dX9_resetAll_56 : decode cX9_resetAll 56 = .ok (.return_, 1) := by decide +kernel
theorem dX9_cell_0 : decode cX9_cell 0 = .ok (.iload_n 1, 1) := by decide +kernel
theorem dX9_cell_1 : decode cX9_cell 1 = .ok (.invokestatic 116, 3) := by decide +kernel
theorem dX9_cell_4 : decode cX9_cell 4 = .ok (.ifCond .ne 10, 3) := by decide +kernel
theorem dX9_cell_7 : decode cX9_cell 7 = .ok (.iload_n 2, 1) := by decide +kernel
theorem dX9_cell_8 : decode cX9_cell 8 = .ok (.invokestatic 119, 3) := by decide +kernel
theorem dX9_cell_11 : decode cX9_cell 11 = .ok (.ifCond .eq 7, 3) := by decide +kernel
theorem dX9_cell_14 : decode cX9_cell 14 = .ok (.sipush (-1001), 3) := by decide +kernel
theorem dX9_cell_17 : decode cX9_cell 17 = .ok (.ireturn, 1) := by decide +kernel
theorem dX9_cell_18 : decode cX9_cell 18 = .ok (.aload_n 0, 1) := by decide +kernel
theorem dX9_cell_19 : decode cX9_cell 19 = .ok (.getfield 11, 3) := by decide +kernel
theorem dX9_cell_22 : decode cX9_cell 22 = .ok (.iload_n 1, 1) := by decide +kernel
theorem dX9_cell_23 : decode cX9_cell 23 = .ok (.aaload, 1) := by decide +kernel
theorem dX9_cell_24 : decode cX9_cell 24 = .ok (.getfield 93, 3) := by decide +kernel
theorem dX9_cell_27 : decode cX9_cell 27 = .ok (.iload_n 2, 1) := by decide +kernel
theorem dX9_cell_28 : decode cX9_cell 28 = .ok (.iaload, 1) := by decide +kernel
theorem dX9_cell_29 : decode cX9_cell 29 = .ok (.ireturn, 1) := by decide +kernel
theorem dX9_put_0 : decode cX9_put 0 = .ok (.iload_n 1, 1) := by decide +kernel
theorem dX9_put_1 : decode cX9_put 1 = .ok (.invokestatic 116, 3) := by decide +kernel
theorem dX9_put_4 : decode cX9_put 4 = .ok (.ifCond .ne 10, 3) := by decide +kernel
theorem dX9_put_7 : decode cX9_put 7 = .ok (.iload_n 2, 1) := by decide +kernel
theorem dX9_put_8 : decode cX9_put 8 = .ok (.invokestatic 119, 3) := by decide +kernel
theorem dX9_put_11 : decode cX9_put 11 = .ok (.ifCond .eq 7, 3) := by decide +kernel
theorem dX9_put_14 : decode cX9_put 14 = .ok (.sipush (-1001), 3) := by decide +kernel
theorem dX9_put_17 : decode cX9_put 17 = .ok (.ireturn, 1) := by decide +kernel
theorem dX9_put_18 : decode cX9_put 18 = .ok (.iload_n 3, 1) := by decide +kernel
theorem dX9_put_19 : decode cX9_put 19 = .ok (.invokestatic 122, 3) := by decide +kernel
theorem dX9_put_22 : decode cX9_put 22 = .ok (.ifCond .eq 7, 3) := by decide +kernel
theorem dX9_put_25 : decode cX9_put 25 = .ok (.sipush (-1002), 3) := by decide +kernel
theorem dX9_put_28 : decode cX9_put 28 = .ok (.ireturn, 1) := by decide +kernel
theorem dX9_put_29 : decode cX9_put 29 = .ok (.aload_n 0, 1) := by decide +kernel
theorem dX9_put_30 : decode cX9_put 30 = .ok (.getfield 11, 3) := by decide +kernel
theorem dX9_put_33 : decode cX9_put 33 = .ok (.iload_n 1, 1) := by decide +kernel
theorem dX9_put_34 : decode cX9_put 34 = .ok (.aaload, 1) := by decide +kernel
theorem dX9_put_35 : decode cX9_put 35 = .ok (.getfield 93, 3) := by decide +kernel
theorem dX9_put_38 : decode cX9_put 38 = .ok (.iload_n 2, 1) := by decide +kernel
theorem dX9_put_39 : decode cX9_put 39 = .ok (.iaload, 1) := by decide +kernel
theorem dX9_put_40 : decode cX9_put 40 = .ok (.istore 4, 2) := by decide +kernel
theorem dX9_put_42 : decode cX9_put 42 = .ok (.aload_n 0, 1) := by decide +kernel
theorem dX9_put_43 : decode cX9_put 43 = .ok (.getfield 11, 3) := by decide +kernel
theorem dX9_put_46 : decode cX9_put 46 = .ok (.iload_n 1, 1) := by decide +kernel
theorem dX9_put_47 : decode cX9_put 47 = .ok (.aaload, 1) := by decide +kernel
theorem dX9_put_48 : decode cX9_put 48 = .ok (.getfield 93, 3) := by decide +kernel
theorem dX9_put_51 : decode cX9_put 51 = .ok (.iload_n 2, 1) := by decide +kernel
theorem dX9_put_52 : decode cX9_put 52 = .ok (.iload_n 3, 1) := by decide +kernel
theorem dX9_put_53 : decode cX9_put 53 = .ok (.iastore, 1) := by decide +kernel
theorem dX9_put_54 : decode cX9_put 54 = .ok (.iload 4, 2) := by decide +kernel
theorem dX9_put_56 : decode cX9_put 56 = .ok (.ireturn, 1) := by decide +kernel
theorem dX9_key_0 : decode cX9_key 0 = .ok (.iload_n 1, 1) := by decide +kernel
theorem dX9_key_1 : decode cX9_key 1 = .ok (.invokestatic 116, 3) := by decide +kernel
theorem dX9_key_4 : decode cX9_key 4 = .ok (.ifCond .ne 10, 3) := by decide +kernel
theorem dX9_key_7 : decode cX9_key 7 = .ok (.iload_n 2, 1) := by decide +kernel
theorem dX9_key_8 : decode cX9_key 8 = .ok (.invokestatic 125, 3) := by decide +kernel
theorem dX9_key_11 : decode cX9_key 11 = .ok (.ifCond .eq 7, 3) := by decide +kernel
theorem dX9_key_14 : decode cX9_key 14 = .ok (.sipush (-1001), 3) := by decide +kernel
theorem dX9_key_17 : decode cX9_key 17 = .ok (.ireturn, 1) := by decide +kernel
theorem dX9_key_18 : decode cX9_key 18 = .ok (.iload_n 3, 1) := by decide +kernel
theorem dX9_key_19 : decode cX9_key 19 = .ok (.invokestatic 119, 3) := by decide +kernel
theorem dX9_key_22 : decode cX9_key 22 = .ok (.ifCond .ne 27, 3) := by decide +kernel
theorem dX9_key_25 : decode cX9_key 25 = .ok (.iload 4, 2) := by decide +kernel
theorem dX9_key_27 : decode cX9_key 27 = .ok (.iconst 1, 1) := by decide +kernel
theorem dX9_key_28 : decode cX9_key 28 = .ok (.bipush 12, 2) := by decide +kernel
theorem dX9_key_30 : decode cX9_key 30 = .ok (.iload_n 3, 1) := by decide +kernel
theorem dX9_key_31 : decode cX9_key 31 = .ok (.isub, 1) := by decide +kernel
theorem dX9_key_32 : decode cX9_key 32 = .ok (.invokestatic 47, 3) := by decide +kernel
theorem dX9_key_35 : decode cX9_key 35 = .ok (.ifCond .ne 14, 3) := by decide +kernel
theorem dX9_key_38 : decode cX9_key 38 = .ok (.iload 5, 2) := by decide +kernel
theorem dX9_key_40 : decode cX9_key 40 = .ok (.iconst 0, 1) := by decide +kernel
theorem dX9_key_41 : decode cX9_key 41 = .ok (.bipush 7, 2) := by decide +kernel
theorem dX9_key_43 : decode cX9_key 43 = .ok (.invokestatic 47, 3) := by decide +kernel
theorem dX9_key_46 : decode cX9_key 46 = .ok (.ifCond .eq 7, 3) := by decide +kernel
theorem dX9_key_49 : decode cX9_key 49 = .ok (.sipush (-1002), 3) := by decide +kernel
theorem dX9_key_52 : decode cX9_key 52 = .ok (.ireturn, 1) := by decide +kernel
theorem dX9_key_53 : decode cX9_key 53 = .ok (.aload_n 0, 1) := by decide +kernel
theorem dX9_key_54 : decode cX9_key 54 = .ok (.getfield 11, 3) := by decide +kernel
theorem dX9_key_57 : decode cX9_key 57 = .ok (.iload_n 1, 1) := by decide +kernel
theorem dX9_key_58 : decode cX9_key 58 = .ok (.aaload, 1) := by decide +kernel
theorem dX9_key_59 : decode cX9_key 59 = .ok (.iload_n 2, 1) := by decide +kernel
theorem dX9_key_60 : decode cX9_key 60 = .ok (.iload_n 3, 1) := by decide +kernel
theorem dX9_key_61 : decode cX9_key 61 = .ok (.iload 4, 2) := by decide +kernel
theorem dX9_key_63 : decode cX9_key 63 = .ok (.iload 5, 2) := by decide +kernel
theorem dX9_key_65 : decode cX9_key 65 = .ok (.invokevirtual 89, 3) := by decide +kernel
theorem dX9_key_68 : decode cX9_key 68 = .ok (.aload_n 0, 1) := by decide +kernel
theorem dX9_key_69 : decode cX9_key 69 = .ok (.getfield 11, 3) := by decide +kernel
theorem dX9_key_72 : decode cX9_key 72 = .ok (.iload_n 1, 1) := by decide +kernel
theorem dX9_key_73 : decode cX9_key 73 = .ok (.aaload, 1) := by decide +kernel
theorem dX9_key_74 : decode cX9_key 74 = .ok (.invokevirtual 128, 3) := by decide +kernel
theorem dX9_key_77 : decode cX9_key 77 = .ok (.ireturn, 1) := by decide +kernel
theorem dX9_lock_0 : decode cX9_lock 0 = .ok (.iload_n 1, 1) := by decide +kernel
theorem dX9_lock_1 : decode cX9_lock 1 = .ok (.invokestatic 116, 3) := by decide +kernel
theorem dX9_lock_4 : decode cX9_lock 4 = .ok (.ifCond .ne 10, 3) := by decide +kernel
theorem dX9_lock_7 : decode cX9_lock 7 = .ok (.iload_n 2, 1) := by decide +kernel
theorem dX9_lock_8 : decode cX9_lock 8 = .ok (.invokestatic 125, 3) := by decide +kernel
theorem dX9_lock_11 : decode cX9_lock 11 = .ok (.ifCond .eq 7, 3) := by decide +kernel
theorem dX9_lock_14 : decode cX9_lock 14 = .ok (.sipush (-1001), 3) := by decide +kernel
theorem dX9_lock_17 : decode cX9_lock 17 = .ok (.ireturn, 1) := by decide +kernel
theorem dX9_lock_18 : decode cX9_lock 18 = .ok (.aload_n 0, 1) := by decide +kernel
theorem dX9_lock_19 : decode cX9_lock 19 = .ok (.getfield 11, 3) := by decide +kernel
theorem dX9_lock_22 : decode cX9_lock 22 = .ok (.iload_n 1, 1) := by decide +kernel
theorem dX9_lock_23 : decode cX9_lock 23 = .ok (.aaload, 1) := by decide +kernel
theorem dX9_lock_24 : decode cX9_lock 24 = .ok (.getfield 131, 3) := by decide +kernel
theorem dX9_lock_27 : decode cX9_lock 27 = .ok (.iload_n 2, 1) := by decide +kernel
theorem dX9_lock_28 : decode cX9_lock 28 = .ok (.aaload, 1) := by decide +kernel
theorem dX9_lock_29 : decode cX9_lock 29 = .ok (.getfield 135, 3) := by decide +kernel
theorem dX9_lock_32 : decode cX9_lock 32 = .ok (.ifCond .ne 7, 3) := by decide +kernel
theorem dX9_lock_35 : decode cX9_lock 35 = .ok (.sipush (-1003), 3) := by decide +kernel
theorem dX9_lock_38 : decode cX9_lock 38 = .ok (.ireturn, 1) := by decide +kernel
theorem dX9_lock_39 : decode cX9_lock 39 = .ok (.aload_n 0, 1) := by decide +kernel
theorem dX9_lock_40 : decode cX9_lock 40 = .ok (.getfield 11, 3) := by decide +kernel
theorem dX9_lock_43 : decode cX9_lock 43 = .ok (.iload_n 1, 1) := by decide +kernel
theorem dX9_lock_44 : decode cX9_lock 44 = .ok (.aaload, 1) := by decide +kernel
theorem dX9_lock_45 : decode cX9_lock 45 = .ok (.getfield 131, 3) := by decide +kernel
theorem dX9_lock_48 : decode cX9_lock 48 = .ok (.iload_n 2, 1) := by decide +kernel
theorem dX9_lock_49 : decode cX9_lock 49 = .ok (.aaload, 1) := by decide +kernel
theorem dX9_lock_50 : decode cX9_lock 50 = .ok (.iconst 0, 1) := by decide +kernel
theorem dX9_lock_51 : decode cX9_lock 51 = .ok (.putfield 135, 3) := by decide +kernel
theorem dX9_lock_54 : decode cX9_lock 54 = .ok (.aload_n 0, 1) := by decide +kernel
theorem dX9_lock_55 : decode cX9_lock 55 = .ok (.getfield 11, 3) := by decide +kernel
theorem dX9_lock_58 : decode cX9_lock 58 = .ok (.iload_n 1, 1) := by decide +kernel
theorem dX9_lock_59 : decode cX9_lock 59 = .ok (.aaload, 1) := by decide +kernel
theorem dX9_lock_60 : decode cX9_lock 60 = .ok (.invokevirtual 128, 3) := by decide +kernel
theorem dX9_lock_63 : decode cX9_lock 63 = .ok (.ireturn, 1) := by decide +kernel
theorem dX9_door_0 : decode cX9_door 0 = .ok (.iload_n 1, 1) := by decide +kernel
theorem dX9_door_1 : decode cX9_door 1 = .ok (.invokestatic 116, 3) := by decide +kernel
theorem dX9_door_4 : decode cX9_door 4 = .ok (.ifCond .ne 10, 3) := by decide +kernel
theorem dX9_door_7 : decode cX9_door 7 = .ok (.iload_n 2, 1) := by decide +kernel
theorem dX9_door_8 : decode cX9_door 8 = .ok (.invokestatic 125, 3) := by decide +kernel
theorem dX9_door_11 : decode cX9_door 11 = .ok (.ifCond .eq 7, 3) := by decide +kernel
theorem dX9_door_14 : decode cX9_door 14 = .ok (.sipush (-1001), 3) := by decide +kernel
theorem dX9_door_17 : decode cX9_door 17 = .ok (.ireturn, 1) := by decide +kernel
theorem dX9_door_18 : decode cX9_door 18 = .ok (.iload_n 3, 1) := by decide +kernel
theorem dX9_door_19 : decode cX9_door 19 = .ok (.iconst 0, 1) := by decide +kernel
theorem dX9_door_20 : decode cX9_door 20 = .ok (.iconst 2, 1) := by decide +kernel
theorem dX9_door_21 : decode cX9_door 21 = .ok (.invokestatic 47, 3) := by decide +kernel
theorem dX9_door_24 : decode cX9_door 24 = .ok (.ifCond .eq 7, 3) := by decide +kernel
theorem dX9_door_27 : decode cX9_door 27 = .ok (.sipush (-1002), 3) := by decide +kernel
theorem dX9_door_30 : decode cX9_door 30 = .ok (.ireturn, 1) := by decide +kernel
theorem dX9_door_31 : decode cX9_door 31 = .ok (.aload_n 0, 1) := by decide +kernel
theorem dX9_door_32 : decode cX9_door 32 = .ok (.getfield 11, 3) := by decide +kernel
theorem dX9_door_35 : decode cX9_door 35 = .ok (.iload_n 1, 1) := by decide +kernel
theorem dX9_door_36 : decode cX9_door 36 = .ok (.aaload, 1) := by decide +kernel
theorem dX9_door_37 : decode cX9_door 37 = .ok (.getfield 131, 3) := by decide +kernel
theorem dX9_door_40 : decode cX9_door 40 = .ok (.iload_n 2, 1) := by decide +kernel
theorem dX9_door_41 : decode cX9_door 41 = .ok (.aaload, 1) := by decide +kernel
theorem dX9_door_42 : decode cX9_door 42 = .ok (.astore 4, 2) := by decide +kernel
theorem dX9_door_44 : decode cX9_door 44 = .ok (.aload 4, 2) := by decide +kernel
theorem dX9_door_46 : decode cX9_door 46 = .ok (.getfield 135, 3) := by decide +kernel
theorem dX9_door_49 : decode cX9_door 49 = .ok (.ifCond .ne 7, 3) := by decide +kernel
theorem dX9_door_52 : decode cX9_door 52 = .ok (.sipush (-1003), 3) := by decide +kernel
theorem dX9_door_55 : decode cX9_door 55 = .ok (.ireturn, 1) := by decide +kernel
theorem dX9_door_56 : decode cX9_door 56 = .ok (.iload_n 3, 1) := by decide +kernel
theorem dX9_door_57 : decode cX9_door 57 = .ok (.lookupswitch 39 #[(0, 27), (1, 33)], 27) := by decide +kernel
theorem dX9_door_84 : decode cX9_door 84 = .ok (.aload 4, 2) := by decide +kernel
theorem dX9_door_86 : decode cX9_door 86 = .ok (.getfield 141, 3) := by decide +kernel
theorem dX9_door_89 : decode cX9_door 89 = .ok (.ireturn, 1) := by decide +kernel
theorem dX9_door_90 : decode cX9_door 90 = .ok (.aload 4, 2) := by decide +kernel
theorem dX9_door_92 : decode cX9_door 92 = .ok (.getfield 144, 3) := by decide +kernel
theorem dX9_door_95 : decode cX9_door 95 = .ok (.ireturn, 1) := by decide +kernel
theorem dX9_door_96 : decode cX9_door 96 = .ok (.aload 4, 2) := by decide +kernel
theorem dX9_door_98 : decode cX9_door 98 = .ok (.getfield 145, 3) := by decide +kernel
theorem dX9_door_101 : decode cX9_door 101 = .ok (.ireturn, 1) := by decide +kernel
theorem dX9_join_0 : decode cX9_join 0 = .ok (.iload_n 1, 1) := by decide +kernel
theorem dX9_join_1 : decode cX9_join 1 = .ok (.invokestatic 148, 3) := by decide +kernel
theorem dX9_join_4 : decode cX9_join 4 = .ok (.ifCond .eq 7, 3) := by decide +kernel
theorem dX9_join_7 : decode cX9_join 7 = .ok (.sipush (-1001), 3) := by decide +kernel
theorem dX9_join_10 : decode cX9_join 10 = .ok (.ireturn, 1) := by decide +kernel
theorem dX9_join_11 : decode cX9_join 11 = .ok (.aload_n 0, 1) := by decide +kernel
theorem dX9_join_12 : decode cX9_join 12 = .ok (.iload_n 1, 1) := by decide +kernel
theorem dX9_join_13 : decode cX9_join 13 = .ok (.invokevirtual 103, 3) := by decide +kernel
theorem dX9_join_16 : decode cX9_join 16 = .ok (.ifCond .eq 7, 3) := by decide +kernel
end
section
theorem dX9_join_19 : decode cX9_join 19 = .ok (.sipush (-1003), 3) := by decide +kernel
theorem dX9_join_22 : decode cX9_join 22 = .ok (.ireturn, 1) := by decide +kernel
theorem dX9_join_23 : decode cX9_join 23 = .ok (.aload_n 0, 1) := by decide +kernel
theorem dX9_join_24 : decode cX9_join 24 = .ok (.iload_n 1, 1) := by decide +kernel
theorem dX9_join_25 : decode cX9_join 25 = .ok (.invokevirtual 107, 3) := by decide +kernel
theorem dX9_join_28 : decode cX9_join 28 = .ok (.aload_n 0, 1) := by decide +kernel
theorem dX9_join_29 : decode cX9_join 29 = .ok (.invokevirtual 151, 3) := by decide +kernel
theorem dX9_join_32 : decode cX9_join 32 = .ok (.ireturn, 1) := by decide +kernel
theorem dX9_hasReadyEnd_0 : decode cX9_hasReadyEnd 0 = .ok (.aload_n 0, 1) := by decide +kernel
theorem dX9_hasReadyEnd_1 : decode cX9_hasReadyEnd 1 = .ok (.getfield 17, 3) := by decide +kernel
theorem dX9_hasReadyEnd_4 : decode cX9_hasReadyEnd 4 = .ok (.iload_n 1, 1) := by decide +kernel
theorem dX9_hasReadyEnd_5 : decode cX9_hasReadyEnd 5 = .ok (.invokestatic 154, 3) := by decide +kernel
theorem dX9_hasReadyEnd_8 : decode cX9_hasReadyEnd 8 = .ok (.aaload, 1) := by decide +kernel
theorem dX9_hasReadyEnd_9 : decode cX9_hasReadyEnd 9 = .ok (.getfield 158, 3) := by decide +kernel
theorem dX9_hasReadyEnd_12 : decode cX9_hasReadyEnd 12 = .ok (.iconst 1, 1) := by decide +kernel
theorem dX9_hasReadyEnd_13 : decode cX9_hasReadyEnd 13 = .ok (.if_icmp .eq 22, 3) := by decide +kernel
theorem dX9_hasReadyEnd_16 : decode cX9_hasReadyEnd 16 = .ok (.aload_n 0, 1) := by decide +kernel
theorem dX9_hasReadyEnd_17 : decode cX9_hasReadyEnd 17 = .ok (.getfield 17, 3) := by decide +kernel
theorem dX9_hasReadyEnd_20 : decode cX9_hasReadyEnd 20 = .ok (.iload_n 1, 1) := by decide +kernel
theorem dX9_hasReadyEnd_21 : decode cX9_hasReadyEnd 21 = .ok (.invokestatic 154, 3) := by decide +kernel
theorem dX9_hasReadyEnd_24 : decode cX9_hasReadyEnd 24 = .ok (.invokestatic 161, 3) := by decide +kernel
theorem dX9_hasReadyEnd_27 : decode cX9_hasReadyEnd 27 = .ok (.aaload, 1) := by decide +kernel
theorem dX9_hasReadyEnd_28 : decode cX9_hasReadyEnd 28 = .ok (.getfield 158, 3) := by decide +kernel
theorem dX9_hasReadyEnd_31 : decode cX9_hasReadyEnd 31 = .ok (.iconst 1, 1) := by decide +kernel
theorem dX9_hasReadyEnd_32 : decode cX9_hasReadyEnd 32 = .ok (.if_icmp .ne 7, 3) := by decide +kernel
theorem dX9_hasReadyEnd_35 : decode cX9_hasReadyEnd 35 = .ok (.iconst 1, 1) := by decide +kernel
theorem dX9_hasReadyEnd_36 : decode cX9_hasReadyEnd 36 = .ok (.goto 4, 3) := by decide +kernel
theorem dX9_hasReadyEnd_39 : decode cX9_hasReadyEnd 39 = .ok (.iconst 0, 1) := by decide +kernel
theorem dX9_hasReadyEnd_40 : decode cX9_hasReadyEnd 40 = .ok (.ireturn, 1) := by decide +kernel
theorem dX9_joinLine_0 : decode cX9_joinLine 0 = .ok (.aload_n 0, 1) := by decide +kernel
theorem dX9_joinLine_1 : decode cX9_joinLine 1 = .ok (.getfield 17, 3) := by decide +kernel
theorem dX9_joinLine_4 : decode cX9_joinLine 4 = .ok (.iload_n 1, 1) := by decide +kernel
theorem dX9_joinLine_5 : decode cX9_joinLine 5 = .ok (.invokestatic 154, 3) := by decide +kernel
theorem dX9_joinLine_8 : decode cX9_joinLine 8 = .ok (.aaload, 1) := by decide +kernel
theorem dX9_joinLine_9 : decode cX9_joinLine 9 = .ok (.iconst 1, 1) := by decide +kernel
theorem dX9_joinLine_10 : decode cX9_joinLine 10 = .ok (.invokevirtual 164, 3) := by decide +kernel
theorem dX9_joinLine_13 : decode cX9_joinLine 13 = .ok (.aload_n 0, 1) := by decide +kernel
theorem dX9_joinLine_14 : decode cX9_joinLine 14 = .ok (.getfield 17, 3) := by decide +kernel
theorem dX9_joinLine_17 : decode cX9_joinLine 17 = .ok (.iload_n 1, 1) := by decide +kernel
theorem dX9_joinLine_18 : decode cX9_joinLine 18 = .ok (.invokestatic 154, 3) := by decide +kernel
theorem dX9_joinLine_21 : decode cX9_joinLine 21 = .ok (.invokestatic 161, 3) := by decide +kernel
theorem dX9_joinLine_24 : decode cX9_joinLine 24 = .ok (.aaload, 1) := by decide +kernel
theorem dX9_joinLine_25 : decode cX9_joinLine 25 = .ok (.iconst 1, 1) := by decide +kernel
theorem dX9_joinLine_26 : decode cX9_joinLine 26 = .ok (.invokevirtual 164, 3) := by decide +kernel
theorem dX9_joinLine_29 : decode cX9_joinLine 29 = .ok (.aload_n 0, 1) := by decide +kernel
theorem dX9_joinLine_30 : decode cX9_joinLine 30 = .ok (.getfield 24, 3) := by decide +kernel
theorem dX9_joinLine_33 : decode cX9_joinLine 33 = .ok (.iload_n 1, 1) := by decide +kernel
theorem dX9_joinLine_34 : decode cX9_joinLine 34 = .ok (.invokevirtual 167, 3) := by decide +kernel
theorem dX9_joinLine_37 : decode cX9_joinLine 37 = .ok (.return_, 1) := by decide +kernel
theorem dX9_readyEnds_0 : decode cX9_readyEnds 0 = .ok (.iconst 0, 1) := by decide +kernel
theorem dX9_readyEnds_1 : decode cX9_readyEnds 1 = .ok (.istore_n 1, 1) := by decide +kernel
theorem dX9_readyEnds_2 : decode cX9_readyEnds 2 = .ok (.iconst 0, 1) := by decide +kernel
theorem dX9_readyEnds_3 : decode cX9_readyEnds 3 = .ok (.istore_n 2, 1) := by decide +kernel
theorem dX9_readyEnds_4 : decode cX9_readyEnds 4 = .ok (.iload_n 2, 1) := by decide +kernel
theorem dX9_readyEnds_5 : decode cX9_readyEnds 5 = .ok (.iconst 4, 1) := by decide +kernel
theorem dX9_readyEnds_6 : decode cX9_readyEnds 6 = .ok (.if_icmp .ge 25, 3) := by decide +kernel
theorem dX9_readyEnds_9 : decode cX9_readyEnds 9 = .ok (.aload_n 0, 1) := by decide +kernel
theorem dX9_readyEnds_10 : decode cX9_readyEnds 10 = .ok (.getfield 17, 3) := by decide +kernel
theorem dX9_readyEnds_13 : decode cX9_readyEnds 13 = .ok (.iload_n 2, 1) := by decide +kernel
theorem dX9_readyEnds_14 : decode cX9_readyEnds 14 = .ok (.aaload, 1) := by decide +kernel
theorem dX9_readyEnds_15 : decode cX9_readyEnds 15 = .ok (.getfield 158, 3) := by decide +kernel
theorem dX9_readyEnds_18 : decode cX9_readyEnds 18 = .ok (.iconst 1, 1) := by decide +kernel
theorem dX9_readyEnds_19 : decode cX9_readyEnds 19 = .ok (.if_icmp .ne 6, 3) := by decide +kernel
theorem dX9_readyEnds_22 : decode cX9_readyEnds 22 = .ok (.iinc 1 1, 3) := by decide +kernel
theorem dX9_readyEnds_25 : decode cX9_readyEnds 25 = .ok (.iinc 2 1, 3) := by decide +kernel
theorem dX9_readyEnds_28 : decode cX9_readyEnds 28 = .ok (.goto (-24), 3) := by decide +kernel
theorem dX9_readyEnds_31 : decode cX9_readyEnds 31 = .ok (.iload_n 1, 1) := by decide +kernel
theorem dX9_readyEnds_32 : decode cX9_readyEnds 32 = .ok (.ireturn, 1) := by decide +kernel
theorem dX9_tear_0 : decode cX9_tear 0 = .ok (.iload_n 1, 1) := by decide +kernel
theorem dX9_tear_1 : decode cX9_tear 1 = .ok (.invokestatic 170, 3) := by decide +kernel
theorem dX9_tear_4 : decode cX9_tear 4 = .ok (.ifCond .eq 7, 3) := by decide +kernel
theorem dX9_tear_7 : decode cX9_tear 7 = .ok (.sipush (-1001), 3) := by decide +kernel
theorem dX9_tear_10 : decode cX9_tear 10 = .ok (.ireturn, 1) := by decide +kernel
theorem dX9_tear_11 : decode cX9_tear 11 = .ok (.aload_n 0, 1) := by decide +kernel
theorem dX9_tear_12 : decode cX9_tear 12 = .ok (.getfield 17, 3) := by decide +kernel
theorem dX9_tear_15 : decode cX9_tear 15 = .ok (.iload_n 1, 1) := by decide +kernel
theorem dX9_tear_16 : decode cX9_tear 16 = .ok (.aaload, 1) := by decide +kernel
theorem dX9_tear_17 : decode cX9_tear 17 = .ok (.astore_n 2, 1) := by decide +kernel
theorem dX9_tear_18 : decode cX9_tear 18 = .ok (.aload_n 2, 1) := by decide +kernel
theorem dX9_tear_19 : decode cX9_tear 19 = .ok (.getfield 158, 3) := by decide +kernel
theorem dX9_tear_22 : decode cX9_tear 22 = .ok (.iconst 1, 1) := by decide +kernel
theorem dX9_tear_23 : decode cX9_tear 23 = .ok (.if_icmp .eq 7, 3) := by decide +kernel
theorem dX9_tear_26 : decode cX9_tear 26 = .ok (.sipush (-1003), 3) := by decide +kernel
theorem dX9_tear_29 : decode cX9_tear 29 = .ok (.ireturn, 1) := by decide +kernel
theorem dX9_tear_30 : decode cX9_tear 30 = .ok (.aload_n 2, 1) := by decide +kernel
theorem dX9_tear_31 : decode cX9_tear 31 = .ok (.getfield 173, 3) := by decide +kernel
theorem dX9_tear_34 : decode cX9_tear 34 = .ok (.aload_n 2, 1) := by decide +kernel
theorem dX9_tear_35 : decode cX9_tear 35 = .ok (.getfield 176, 3) := by decide +kernel
theorem dX9_tear_38 : decode cX9_tear 38 = .ok (.iadd, 1) := by decide +kernel
theorem dX9_tear_39 : decode cX9_tear 39 = .ok (.istore_n 3, 1) := by decide +kernel
theorem dX9_tear_40 : decode cX9_tear 40 = .ok (.aload_n 2, 1) := by decide +kernel
theorem dX9_tear_41 : decode cX9_tear 41 = .ok (.invokevirtual 179, 3) := by decide +kernel
theorem dX9_tear_44 : decode cX9_tear 44 = .ok (.iload_n 3, 1) := by decide +kernel
theorem dX9_tear_45 : decode cX9_tear 45 = .ok (.ireturn, 1) := by decide +kernel
theorem dX9_delay_0 : decode cX9_delay 0 = .ok (.iload_n 1, 1) := by decide +kernel
theorem dX9_delay_1 : decode cX9_delay 1 = .ok (.invokestatic 148, 3) := by decide +kernel
theorem dX9_delay_4 : decode cX9_delay 4 = .ok (.ifCond .eq 7, 3) := by decide +kernel
theorem dX9_delay_7 : decode cX9_delay 7 = .ok (.sipush (-1001), 3) := by decide +kernel
theorem dX9_delay_10 : decode cX9_delay 10 = .ok (.ireturn, 1) := by decide +kernel
theorem dX9_delay_11 : decode cX9_delay 11 = .ok (.iload_n 2, 1) := by decide +kernel
theorem dX9_delay_12 : decode cX9_delay 12 = .ok (.iconst 1, 1) := by decide +kernel
theorem dX9_delay_13 : decode cX9_delay 13 = .ok (.bipush 9, 2) := by decide +kernel
theorem dX9_delay_15 : decode cX9_delay 15 = .ok (.invokestatic 47, 3) := by decide +kernel
theorem dX9_delay_18 : decode cX9_delay 18 = .ok (.ifCond .eq 7, 3) := by decide +kernel
theorem dX9_delay_21 : decode cX9_delay 21 = .ok (.sipush (-1002), 3) := by decide +kernel
theorem dX9_delay_24 : decode cX9_delay 24 = .ok (.ireturn, 1) := by decide +kernel
theorem dX9_delay_25 : decode cX9_delay 25 = .ok (.aload_n 0, 1) := by decide +kernel
theorem dX9_delay_26 : decode cX9_delay 26 = .ok (.getfield 24, 3) := by decide +kernel
theorem dX9_delay_29 : decode cX9_delay 29 = .ok (.getfield 96, 3) := by decide +kernel
theorem dX9_delay_32 : decode cX9_delay 32 = .ok (.iload_n 1, 1) := by decide +kernel
theorem dX9_delay_33 : decode cX9_delay 33 = .ok (.iaload, 1) := by decide +kernel
theorem dX9_delay_34 : decode cX9_delay 34 = .ok (.istore_n 3, 1) := by decide +kernel
theorem dX9_delay_35 : decode cX9_delay 35 = .ok (.aload_n 0, 1) := by decide +kernel
theorem dX9_delay_36 : decode cX9_delay 36 = .ok (.getfield 24, 3) := by decide +kernel
theorem dX9_delay_39 : decode cX9_delay 39 = .ok (.getfield 96, 3) := by decide +kernel
theorem dX9_delay_42 : decode cX9_delay 42 = .ok (.iload_n 1, 1) := by decide +kernel
theorem dX9_delay_43 : decode cX9_delay 43 = .ok (.iload_n 2, 1) := by decide +kernel
theorem dX9_delay_44 : decode cX9_delay 44 = .ok (.iastore, 1) := by decide +kernel
theorem dX9_delay_45 : decode cX9_delay 45 = .ok (.iload_n 3, 1) := by decide +kernel
theorem dX9_delay_46 : decode cX9_delay 46 = .ok (.ireturn, 1) := by decide +kernel
theorem dX9_aim_0 : decode cX9_aim 0 = .ok (.iload_n 1, 1) := by decide +kernel
theorem dX9_aim_1 : decode cX9_aim 1 = .ok (.invokestatic 170, 3) := by decide +kernel
theorem dX9_aim_4 : decode cX9_aim 4 = .ok (.ifCond .ne 10, 3) := by decide +kernel
theorem dX9_aim_7 : decode cX9_aim 7 = .ok (.iload_n 2, 1) := by decide +kernel
theorem dX9_aim_8 : decode cX9_aim 8 = .ok (.invokestatic 125, 3) := by decide +kernel
theorem dX9_aim_11 : decode cX9_aim 11 = .ok (.ifCond .eq 7, 3) := by decide +kernel
theorem dX9_aim_14 : decode cX9_aim 14 = .ok (.sipush (-1001), 3) := by decide +kernel
theorem dX9_aim_17 : decode cX9_aim 17 = .ok (.ireturn, 1) := by decide +kernel
theorem dX9_aim_18 : decode cX9_aim 18 = .ok (.iload_n 3, 1) := by decide +kernel
theorem dX9_aim_19 : decode cX9_aim 19 = .ok (.iconst 0, 1) := by decide +kernel
theorem dX9_aim_20 : decode cX9_aim 20 = .ok (.bipush 11, 2) := by decide +kernel
theorem dX9_aim_22 : decode cX9_aim 22 = .ok (.invokestatic 47, 3) := by decide +kernel
theorem dX9_aim_25 : decode cX9_aim 25 = .ok (.ifCond .eq 7, 3) := by decide +kernel
theorem dX9_aim_28 : decode cX9_aim 28 = .ok (.sipush (-1002), 3) := by decide +kernel
theorem dX9_aim_31 : decode cX9_aim 31 = .ok (.ireturn, 1) := by decide +kernel
theorem dX9_aim_32 : decode cX9_aim 32 = .ok (.aload_n 0, 1) := by decide +kernel
theorem dX9_aim_33 : decode cX9_aim 33 = .ok (.getfield 17, 3) := by decide +kernel
theorem dX9_aim_36 : decode cX9_aim 36 = .ok (.iload_n 1, 1) := by decide +kernel
theorem dX9_aim_37 : decode cX9_aim 37 = .ok (.aaload, 1) := by decide +kernel
theorem dX9_aim_38 : decode cX9_aim 38 = .ok (.getfield 182, 3) := by decide +kernel
theorem dX9_aim_41 : decode cX9_aim 41 = .ok (.iload_n 2, 1) := by decide +kernel
theorem dX9_aim_42 : decode cX9_aim 42 = .ok (.if_icmp .ne 20, 3) := by decide +kernel
theorem dX9_aim_45 : decode cX9_aim 45 = .ok (.aload_n 0, 1) := by decide +kernel
theorem dX9_aim_46 : decode cX9_aim 46 = .ok (.getfield 17, 3) := by decide +kernel
theorem dX9_aim_49 : decode cX9_aim 49 = .ok (.iload_n 1, 1) := by decide +kernel
theorem dX9_aim_50 : decode cX9_aim 50 = .ok (.aaload, 1) := by decide +kernel
theorem dX9_aim_51 : decode cX9_aim 51 = .ok (.getfield 185, 3) := by decide +kernel
theorem dX9_aim_54 : decode cX9_aim 54 = .ok (.iload_n 3, 1) := by decide +kernel
theorem dX9_aim_55 : decode cX9_aim 55 = .ok (.if_icmp .ne 7, 3) := by decide +kernel
theorem dX9_aim_58 : decode cX9_aim 58 = .ok (.iconst 1, 1) := by decide +kernel
theorem dX9_aim_59 : decode cX9_aim 59 = .ok (.goto 4, 3) := by decide +kernel
theorem dX9_aim_62 : decode cX9_aim 62 = .ok (.iconst 0, 1) := by decide +kernel
theorem dX9_aim_63 : decode cX9_aim 63 = .ok (.istore 4, 2) := by decide +kernel
theorem dX9_aim_65 : decode cX9_aim 65 = .ok (.aload_n 0, 1) := by decide +kernel
theorem dX9_aim_66 : decode cX9_aim 66 = .ok (.getfield 17, 3) := by decide +kernel
theorem dX9_aim_69 : decode cX9_aim 69 = .ok (.iload_n 1, 1) := by decide +kernel
theorem dX9_aim_70 : decode cX9_aim 70 = .ok (.aaload, 1) := by decide +kernel
theorem dX9_aim_71 : decode cX9_aim 71 = .ok (.iload_n 2, 1) := by decide +kernel
theorem dX9_aim_72 : decode cX9_aim 72 = .ok (.iload_n 3, 1) := by decide +kernel
theorem dX9_aim_73 : decode cX9_aim 73 = .ok (.invokevirtual 99, 3) := by decide +kernel
theorem dX9_aim_76 : decode cX9_aim 76 = .ok (.iload 4, 2) := by decide +kernel
theorem dX9_aim_78 : decode cX9_aim 78 = .ok (.ifCond .eq 7, 3) := by decide +kernel
theorem dX9_aim_81 : decode cX9_aim 81 = .ok (.iconst 0, 1) := by decide +kernel
theorem dX9_aim_82 : decode cX9_aim 82 = .ok (.goto 4, 3) := by decide +kernel
theorem dX9_aim_85 : decode cX9_aim 85 = .ok (.iconst 1, 1) := by decide +kernel
theorem dX9_aim_86 : decode cX9_aim 86 = .ok (.ireturn, 1) := by decide +kernel
theorem dX9_send_0 : decode cX9_send 0 = .ok (.iload_n 1, 1) := by decide +kernel
theorem dX9_send_1 : decode cX9_send 1 = .ok (.invokestatic 170, 3) := by decide +kernel
theorem dX9_send_4 : decode cX9_send 4 = .ok (.ifCond .eq 7, 3) := by decide +kernel
theorem dX9_send_7 : decode cX9_send 7 = .ok (.sipush (-1001), 3) := by decide +kernel
theorem dX9_send_10 : decode cX9_send 10 = .ok (.ireturn, 1) := by decide +kernel
theorem dX9_send_11 : decode cX9_send 11 = .ok (.iload_n 2, 1) := by decide +kernel
theorem dX9_send_12 : decode cX9_send 12 = .ok (.invokestatic 122, 3) := by decide +kernel
theorem dX9_send_15 : decode cX9_send 15 = .ok (.ifCond .eq 9, 3) := by decide +kernel
theorem dX9_send_18 : decode cX9_send 18 = .ok (.sipush (-1002), 3) := by decide +kernel
theorem dX9_send_21 : decode cX9_send 21 = .ok (.goto 16, 3) := by decide +kernel
theorem dX9_send_24 : decode cX9_send 24 = .ok (.aload_n 0, 1) := by decide +kernel
theorem dX9_send_25 : decode cX9_send 25 = .ok (.getfield 17, 3) := by decide +kernel
theorem dX9_send_28 : decode cX9_send 28 = .ok (.iload_n 1, 1) := by decide +kernel
theorem dX9_send_29 : decode cX9_send 29 = .ok (.aaload, 1) := by decide +kernel
theorem dX9_send_30 : decode cX9_send 30 = .ok (.iconst 0, 1) := by decide +kernel
theorem dX9_send_31 : decode cX9_send 31 = .ok (.iload_n 2, 1) := by decide +kernel
theorem dX9_send_32 : decode cX9_send 32 = .ok (.iconst 0, 1) := by decide +kernel
theorem dX9_send_33 : decode cX9_send 33 = .ok (.iconst 0, 1) := by decide +kernel
theorem dX9_send_34 : decode cX9_send 34 = .ok (.invokevirtual 188, 3) := by decide +kernel
theorem dX9_send_37 : decode cX9_send 37 = .ok (.ireturn, 1) := by decide +kernel
theorem dX9_store_0 : decode cX9_store 0 = .ok (.iload_n 1, 1) := by decide +kernel
theorem dX9_store_1 : decode cX9_store 1 = .ok (.invokestatic 170, 3) := by decide +kernel
theorem dX9_store_4 : decode cX9_store 4 = .ok (.ifCond .eq 7, 3) := by decide +kernel
theorem dX9_store_7 : decode cX9_store 7 = .ok (.sipush (-1001), 3) := by decide +kernel
theorem dX9_store_10 : decode cX9_store 10 = .ok (.ireturn, 1) := by decide +kernel
theorem dX9_store_11 : decode cX9_store 11 = .ok (.iload_n 2, 1) := by decide +kernel
theorem dX9_store_12 : decode cX9_store 12 = .ok (.invokestatic 122, 3) := by decide +kernel
theorem dX9_store_15 : decode cX9_store 15 = .ok (.ifCond .eq 9, 3) := by decide +kernel
theorem dX9_store_18 : decode cX9_store 18 = .ok (.sipush (-1002), 3) := by decide +kernel
theorem dX9_store_21 : decode cX9_store 21 = .ok (.goto 16, 3) := by decide +kernel
theorem dX9_store_24 : decode cX9_store 24 = .ok (.aload_n 0, 1) := by decide +kernel
theorem dX9_store_25 : decode cX9_store 25 = .ok (.getfield 17, 3) := by decide +kernel
theorem dX9_store_28 : decode cX9_store 28 = .ok (.iload_n 1, 1) := by decide +kernel
theorem dX9_store_29 : decode cX9_store 29 = .ok (.aaload, 1) := by decide +kernel
theorem dX9_store_30 : decode cX9_store 30 = .ok (.iconst 1, 1) := by decide +kernel
theorem dX9_store_31 : decode cX9_store 31 = .ok (.iload_n 2, 1) := by decide +kernel
theorem dX9_store_32 : decode cX9_store 32 = .ok (.iconst 0, 1) := by decide +kernel
theorem dX9_store_33 : decode cX9_store 33 = .ok (.iconst 0, 1) := by decide +kernel
theorem dX9_store_34 : decode cX9_store 34 = .ok (.invokevirtual 188, 3) := by decide +kernel
theorem dX9_store_37 : decode cX9_store 37 = .ok (.ireturn, 1) := by decide +kernel
theorem dX9_read_0 : decode cX9_read 0 = .ok (.iload_n 1, 1) := by decide +kernel
theorem dX9_read_1 : decode cX9_read 1 = .ok (.invokestatic 170, 3) := by decide +kernel
theorem dX9_read_4 : decode cX9_read 4 = .ok (.ifCond .ne 10, 3) := by decide +kernel
theorem dX9_read_7 : decode cX9_read 7 = .ok (.iload_n 2, 1) := by decide +kernel
theorem dX9_read_8 : decode cX9_read 8 = .ok (.invokestatic 119, 3) := by decide +kernel
theorem dX9_read_11 : decode cX9_read 11 = .ok (.ifCond .eq 7, 3) := by decide +kernel
theorem dX9_read_14 : decode cX9_read 14 = .ok (.sipush (-1001), 3) := by decide +kernel
theorem dX9_read_17 : decode cX9_read 17 = .ok (.ireturn, 1) := by decide +kernel
theorem dX9_read_18 : decode cX9_read 18 = .ok (.aload_n 0, 1) := by decide +kernel
theorem dX9_read_19 : decode cX9_read 19 = .ok (.getfield 17, 3) := by decide +kernel
theorem dX9_read_22 : decode cX9_read 22 = .ok (.iload_n 1, 1) := by decide +kernel
theorem dX9_read_23 : decode cX9_read 23 = .ok (.aaload, 1) := by decide +kernel
theorem dX9_read_24 : decode cX9_read 24 = .ok (.iconst 2, 1) := by decide +kernel
theorem dX9_read_25 : decode cX9_read 25 = .ok (.iconst 0, 1) := by decide +kernel
theorem dX9_read_26 : decode cX9_read 26 = .ok (.iconst 0, 1) := by decide +kernel
theorem dX9_read_27 : decode cX9_read 27 = .ok (.iload_n 2, 1) := by decide +kernel
theorem dX9_read_28 : decode cX9_read 28 = .ok (.invokevirtual 188, 3) := by decide +kernel
theorem dX9_read_31 : decode cX9_read 31 = .ok (.ireturn, 1) := by decide +kernel
theorem dX9_add_0 : decode cX9_add 0 = .ok (.iload_n 1, 1) := by decide +kernel
theorem dX9_add_1 : decode cX9_add 1 = .ok (.invokestatic 170, 3) := by decide +kernel
theorem dX9_add_4 : decode cX9_add 4 = .ok (.ifCond .ne 10, 3) := by decide +kernel
theorem dX9_add_7 : decode cX9_add 7 = .ok (.iload_n 3, 1) := by decide +kernel
theorem dX9_add_8 : decode cX9_add 8 = .ok (.invokestatic 119, 3) := by decide +kernel
theorem dX9_add_11 : decode cX9_add 11 = .ok (.ifCond .eq 7, 3) := by decide +kernel
theorem dX9_add_14 : decode cX9_add 14 = .ok (.sipush (-1001), 3) := by decide +kernel
theorem dX9_add_17 : decode cX9_add 17 = .ok (.ireturn, 1) := by decide +kernel
theorem dX9_add_18 : decode cX9_add 18 = .ok (.iload_n 2, 1) := by decide +kernel
theorem dX9_add_19 : decode cX9_add 19 = .ok (.invokestatic 122, 3) := by decide +kernel
theorem dX9_add_22 : decode cX9_add 22 = .ok (.ifCond .eq 9, 3) := by decide +kernel
theorem dX9_add_25 : decode cX9_add 25 = .ok (.sipush (-1002), 3) := by decide +kernel
theorem dX9_add_28 : decode cX9_add 28 = .ok (.goto 16, 3) := by decide +kernel
theorem dX9_add_31 : decode cX9_add 31 = .ok (.aload_n 0, 1) := by decide +kernel
theorem dX9_add_32 : decode cX9_add 32 = .ok (.getfield 17, 3) := by decide +kernel
theorem dX9_add_35 : decode cX9_add 35 = .ok (.iload_n 1, 1) := by decide +kernel
theorem dX9_add_36 : decode cX9_add 36 = .ok (.aaload, 1) := by decide +kernel
theorem dX9_add_37 : decode cX9_add 37 = .ok (.iconst 3, 1) := by decide +kernel
theorem dX9_add_38 : decode cX9_add 38 = .ok (.iload_n 2, 1) := by decide +kernel
theorem dX9_add_39 : decode cX9_add 39 = .ok (.iconst 0, 1) := by decide +kernel
theorem dX9_add_40 : decode cX9_add 40 = .ok (.iload_n 3, 1) := by decide +kernel
theorem dX9_add_41 : decode cX9_add 41 = .ok (.invokevirtual 188, 3) := by decide +kernel
theorem dX9_add_44 : decode cX9_add 44 = .ok (.ireturn, 1) := by decide +kernel
theorem dX9_swap_0 : decode cX9_swap 0 = .ok (.iload_n 1, 1) := by decide +kernel
theorem dX9_swap_1 : decode cX9_swap 1 = .ok (.invokestatic 170, 3) := by decide +kernel
theorem dX9_swap_4 : decode cX9_swap 4 = .ok (.ifCond .ne 11, 3) := by decide +kernel
theorem dX9_swap_7 : decode cX9_swap 7 = .ok (.iload 4, 2) := by decide +kernel
theorem dX9_swap_9 : decode cX9_swap 9 = .ok (.invokestatic 119, 3) := by decide +kernel
theorem dX9_swap_12 : decode cX9_swap 12 = .ok (.ifCond .eq 7, 3) := by decide +kernel
theorem dX9_swap_15 : decode cX9_swap 15 = .ok (.sipush (-1001), 3) := by decide +kernel
theorem dX9_swap_18 : decode cX9_swap 18 = .ok (.ireturn, 1) := by decide +kernel
theorem dX9_swap_19 : decode cX9_swap 19 = .ok (.iload_n 2, 1) := by decide +kernel
theorem dX9_swap_20 : decode cX9_swap 20 = .ok (.invokestatic 122, 3) := by decide +kernel
theorem dX9_swap_23 : decode cX9_swap 23 = .ok (.ifCond .ne 10, 3) := by decide +kernel
theorem dX9_swap_26 : decode cX9_swap 26 = .ok (.iload_n 3, 1) := by decide +kernel
theorem dX9_swap_27 : decode cX9_swap 27 = .ok (.invokestatic 122, 3) := by decide +kernel
theorem dX9_swap_30 : decode cX9_swap 30 = .ok (.ifCond .eq 9, 3) := by decide +kernel
theorem dX9_swap_33 : decode cX9_swap 33 = .ok (.sipush (-1002), 3) := by decide +kernel
theorem dX9_swap_36 : decode cX9_swap 36 = .ok (.goto 17, 3) := by decide +kernel
theorem dX9_swap_39 : decode cX9_swap 39 = .ok (.aload_n 0, 1) := by decide +kernel
theorem dX9_swap_40 : decode cX9_swap 40 = .ok (.getfield 17, 3) := by decide +kernel
theorem dX9_swap_43 : decode cX9_swap 43 = .ok (.iload_n 1, 1) := by decide +kernel
theorem dX9_swap_44 : decode cX9_swap 44 = .ok (.aaload, 1) := by decide +kernel
theorem dX9_swap_45 : decode cX9_swap 45 = .ok (.iconst 4, 1) := by decide +kernel
theorem dX9_swap_46 : decode cX9_swap 46 = .ok (.iload_n 2, 1) := by decide +kernel
theorem dX9_swap_47 : decode cX9_swap 47 = .ok (.iload_n 3, 1) := by decide +kernel
theorem dX9_swap_48 : decode cX9_swap 48 = .ok (.iload 4, 2) := by decide +kernel
theorem dX9_swap_50 : decode cX9_swap 50 = .ok (.invokevirtual 188, 3) := by decide +kernel
theorem dX9_swap_53 : decode cX9_swap 53 = .ok (.ireturn, 1) := by decide +kernel
theorem dX9_receive_0 : decode cX9_receive 0 = .ok (.iload_n 1, 1) := by decide +kernel
theorem dX9_receive_1 : decode cX9_receive 1 = .ok (.invokestatic 170, 3) := by decide +kernel
theorem dX9_receive_4 : decode cX9_receive 4 = .ok (.ifCond .ne 10, 3) := by decide +kernel
theorem dX9_receive_7 : decode cX9_receive 7 = .ok (.iload_n 2, 1) := by decide +kernel
theorem dX9_receive_8 : decode cX9_receive 8 = .ok (.invokestatic 119, 3) := by decide +kernel
theorem dX9_receive_11 : decode cX9_receive 11 = .ok (.ifCond .eq 7, 3) := by decide +kernel
theorem dX9_receive_14 : decode cX9_receive 14 = .ok (.sipush (-1001), 3) := by decide +kernel
theorem dX9_receive_17 : decode cX9_receive 17 = .ok (.ireturn, 1) := by decide +kernel
theorem dX9_receive_18 : decode cX9_receive 18 = .ok (.aload_n 0, 1) := by decide +kernel
theorem dX9_receive_19 : decode cX9_receive 19 = .ok (.getfield 17, 3) := by decide +kernel
theorem dX9_receive_22 : decode cX9_receive 22 = .ok (.iload_n 1, 1) := by decide +kernel
theorem dX9_receive_23 : decode cX9_receive 23 = .ok (.aaload, 1) := by decide +kernel
theorem dX9_receive_24 : decode cX9_receive 24 = .ok (.iload_n 2, 1) := by decide +kernel
theorem dX9_receive_25 : decode cX9_receive 25 = .ok (.invokevirtual 192, 3) := by decide +kernel
theorem dX9_receive_28 : decode cX9_receive 28 = .ok (.ireturn, 1) := by decide +kernel
theorem dX9_step_0 : decode cX9_step 0 = .ok (.iload_n 1, 1) := by decide +kernel
theorem dX9_step_1 : decode cX9_step 1 = .ok (.iconst 0, 1) := by decide +kernel
theorem dX9_step_2 : decode cX9_step 2 = .ok (.iconst 2, 1) := by decide +kernel
theorem dX9_step_3 : decode cX9_step 3 = .ok (.invokestatic 47, 3) := by decide +kernel
theorem dX9_step_6 : decode cX9_step 6 = .ok (.ifCond .eq 7, 3) := by decide +kernel
theorem dX9_step_9 : decode cX9_step 9 = .ok (.sipush (-1002), 3) := by decide +kernel
theorem dX9_step_12 : decode cX9_step 12 = .ok (.ireturn, 1) := by decide +kernel
theorem dX9_step_13 : decode cX9_step 13 = .ok (.aload_n 0, 1) := by decide +kernel
theorem dX9_step_14 : decode cX9_step 14 = .ok (.getfield 24, 3) := by decide +kernel
theorem dX9_step_17 : decode cX9_step 17 = .ok (.invokevirtual 195, 3) := by decide +kernel
theorem dX9_step_20 : decode cX9_step 20 = .ok (.astore_n 2, 1) := by decide +kernel
theorem dX9_step_21 : decode cX9_step 21 = .ok (.aload_n 2, 1) := by decide +kernel
theorem dX9_step_22 : decode cX9_step 22 = .ok (.ifnonnull 7, 3) := by decide +kernel
theorem dX9_step_25 : decode cX9_step 25 = .ok (.sipush (-1003), 3) := by decide +kernel
theorem dX9_step_28 : decode cX9_step 28 = .ok (.ireturn, 1) := by decide +kernel
theorem dX9_step_29 : decode cX9_step 29 = .ok (.iload_n 1, 1) := by decide +kernel
theorem dX9_step_30 : decode cX9_step 30 = .ok (.iconst 1, 1) := by decide +kernel
theorem dX9_step_31 : decode cX9_step 31 = .ok (.if_icmp .ne 21, 3) := by decide +kernel
theorem dX9_step_34 : decode cX9_step 34 = .ok (.aload_n 0, 1) := by decide +kernel
theorem dX9_step_35 : decode cX9_step 35 = .ok (.getfield 24, 3) := by decide +kernel
theorem dX9_step_38 : decode cX9_step 38 = .ok (.dup, 1) := by decide +kernel
theorem dX9_step_39 : decode cX9_step 39 = .ok (.getfield 199, 3) := by decide +kernel
theorem dX9_step_42 : decode cX9_step 42 = .ok (.iconst 1, 1) := by decide +kernel
theorem dX9_step_43 : decode cX9_step 43 = .ok (.iadd, 1) := by decide +kernel
theorem dX9_step_44 : decode cX9_step 44 = .ok (.putfield 199, 3) := by decide +kernel
theorem dX9_step_47 : decode cX9_step 47 = .ok (.aload_n 2, 1) := by decide +kernel
theorem dX9_step_48 : decode cX9_step 48 = .ok (.getfield 202, 3) := by decide +kernel
theorem dX9_step_51 : decode cX9_step 51 = .ok (.ireturn, 1) := by decide +kernel
theorem dX9_step_52 : decode cX9_step 52 = .ok (.aload_n 0, 1) := by decide +kernel
theorem dX9_step_53 : decode cX9_step 53 = .ok (.getfield 24, 3) := by decide +kernel
theorem dX9_step_56 : decode cX9_step 56 = .ok (.aload_n 2, 1) := by decide +kernel
theorem dX9_step_57 : decode cX9_step 57 = .ok (.getfield 207, 3) := by decide +kernel
theorem dX9_step_60 : decode cX9_step 60 = .ok (.invokevirtual 210, 3) := by decide +kernel
theorem dX9_step_63 : decode cX9_step 63 = .ok (.iload_n 1, 1) := by decide +kernel
theorem dX9_step_64 : decode cX9_step 64 = .ok (.iconst 2, 1) := by decide +kernel
theorem dX9_step_65 : decode cX9_step 65 = .ok (.if_icmp .ne 11, 3) := by decide +kernel
theorem dX9_step_68 : decode cX9_step 68 = .ok (.aload_n 0, 1) := by decide +kernel
theorem dX9_step_69 : decode cX9_step 69 = .ok (.getfield 24, 3) := by decide +kernel
theorem dX9_step_72 : decode cX9_step 72 = .ok (.aload_n 2, 1) := by decide +kernel
theorem dX9_step_73 : decode cX9_step 73 = .ok (.invokevirtual 213, 3) := by decide +kernel
theorem dX9_step_76 : decode cX9_step 76 = .ok (.aload_n 0, 1) := by decide +kernel
theorem dX9_step_77 : decode cX9_step 77 = .ok (.getfield 17, 3) := by decide +kernel
theorem dX9_step_80 : decode cX9_step 80 = .ok (.aload_n 2, 1) := by decide +kernel
theorem dX9_step_81 : decode cX9_step 81 = .ok (.getfield 202, 3) := by decide +kernel
theorem dX9_step_84 : decode cX9_step 84 = .ok (.aaload, 1) := by decide +kernel
theorem dX9_step_85 : decode cX9_step 85 = .ok (.aload_n 2, 1) := by decide +kernel
theorem dX9_step_86 : decode cX9_step 86 = .ok (.invokevirtual 217, 3) := by decide +kernel
theorem dX9_step_89 : decode cX9_step 89 = .ok (.aload_n 2, 1) := by decide +kernel
theorem dX9_step_90 : decode cX9_step 90 = .ok (.getfield 202, 3) := by decide +kernel
theorem dX9_step_93 : decode cX9_step 93 = .ok (.ireturn, 1) := by decide +kernel
theorem dX9_tick_0 : decode cX9_tick 0 = .ok (.iload_n 1, 1) := by decide +kernel
theorem dX9_tick_1 : decode cX9_tick 1 = .ok (.invokestatic 170, 3) := by decide +kernel
theorem dX9_tick_4 : decode cX9_tick 4 = .ok (.ifCond .eq 7, 3) := by decide +kernel
theorem dX9_tick_7 : decode cX9_tick 7 = .ok (.sipush (-1001), 3) := by decide +kernel
theorem dX9_tick_10 : decode cX9_tick 10 = .ok (.ireturn, 1) := by decide +kernel
theorem dX9_tick_11 : decode cX9_tick 11 = .ok (.aload_n 0, 1) := by decide +kernel
theorem dX9_tick_12 : decode cX9_tick 12 = .ok (.getfield 17, 3) := by decide +kernel
theorem dX9_tick_15 : decode cX9_tick 15 = .ok (.iload_n 1, 1) := by decide +kernel
theorem dX9_tick_16 : decode cX9_tick 16 = .ok (.aaload, 1) := by decide +kernel
theorem dX9_tick_17 : decode cX9_tick 17 = .ok (.getfield 158, 3) := by decide +kernel
theorem dX9_tick_20 : decode cX9_tick 20 = .ok (.iconst 1, 1) := by decide +kernel
theorem dX9_tick_21 : decode cX9_tick 21 = .ok (.if_icmp .ne 15, 3) := by decide +kernel
theorem dX9_tick_24 : decode cX9_tick 24 = .ok (.aload_n 0, 1) := by decide +kernel
theorem dX9_tick_25 : decode cX9_tick 25 = .ok (.getfield 17, 3) := by decide +kernel
theorem dX9_tick_28 : decode cX9_tick 28 = .ok (.iload_n 1, 1) := by decide +kernel
theorem dX9_tick_29 : decode cX9_tick 29 = .ok (.aaload, 1) := by decide +kernel
theorem dX9_tick_30 : decode cX9_tick 30 = .ok (.getfield 173, 3) := by decide +kernel
theorem dX9_tick_33 : decode cX9_tick 33 = .ok (.ifCond .ne 7, 3) := by decide +kernel
theorem dX9_tick_36 : decode cX9_tick 36 = .ok (.sipush (-1003), 3) := by decide +kernel
theorem dX9_tick_39 : decode cX9_tick 39 = .ok (.ireturn, 1) := by decide +kernel
theorem dX9_tick_40 : decode cX9_tick 40 = .ok (.aload_n 0, 1) := by decide +kernel
theorem dX9_tick_41 : decode cX9_tick 41 = .ok (.getfield 17, 3) := by decide +kernel
theorem dX9_tick_44 : decode cX9_tick 44 = .ok (.iload_n 1, 1) := by decide +kernel
theorem dX9_tick_45 : decode cX9_tick 45 = .ok (.aaload, 1) := by decide +kernel
theorem dX9_tick_46 : decode cX9_tick 46 = .ok (.invokevirtual 220, 3) := by decide +kernel
theorem dX9_tick_49 : decode cX9_tick 49 = .ok (.aload_n 0, 1) := by decide +kernel
theorem dX9_tick_50 : decode cX9_tick 50 = .ok (.getfield 17, 3) := by decide +kernel
theorem dX9_tick_53 : decode cX9_tick 53 = .ok (.iload_n 1, 1) := by decide +kernel
theorem dX9_tick_54 : decode cX9_tick 54 = .ok (.aaload, 1) := by decide +kernel
theorem dX9_tick_55 : decode cX9_tick 55 = .ok (.getfield 223, 3) := by decide +kernel
theorem dX9_tick_58 : decode cX9_tick 58 = .ok (.ireturn, 1) := by decide +kernel
theorem dX9_take_0 : decode cX9_take 0 = .ok (.iload_n 1, 1) := by decide +kernel
theorem dX9_take_1 : decode cX9_take 1 = .ok (.invokestatic 116, 3) := by decide +kernel
theorem dX9_take_4 : decode cX9_take 4 = .ok (.ifCond .eq 7, 3) := by decide +kernel
theorem dX9_take_7 : decode cX9_take 7 = .ok (.sipush (-1001), 3) := by decide +kernel
theorem dX9_take_10 : decode cX9_take 10 = .ok (.ireturn, 1) := by decide +kernel
theorem dX9_take_11 : decode cX9_take 11 = .ok (.aload_n 0, 1) := by decide +kernel
theorem dX9_take_12 : decode cX9_take 12 = .ok (.getfield 11, 3) := by decide +kernel
theorem dX9_take_15 : decode cX9_take 15 = .ok (.iload_n 1, 1) := by decide +kernel
theorem dX9_take_16 : decode cX9_take 16 = .ok (.aaload, 1) := by decide +kernel
theorem dX9_take_17 : decode cX9_take 17 = .ok (.invokevirtual 226, 3) := by decide +kernel
theorem dX9_take_20 : decode cX9_take 20 = .ok (.astore_n 2, 1) := by decide +kernel
theorem dX9_take_21 : decode cX9_take 21 = .ok (.aload_n 2, 1) := by decide +kernel
theorem dX9_take_22 : decode cX9_take 22 = .ok (.ifnonnull 5, 3) := by decide +kernel
theorem dX9_take_25 : decode cX9_take 25 = .ok (.iconst (-1), 1) := by decide +kernel
theorem dX9_take_26 : decode cX9_take 26 = .ok (.ireturn, 1) := by decide +kernel
theorem dX9_take_27 : decode cX9_take 27 = .ok (.aload_n 0, 1) := by decide +kernel
theorem dX9_take_28 : decode cX9_take 28 = .ok (.aload_n 2, 1) := by decide +kernel
theorem dX9_take_29 : decode cX9_take 29 = .ok (.putfield 35, 3) := by decide +kernel
theorem dX9_take_32 : decode cX9_take 32 = .ok (.aload_n 0, 1) := by decide +kernel
theorem dX9_take_33 : decode cX9_take 33 = .ok (.iload_n 1, 1) := by decide +kernel
theorem dX9_take_34 : decode cX9_take 34 = .ok (.putfield 39, 3) := by decide +kernel
theorem dX9_take_37 : decode cX9_take 37 = .ok (.aload_n 2, 1) := by decide +kernel
theorem dX9_take_38 : decode cX9_take 38 = .ok (.getfield 230, 3) := by decide +kernel
theorem dX9_take_41 : decode cX9_take 41 = .ok (.ireturn, 1) := by decide +kernel
theorem dX9_taken_0 : decode cX9_taken 0 = .ok (.iload_n 1, 1) := by decide +kernel
theorem dX9_taken_1 : decode cX9_taken 1 = .ok (.iconst 0, 1) := by decide +kernel
theorem dX9_taken_2 : decode cX9_taken 2 = .ok (.iconst 5, 1) := by decide +kernel
theorem dX9_taken_3 : decode cX9_taken 3 = .ok (.invokestatic 47, 3) := by decide +kernel
theorem dX9_taken_6 : decode cX9_taken 6 = .ok (.ifCond .eq 7, 3) := by decide +kernel
theorem dX9_taken_9 : decode cX9_taken 9 = .ok (.sipush (-1002), 3) := by decide +kernel
theorem dX9_taken_12 : decode cX9_taken 12 = .ok (.ireturn, 1) := by decide +kernel
theorem dX9_taken_13 : decode cX9_taken 13 = .ok (.aload_n 0, 1) := by decide +kernel
theorem dX9_taken_14 : decode cX9_taken 14 = .ok (.getfield 35, 3) := by decide +kernel
theorem dX9_taken_17 : decode cX9_taken 17 = .ok (.ifnonnull 5, 3) := by decide +kernel
theorem dX9_taken_20 : decode cX9_taken 20 = .ok (.iconst (-1), 1) := by decide +kernel
theorem dX9_taken_21 : decode cX9_taken 21 = .ok (.ireturn, 1) := by decide +kernel
theorem dX9_taken_22 : decode cX9_taken 22 = .ok (.iload_n 1, 1) := by decide +kernel
theorem dX9_taken_23 : decode cX9_taken 23 = .ok (.tableswitch 70 0 4 #[33, 38, 46, 54, 62], 33) := by decide +kernel
theorem dX9_taken_56 : decode cX9_taken 56 = .ok (.aload_n 0, 1) := by decide +kernel
theorem dX9_taken_57 : decode cX9_taken 57 = .ok (.getfield 39, 3) := by decide +kernel
theorem dX9_taken_60 : decode cX9_taken 60 = .ok (.ireturn, 1) := by decide +kernel
theorem dX9_taken_61 : decode cX9_taken 61 = .ok (.aload_n 0, 1) := by decide +kernel
theorem dX9_taken_62 : decode cX9_taken 62 = .ok (.getfield 35, 3) := by decide +kernel
theorem dX9_taken_65 : decode cX9_taken 65 = .ok (.getfield 235, 3) := by decide +kernel
theorem dX9_taken_68 : decode cX9_taken 68 = .ok (.ireturn, 1) := by decide +kernel
theorem dX9_taken_69 : decode cX9_taken 69 = .ok (.aload_n 0, 1) := by decide +kernel
theorem dX9_taken_70 : decode cX9_taken 70 = .ok (.getfield 35, 3) := by decide +kernel
theorem dX9_taken_73 : decode cX9_taken 73 = .ok (.getfield 238, 3) := by decide +kernel
theorem dX9_taken_76 : decode cX9_taken 76 = .ok (.ireturn, 1) := by decide +kernel
theorem dX9_taken_77 : decode cX9_taken 77 = .ok (.aload_n 0, 1) := by decide +kernel
theorem dX9_taken_78 : decode cX9_taken 78 = .ok (.getfield 35, 3) := by decide +kernel
theorem dX9_taken_81 : decode cX9_taken 81 = .ok (.getfield 241, 3) := by decide +kernel
theorem dX9_taken_84 : decode cX9_taken 84 = .ok (.ireturn, 1) := by decide +kernel
theorem dX9_taken_85 : decode cX9_taken 85 = .ok (.aload_n 0, 1) := by decide +kernel
theorem dX9_taken_86 : decode cX9_taken 86 = .ok (.getfield 35, 3) := by decide +kernel
theorem dX9_taken_89 : decode cX9_taken 89 = .ok (.getfield 230, 3) := by decide +kernel
theorem dX9_taken_92 : decode cX9_taken 92 = .ok (.ireturn, 1) := by decide +kernel
theorem dX9_taken_93 : decode cX9_taken 93 = .ok (.aload_n 0, 1) := by decide +kernel
theorem dX9_taken_94 : decode cX9_taken 94 = .ok (.getfield 35, 3) := by decide +kernel
theorem dX9_taken_97 : decode cX9_taken 97 = .ok (.getfield 244, 3) := by decide +kernel
theorem dX9_taken_100 : decode cX9_taken 100 = .ok (.ireturn, 1) := by decide +kernel
theorem dX9_end_0 : decode cX9_end 0 = .ok (.iload_n 1, 1) := by decide +kernel
theorem dX9_end_1 : decode cX9_end 1 = .ok (.invokestatic 170, 3) := by decide +kernel
theorem dX9_end_4 : decode cX9_end 4 = .ok (.ifCond .eq 7, 3) := by decide +kernel
theorem dX9_end_7 : decode cX9_end 7 = .ok (.sipush (-1001), 3) := by decide +kernel
theorem dX9_end_10 : decode cX9_end 10 = .ok (.ireturn, 1) := by decide +kernel
theorem dX9_end_11 : decode cX9_end 11 = .ok (.aload_n 0, 1) := by decide +kernel
theorem dX9_end_12 : decode cX9_end 12 = .ok (.getfield 17, 3) := by decide +kernel
theorem dX9_end_15 : decode cX9_end 15 = .ok (.iload_n 1, 1) := by decide +kernel
theorem dX9_end_16 : decode cX9_end 16 = .ok (.aaload, 1) := by decide +kernel
theorem dX9_end_17 : decode cX9_end 17 = .ok (.astore_n 3, 1) := by decide +kernel
theorem dX9_end_18 : decode cX9_end 18 = .ok (.iload_n 2, 1) := by decide +kernel
theorem dX9_end_19 : decode cX9_end 19 = .ok (.tableswitch 123 0 10 #[57, 62, 67, 72, 77, 82, 87, 92, 105, 113, 118], 57) := by decide +kernel
theorem dX9_end_76 : decode cX9_end 76 = .ok (.aload_n 3, 1) := by decide +kernel
theorem dX9_end_77 : decode cX9_end 77 = .ok (.getfield 158, 3) := by decide +kernel
theorem dX9_end_80 : decode cX9_end 80 = .ok (.ireturn, 1) := by decide +kernel
theorem dX9_end_81 : decode cX9_end 81 = .ok (.aload_n 3, 1) := by decide +kernel
theorem dX9_end_82 : decode cX9_end 82 = .ok (.getfield 247, 3) := by decide +kernel
theorem dX9_end_85 : decode cX9_end 85 = .ok (.ireturn, 1) := by decide +kernel
theorem dX9_end_86 : decode cX9_end 86 = .ok (.aload_n 3, 1) := by decide +kernel
theorem dX9_end_87 : decode cX9_end 87 = .ok (.getfield 173, 3) := by decide +kernel
theorem dX9_end_90 : decode cX9_end 90 = .ok (.ireturn, 1) := by decide +kernel
theorem dX9_end_91 : decode cX9_end 91 = .ok (.aload_n 3, 1) := by decide +kernel
theorem dX9_end_92 : decode cX9_end 92 = .ok (.getfield 250, 3) := by decide +kernel
theorem dX9_end_95 : decode cX9_end 95 = .ok (.ireturn, 1) := by decide +kernel
theorem dX9_end_96 : decode cX9_end 96 = .ok (.aload_n 3, 1) := by decide +kernel
theorem dX9_end_97 : decode cX9_end 97 = .ok (.getfield 176, 3) := by decide +kernel
theorem dX9_end_100 : decode cX9_end 100 = .ok (.ireturn, 1) := by decide +kernel
theorem dX9_end_101 : decode cX9_end 101 = .ok (.aload_n 3, 1) := by decide +kernel
theorem dX9_end_102 : decode cX9_end 102 = .ok (.getfield 223, 3) := by decide +kernel
theorem dX9_end_105 : decode cX9_end 105 = .ok (.ireturn, 1) := by decide +kernel
theorem dX9_end_106 : decode cX9_end 106 = .ok (.aload_n 3, 1) := by decide +kernel
theorem dX9_end_107 : decode cX9_end 107 = .ok (.getfield 253, 3) := by decide +kernel
theorem dX9_end_110 : decode cX9_end 110 = .ok (.ireturn, 1) := by decide +kernel
theorem dX9_end_111 : decode cX9_end 111 = .ok (.aload_n 3, 1) := by decide +kernel
theorem dX9_end_112 : decode cX9_end 112 = .ok (.getfield 256, 3) := by decide +kernel
theorem dX9_end_115 : decode cX9_end 115 = .ok (.ifCond .eq 7, 3) := by decide +kernel
theorem dX9_end_118 : decode cX9_end 118 = .ok (.iconst 1, 1) := by decide +kernel
theorem dX9_end_119 : decode cX9_end 119 = .ok (.goto 4, 3) := by decide +kernel
theorem dX9_end_122 : decode cX9_end 122 = .ok (.iconst 0, 1) := by decide +kernel
theorem dX9_end_123 : decode cX9_end 123 = .ok (.ireturn, 1) := by decide +kernel
theorem dX9_end_124 : decode cX9_end 124 = .ok (.aload_n 3, 1) := by decide +kernel
theorem dX9_end_125 : decode cX9_end 125 = .ok (.getfield 259, 3) := by decide +kernel
theorem dX9_end_128 : decode cX9_end 128 = .ok (.getfield 263, 3) := by decide +kernel
theorem dX9_end_131 : decode cX9_end 131 = .ok (.ireturn, 1) := by decide +kernel
theorem dX9_end_132 : decode cX9_end 132 = .ok (.aload_n 3, 1) := by decide +kernel
theorem dX9_end_133 : decode cX9_end 133 = .ok (.getfield 182, 3) := by decide +kernel
theorem dX9_end_136 : decode cX9_end 136 = .ok (.ireturn, 1) := by decide +kernel
theorem dX9_end_137 : decode cX9_end 137 = .ok (.aload_n 3, 1) := by decide +kernel
theorem dX9_end_138 : decode cX9_end 138 = .ok (.getfield 185, 3) := by decide +kernel
theorem dX9_end_141 : decode cX9_end 141 = .ok (.ireturn, 1) := by decide +kernel
theorem dX9_end_142 : decode cX9_end 142 = .ok (.sipush (-1002), 3) := by decide +kernel
theorem dX9_end_145 : decode cX9_end 145 = .ok (.ireturn, 1) := by decide +kernel
theorem dX9_open_0 : decode cX9_open 0 = .ok (.iload_n 1, 1) := by decide +kernel
theorem dX9_open_1 : decode cX9_open 1 = .ok (.invokestatic 170, 3) := by decide +kernel
theorem dX9_open_4 : decode cX9_open 4 = .ok (.ifCond .ne 22, 3) := by decide +kernel
theorem dX9_open_7 : decode cX9_open 7 = .ok (.iload_n 2, 1) := by decide +kernel
theorem dX9_open_8 : decode cX9_open 8 = .ok (.iconst 0, 1) := by decide +kernel
theorem dX9_open_9 : decode cX9_open 9 = .ok (.aload_n 0, 1) := by decide +kernel
theorem dX9_open_10 : decode cX9_open 10 = .ok (.getfield 17, 3) := by decide +kernel
theorem dX9_open_13 : decode cX9_open 13 = .ok (.iload_n 1, 1) := by decide +kernel
theorem dX9_open_14 : decode cX9_open 14 = .ok (.aaload, 1) := by decide +kernel
theorem dX9_open_15 : decode cX9_open 15 = .ok (.getfield 173, 3) := by decide +kernel
theorem dX9_open_18 : decode cX9_open 18 = .ok (.iconst 1, 1) := by decide +kernel
theorem dX9_open_19 : decode cX9_open 19 = .ok (.isub, 1) := by decide +kernel
theorem dX9_open_20 : decode cX9_open 20 = .ok (.invokestatic 47, 3) := by decide +kernel
theorem dX9_open_23 : decode cX9_open 23 = .ok (.ifCond .eq 7, 3) := by decide +kernel
theorem dX9_open_26 : decode cX9_open 26 = .ok (.sipush (-1001), 3) := by decide +kernel
theorem dX9_open_29 : decode cX9_open 29 = .ok (.ireturn, 1) := by decide +kernel
theorem dX9_open_30 : decode cX9_open 30 = .ok (.aload_n 0, 1) := by decide +kernel
theorem dX9_open_31 : decode cX9_open 31 = .ok (.getfield 17, 3) := by decide +kernel
theorem dX9_open_34 : decode cX9_open 34 = .ok (.iload_n 1, 1) := by decide +kernel
theorem dX9_open_35 : decode cX9_open 35 = .ok (.aaload, 1) := by decide +kernel
theorem dX9_open_36 : decode cX9_open 36 = .ok (.getfield 268, 3) := by decide +kernel
theorem dX9_open_39 : decode cX9_open 39 = .ok (.iload_n 2, 1) := by decide +kernel
theorem dX9_open_40 : decode cX9_open 40 = .ok (.aaload, 1) := by decide +kernel
theorem dX9_open_41 : decode cX9_open 41 = .ok (.astore 4, 2) := by decide +kernel
theorem dX9_open_43 : decode cX9_open 43 = .ok (.iload_n 3, 1) := by decide +kernel
theorem dX9_open_44 : decode cX9_open 44 = .ok (.tableswitch 66 0 4 #[36, 42, 48, 54, 60], 36) := by decide +kernel
theorem dX9_open_80 : decode cX9_open 80 = .ok (.aload 4, 2) := by decide +kernel
theorem dX9_open_82 : decode cX9_open 82 = .ok (.getfield 272, 3) := by decide +kernel
theorem dX9_open_85 : decode cX9_open 85 = .ok (.ireturn, 1) := by decide +kernel
theorem dX9_open_86 : decode cX9_open 86 = .ok (.aload 4, 2) := by decide +kernel
theorem dX9_open_88 : decode cX9_open 88 = .ok (.getfield 275, 3) := by decide +kernel
theorem dX9_open_91 : decode cX9_open 91 = .ok (.ireturn, 1) := by decide +kernel
theorem dX9_open_92 : decode cX9_open 92 = .ok (.aload 4, 2) := by decide +kernel
theorem dX9_open_94 : decode cX9_open 94 = .ok (.getfield 276, 3) := by decide +kernel
theorem dX9_open_97 : decode cX9_open 97 = .ok (.ireturn, 1) := by decide +kernel
theorem dX9_open_98 : decode cX9_open 98 = .ok (.aload 4, 2) := by decide +kernel
theorem dX9_open_100 : decode cX9_open 100 = .ok (.getfield 279, 3) := by decide +kernel
theorem dX9_open_103 : decode cX9_open 103 = .ok (.ireturn, 1) := by decide +kernel
theorem dX9_open_104 : decode cX9_open 104 = .ok (.aload 4, 2) := by decide +kernel
theorem dX9_open_106 : decode cX9_open 106 = .ok (.getfield 282, 3) := by decide +kernel
theorem dX9_open_109 : decode cX9_open 109 = .ok (.ireturn, 1) := by decide +kernel
theorem dX9_open_110 : decode cX9_open 110 = .ok (.sipush (-1002), 3) := by decide +kernel
theorem dX9_open_113 : decode cX9_open 113 = .ok (.ireturn, 1) := by decide +kernel
theorem dX9_packet_0 : decode cX9_packet 0 = .ok (.iload_n 1, 1) := by decide +kernel
theorem dX9_packet_1 : decode cX9_packet 1 = .ok (.iconst 0, 1) := by decide +kernel
theorem dX9_packet_2 : decode cX9_packet 2 = .ok (.iconst 4, 1) := by decide +kernel
theorem dX9_packet_3 : decode cX9_packet 3 = .ok (.invokestatic 47, 3) := by decide +kernel
theorem dX9_packet_6 : decode cX9_packet 6 = .ok (.ifCond .eq 7, 3) := by decide +kernel
theorem dX9_packet_9 : decode cX9_packet 9 = .ok (.sipush (-1002), 3) := by decide +kernel
theorem dX9_packet_12 : decode cX9_packet 12 = .ok (.ireturn, 1) := by decide +kernel
theorem dX9_packet_13 : decode cX9_packet 13 = .ok (.aload_n 0, 1) := by decide +kernel
theorem dX9_packet_14 : decode cX9_packet 14 = .ok (.getfield 24, 3) := by decide +kernel
theorem dX9_packet_17 : decode cX9_packet 17 = .ok (.invokevirtual 285, 3) := by decide +kernel
theorem dX9_packet_20 : decode cX9_packet 20 = .ok (.istore_n 2, 1) := by decide +kernel
theorem dX9_packet_21 : decode cX9_packet 21 = .ok (.iload_n 2, 1) := by decide +kernel
theorem dX9_packet_22 : decode cX9_packet 22 = .ok (.iconst (-1), 1) := by decide +kernel
theorem dX9_packet_23 : decode cX9_packet 23 = .ok (.if_icmp .ne 7, 3) := by decide +kernel
theorem dX9_packet_26 : decode cX9_packet 26 = .ok (.sipush (-1003), 3) := by decide +kernel
theorem dX9_packet_29 : decode cX9_packet 29 = .ok (.ireturn, 1) := by decide +kernel
theorem dX9_packet_30 : decode cX9_packet 30 = .ok (.aload_n 0, 1) := by decide +kernel
theorem dX9_packet_31 : decode cX9_packet 31 = .ok (.getfield 24, 3) := by decide +kernel
theorem dX9_packet_34 : decode cX9_packet 34 = .ok (.getfield 288, 3) := by decide +kernel
theorem dX9_packet_37 : decode cX9_packet 37 = .ok (.iload_n 2, 1) := by decide +kernel
theorem dX9_packet_38 : decode cX9_packet 38 = .ok (.aaload, 1) := by decide +kernel
theorem dX9_packet_39 : decode cX9_packet 39 = .ok (.astore_n 3, 1) := by decide +kernel
theorem dX9_packet_40 : decode cX9_packet 40 = .ok (.iload_n 1, 1) := by decide +kernel
theorem dX9_packet_41 : decode cX9_packet 41 = .ok (.tableswitch 51 0 3 #[31, 36, 41, 46], 31) := by decide +kernel
theorem dX9_packet_72 : decode cX9_packet 72 = .ok (.aload_n 3, 1) := by decide +kernel
theorem dX9_packet_73 : decode cX9_packet 73 = .ok (.getfield 202, 3) := by decide +kernel
theorem dX9_packet_76 : decode cX9_packet 76 = .ok (.ireturn, 1) := by decide +kernel
theorem dX9_packet_77 : decode cX9_packet 77 = .ok (.aload_n 3, 1) := by decide +kernel
theorem dX9_packet_78 : decode cX9_packet 78 = .ok (.getfield 292, 3) := by decide +kernel
theorem dX9_packet_81 : decode cX9_packet 81 = .ok (.ireturn, 1) := by decide +kernel
theorem dX9_packet_82 : decode cX9_packet 82 = .ok (.aload_n 3, 1) := by decide +kernel
theorem dX9_packet_83 : decode cX9_packet 83 = .ok (.getfield 295, 3) := by decide +kernel
theorem dX9_packet_86 : decode cX9_packet 86 = .ok (.ireturn, 1) := by decide +kernel
theorem dX9_packet_87 : decode cX9_packet 87 = .ok (.aload_n 3, 1) := by decide +kernel
theorem dX9_packet_88 : decode cX9_packet 88 = .ok (.getfield 207, 3) := by decide +kernel
theorem dX9_packet_91 : decode cX9_packet 91 = .ok (.ireturn, 1) := by decide +kernel
theorem dX9_packet_92 : decode cX9_packet 92 = .ok (.aload_n 3, 1) := by decide +kernel
theorem dX9_packet_93 : decode cX9_packet 93 = .ok (.getfield 296, 3) := by decide +kernel
theorem dX9_packet_96 : decode cX9_packet 96 = .ok (.ireturn, 1) := by decide +kernel
theorem dX9_count_0 : decode cX9_count 0 = .ok (.iload_n 1, 1) := by decide +kernel
theorem dX9_count_1 : decode cX9_count 1 = .ok (.tableswitch 148 0 8 #[51, 59, 67, 77, 87, 92, 112, 132, 140], 51) := by decide +kernel
theorem dX9_count_52 : decode cX9_count 52 = .ok (.aload_n 0, 1) := by decide +kernel
theorem dX9_count_53 : decode cX9_count 53 = .ok (.getfield 24, 3) := by decide +kernel
theorem dX9_count_56 : decode cX9_count 56 = .ok (.getfield 297, 3) := by decide +kernel
theorem dX9_count_59 : decode cX9_count 59 = .ok (.ireturn, 1) := by decide +kernel
theorem dX9_count_60 : decode cX9_count 60 = .ok (.aload_n 0, 1) := by decide +kernel
theorem dX9_count_61 : decode cX9_count 61 = .ok (.getfield 24, 3) := by decide +kernel
theorem dX9_count_64 : decode cX9_count 64 = .ok (.getfield 300, 3) := by decide +kernel
theorem dX9_count_67 : decode cX9_count 67 = .ok (.ireturn, 1) := by decide +kernel
theorem dX9_count_68 : decode cX9_count 68 = .ok (.aload_n 0, 1) := by decide +kernel
theorem dX9_count_69 : decode cX9_count 69 = .ok (.getfield 11, 3) := by decide +kernel
theorem dX9_count_72 : decode cX9_count 72 = .ok (.iconst 0, 1) := by decide +kernel
theorem dX9_count_73 : decode cX9_count 73 = .ok (.aaload, 1) := by decide +kernel
theorem dX9_count_74 : decode cX9_count 74 = .ok (.getfield 303, 3) := by decide +kernel
theorem dX9_count_77 : decode cX9_count 77 = .ok (.ireturn, 1) := by decide +kernel
theorem dX9_count_78 : decode cX9_count 78 = .ok (.aload_n 0, 1) := by decide +kernel
theorem dX9_count_79 : decode cX9_count 79 = .ok (.getfield 11, 3) := by decide +kernel
theorem dX9_count_82 : decode cX9_count 82 = .ok (.iconst 1, 1) := by decide +kernel
theorem dX9_count_83 : decode cX9_count 83 = .ok (.aaload, 1) := by decide +kernel
theorem dX9_count_84 : decode cX9_count 84 = .ok (.getfield 303, 3) := by decide +kernel
theorem dX9_count_87 : decode cX9_count 87 = .ok (.ireturn, 1) := by decide +kernel
theorem dX9_count_88 : decode cX9_count 88 = .ok (.aload_n 0, 1) := by decide +kernel
theorem dX9_count_89 : decode cX9_count 89 = .ok (.invokevirtual 151, 3) := by decide +kernel
theorem dX9_count_92 : decode cX9_count 92 = .ok (.ireturn, 1) := by decide +kernel
theorem dX9_count_93 : decode cX9_count 93 = .ok (.aload_n 0, 1) := by decide +kernel
theorem dX9_count_94 : decode cX9_count 94 = .ok (.getfield 11, 3) := by decide +kernel
theorem dX9_count_97 : decode cX9_count 97 = .ok (.iconst 0, 1) := by decide +kernel
theorem dX9_count_98 : decode cX9_count 98 = .ok (.aaload, 1) := by decide +kernel
theorem dX9_count_99 : decode cX9_count 99 = .ok (.invokevirtual 306, 3) := by decide +kernel
theorem dX9_count_102 : decode cX9_count 102 = .ok (.aload_n 0, 1) := by decide +kernel
theorem dX9_count_103 : decode cX9_count 103 = .ok (.getfield 11, 3) := by decide +kernel
theorem dX9_count_106 : decode cX9_count 106 = .ok (.iconst 1, 1) := by decide +kernel
theorem dX9_count_107 : decode cX9_count 107 = .ok (.aaload, 1) := by decide +kernel
theorem dX9_count_108 : decode cX9_count 108 = .ok (.invokevirtual 306, 3) := by decide +kernel
theorem dX9_count_111 : decode cX9_count 111 = .ok (.iadd, 1) := by decide +kernel
theorem dX9_count_112 : decode cX9_count 112 = .ok (.ireturn, 1) := by decide +kernel
theorem dX9_count_113 : decode cX9_count 113 = .ok (.aload_n 0, 1) := by decide +kernel
theorem dX9_count_114 : decode cX9_count 114 = .ok (.getfield 11, 3) := by decide +kernel
theorem dX9_count_117 : decode cX9_count 117 = .ok (.iconst 0, 1) := by decide +kernel
theorem dX9_count_118 : decode cX9_count 118 = .ok (.aaload, 1) := by decide +kernel
theorem dX9_count_119 : decode cX9_count 119 = .ok (.getfield 309, 3) := by decide +kernel
theorem dX9_count_122 : decode cX9_count 122 = .ok (.aload_n 0, 1) := by decide +kernel
theorem dX9_count_123 : decode cX9_count 123 = .ok (.getfield 11, 3) := by decide +kernel
theorem dX9_count_126 : decode cX9_count 126 = .ok (.iconst 1, 1) := by decide +kernel
theorem dX9_count_127 : decode cX9_count 127 = .ok (.aaload, 1) := by decide +kernel
theorem dX9_count_128 : decode cX9_count 128 = .ok (.getfield 309, 3) := by decide +kernel
theorem dX9_count_131 : decode cX9_count 131 = .ok (.iadd, 1) := by decide +kernel
theorem dX9_count_132 : decode cX9_count 132 = .ok (.ireturn, 1) := by decide +kernel
theorem dX9_count_133 : decode cX9_count 133 = .ok (.aload_n 0, 1) := by decide +kernel
theorem dX9_count_134 : decode cX9_count 134 = .ok (.getfield 31, 3) := by decide +kernel
theorem dX9_count_137 : decode cX9_count 137 = .ok (.getfield 51, 3) := by decide +kernel
theorem dX9_count_140 : decode cX9_count 140 = .ok (.ireturn, 1) := by decide +kernel
theorem dX9_count_141 : decode cX9_count 141 = .ok (.aload_n 0, 1) := by decide +kernel
theorem dX9_count_142 : decode cX9_count 142 = .ok (.getfield 24, 3) := by decide +kernel
theorem dX9_count_145 : decode cX9_count 145 = .ok (.getfield 199, 3) := by decide +kernel
theorem dX9_count_148 : decode cX9_count 148 = .ok (.ireturn, 1) := by decide +kernel
theorem dX9_count_149 : decode cX9_count 149 = .ok (.sipush (-1002), 3) := by decide +kernel
theorem dX9_count_152 : decode cX9_count 152 = .ok (.ireturn, 1) := by decide +kernel
theorem dX9_isOutside_0 : decode cX9_isOutside 0 = .ok (.iload_n 0, 1) := by decide +kernel
theorem dX9_isOutside_1 : decode cX9_isOutside 1 = .ok (.iload_n 1, 1) := by decide +kernel
theorem dX9_isOutside_2 : decode cX9_isOutside 2 = .ok (.if_icmp .lt 8, 3) := by decide +kernel
theorem dX9_isOutside_5 : decode cX9_isOutside 5 = .ok (.iload_n 0, 1) := by decide +kernel
theorem dX9_isOutside_6 : decode cX9_isOutside 6 = .ok (.iload_n 2, 1) := by decide +kernel
theorem dX9_isOutside_7 : decode cX9_isOutside 7 = .ok (.if_icmp .le 7, 3) := by decide +kernel
theorem dX9_isOutside_10 : decode cX9_isOutside 10 = .ok (.iconst 1, 1) := by decide +kernel
theorem dX9_isOutside_11 : decode cX9_isOutside 11 = .ok (.goto 4, 3) := by decide +kernel
theorem dX9_isOutside_14 : decode cX9_isOutside 14 = .ok (.iconst 0, 1) := by decide +kernel
theorem dX9_isOutside_15 : decode cX9_isOutside 15 = .ok (.ireturn, 1) := by decide +kernel
theorem dX9_isNoHost_0 : decode cX9_isNoHost 0 = .ok (.iload_n 0, 1) := by decide +kernel
theorem dX9_isNoHost_1 : decode cX9_isNoHost 1 = .ok (.iconst 0, 1) := by decide +kernel
theorem dX9_isNoHost_2 : decode cX9_isNoHost 2 = .ok (.iconst 1, 1) := by decide +kernel
theorem dX9_isNoHost_3 : decode cX9_isNoHost 3 = .ok (.invokestatic 47, 3) := by decide +kernel
theorem dX9_isNoHost_6 : decode cX9_isNoHost 6 = .ok (.ireturn, 1) := by decide +kernel
theorem dX9_isNoCell_0 : decode cX9_isNoCell 0 = .ok (.iload_n 0, 1) := by decide +kernel
theorem dX9_isNoCell_1 : decode cX9_isNoCell 1 = .ok (.iconst 0, 1) := by decide +kernel
theorem dX9_isNoCell_2 : decode cX9_isNoCell 2 = .ok (.bipush 11, 2) := by decide +kernel
theorem dX9_isNoCell_4 : decode cX9_isNoCell 4 = .ok (.invokestatic 47, 3) := by decide +kernel
theorem dX9_isNoCell_7 : decode cX9_isNoCell 7 = .ok (.ireturn, 1) := by decide +kernel
theorem dX9_isNoKey_0 : decode cX9_isNoKey 0 = .ok (.iload_n 0, 1) := by decide +kernel
theorem dX9_isNoKey_1 : decode cX9_isNoKey 1 = .ok (.iconst 0, 1) := by decide +kernel
theorem dX9_isNoKey_2 : decode cX9_isNoKey 2 = .ok (.iconst 3, 1) := by decide +kernel
theorem dX9_isNoKey_3 : decode cX9_isNoKey 3 = .ok (.invokestatic 47, 3) := by decide +kernel
theorem dX9_isNoKey_6 : decode cX9_isNoKey 6 = .ok (.ireturn, 1) := by decide +kernel
theorem dX9_isNoLine_0 : decode cX9_isNoLine 0 = .ok (.iload_n 0, 1) := by decide +kernel
theorem dX9_isNoLine_1 : decode cX9_isNoLine 1 = .ok (.iconst 0, 1) := by decide +kernel
theorem dX9_isNoLine_2 : decode cX9_isNoLine 2 = .ok (.iconst 1, 1) := by decide +kernel
theorem dX9_isNoLine_3 : decode cX9_isNoLine 3 = .ok (.invokestatic 47, 3) := by decide +kernel
theorem dX9_isNoLine_6 : decode cX9_isNoLine 6 = .ok (.ireturn, 1) := by decide +kernel
theorem dX9_isNoEnd_0 : decode cX9_isNoEnd 0 = .ok (.iload_n 0, 1) := by decide +kernel
theorem dX9_isNoEnd_1 : decode cX9_isNoEnd 1 = .ok (.iconst 0, 1) := by decide +kernel
theorem dX9_isNoEnd_2 : decode cX9_isNoEnd 2 = .ok (.iconst 3, 1) := by decide +kernel
theorem dX9_isNoEnd_3 : decode cX9_isNoEnd 3 = .ok (.invokestatic 47, 3) := by decide +kernel
theorem dX9_isNoEnd_6 : decode cX9_isNoEnd 6 = .ok (.ireturn, 1) := by decide +kernel
theorem dX9_isNoValue_0 : decode cX9_isNoValue 0 = .ok (.iload_n 0, 1) := by decide +kernel
theorem dX9_isNoValue_1 : decode cX9_isNoValue 1 = .ok (.iconst 0, 1) := by decide +kernel
theorem dX9_isNoValue_2 : decode cX9_isNoValue 2 = .ok (.sipush 9999, 3) := by decide +kernel
theorem dX9_isNoValue_5 : decode cX9_isNoValue 5 = .ok (.invokestatic 47, 3) := by decide +kernel
theorem dX9_isNoValue_8 : decode cX9_isNoValue 8 = .ok (.ireturn, 1) := by decide +kernel
theorem dX9_lineOf_0 : decode cX9_lineOf 0 = .ok (.iload_n 0, 1) := by decide +kernel
theorem dX9_lineOf_1 : decode cX9_lineOf 1 = .ok (.iconst 2, 1) := by decide +kernel
theorem dX9_lineOf_2 : decode cX9_lineOf 2 = .ok (.idiv, 1) := by decide +kernel
theorem dX9_lineOf_3 : decode cX9_lineOf 3 = .ok (.ireturn, 1) := by decide +kernel
theorem dX9_firstEndOf_0 : decode cX9_firstEndOf 0 = .ok (.iload_n 0, 1) := by decide +kernel
theorem dX9_firstEndOf_1 : decode cX9_firstEndOf 1 = .ok (.iconst 2, 1) := by decide +kernel
theorem dX9_firstEndOf_2 : decode cX9_firstEndOf 2 = .ok (.imul, 1) := by decide +kernel
theorem dX9_firstEndOf_3 : decode cX9_firstEndOf 3 = .ok (.ireturn, 1) := by decide +kernel
theorem dX9_otherEnd_0 : decode cX9_otherEnd 0 = .ok (.iload_n 0, 1) := by decide +kernel
theorem dX9_otherEnd_1 : decode cX9_otherEnd 1 = .ok (.iconst 2, 1) := by decide +kernel
theorem dX9_otherEnd_2 : decode cX9_otherEnd 2 = .ok (.irem, 1) := by decide +kernel
theorem dX9_otherEnd_3 : decode cX9_otherEnd 3 = .ok (.ifCond .ne 9, 3) := by decide +kernel
theorem dX9_otherEnd_6 : decode cX9_otherEnd 6 = .ok (.iload_n 0, 1) := by decide +kernel
theorem dX9_otherEnd_7 : decode cX9_otherEnd 7 = .ok (.iconst 1, 1) := by decide +kernel
theorem dX9_otherEnd_8 : decode cX9_otherEnd 8 = .ok (.iadd, 1) := by decide +kernel
theorem dX9_otherEnd_9 : decode cX9_otherEnd 9 = .ok (.goto 6, 3) := by decide +kernel
theorem dX9_otherEnd_12 : decode cX9_otherEnd 12 = .ok (.iload_n 0, 1) := by decide +kernel
theorem dX9_otherEnd_13 : decode cX9_otherEnd 13 = .ok (.iconst 1, 1) := by decide +kernel
theorem dX9_otherEnd_14 : decode cX9_otherEnd 14 = .ok (.isub, 1) := by decide +kernel
theorem dX9_otherEnd_15 : decode cX9_otherEnd 15 = .ok (.ireturn, 1) := by decide +kernel
theorem dX9_isFetch_0 : decode cX9_isFetch 0 = .ok (.iload_n 0, 1) := by decide +kernel
theorem dX9_isFetch_1 : decode cX9_isFetch 1 = .ok (.iconst 2, 1) := by decide +kernel
theorem dX9_isFetch_2 : decode cX9_isFetch 2 = .ok (.if_icmp .eq 13, 3) := by decide +kernel
theorem dX9_isFetch_5 : decode cX9_isFetch 5 = .ok (.iload_n 0, 1) := by decide +kernel
theorem dX9_isFetch_6 : decode cX9_isFetch 6 = .ok (.iconst 3, 1) := by decide +kernel
theorem dX9_isFetch_7 : decode cX9_isFetch 7 = .ok (.if_icmp .eq 8, 3) := by decide +kernel
theorem dX9_isFetch_10 : decode cX9_isFetch 10 = .ok (.iload_n 0, 1) := by decide +kernel
theorem dX9_isFetch_11 : decode cX9_isFetch 11 = .ok (.iconst 4, 1) := by decide +kernel
theorem dX9_isFetch_12 : decode cX9_isFetch 12 = .ok (.if_icmp .ne 7, 3) := by decide +kernel
theorem dX9_isFetch_15 : decode cX9_isFetch 15 = .ok (.iconst 1, 1) := by decide +kernel
theorem dX9_isFetch_16 : decode cX9_isFetch 16 = .ok (.goto 4, 3) := by decide +kernel
theorem dX9_isFetch_19 : decode cX9_isFetch 19 = .ok (.iconst 0, 1) := by decide +kernel
theorem dX9_isFetch_20 : decode cX9_isFetch 20 = .ok (.ireturn, 1) := by decide +kernel
theorem dX10_init_0 : decode cX10_init 0 = .ok (.aload_n 0, 1) := by decide +kernel
theorem dX10_init_1 : decode cX10_init 1 = .ok (.invokespecial 1, 3) := by decide +kernel
theorem dX10_init_4 : decode cX10_init 4 = .ok (.aload_n 0, 1) := by decide +kernel
theorem dX10_init_5 : decode cX10_init 5 = .ok (.bipush 24, 2) := by decide +kernel
theorem dX10_init_7 : decode cX10_init 7 = .ok (.newarray .int, 2) := by decide +kernel
theorem dX10_init_9 : decode cX10_init 9 = .ok (.putfield 7, 3) := by decide +kernel
theorem dX10_init_12 : decode cX10_init 12 = .ok (.aload_n 0, 1) := by decide +kernel
theorem dX10_init_13 : decode cX10_init 13 = .ok (.bipush 8, 2) := by decide +kernel
theorem dX10_init_15 : decode cX10_init 15 = .ok (.newarray .int, 2) := by decide +kernel
theorem dX10_init_17 : decode cX10_init 17 = .ok (.putfield 13, 3) := by decide +kernel
theorem dX10_init_20 : decode cX10_init 20 = .ok (.aload_n 0, 1) := by decide +kernel
theorem dX10_init_21 : decode cX10_init 21 = .ok (.bipush 8, 2) := by decide +kernel
theorem dX10_init_23 : decode cX10_init 23 = .ok (.newarray .int, 2) := by decide +kernel
theorem dX10_init_25 : decode cX10_init 25 = .ok (.putfield 16, 3) := by decide +kernel
theorem dX10_init_28 : decode cX10_init 28 = .ok (.aload_n 0, 1) := by decide +kernel
theorem dX10_init_29 : decode cX10_init 29 = .ok (.bipush 8, 2) := by decide +kernel
theorem dX10_init_31 : decode cX10_init 31 = .ok (.newarray .int, 2) := by decide +kernel
theorem dX10_init_33 : decode cX10_init 33 = .ok (.putfield 19, 3) := by decide +kernel
theorem dX10_init_36 : decode cX10_init 36 = .ok (.aload_n 0, 1) := by decide +kernel
theorem dX10_init_37 : decode cX10_init 37 = .ok (.iconst 4, 1) := by decide +kernel
theorem dX10_init_38 : decode cX10_init 38 = .ok (.newarray .int, 2) := by decide +kernel
theorem dX10_init_40 : decode cX10_init 40 = .ok (.putfield 22, 3) := by decide +kernel
theorem dX10_init_43 : decode cX10_init 43 = .ok (.aload_n 0, 1) := by decide +kernel
theorem dX10_init_44 : decode cX10_init 44 = .ok (.iconst 4, 1) := by decide +kernel
theorem dX10_init_45 : decode cX10_init 45 = .ok (.newarray .int, 2) := by decide +kernel
theorem dX10_init_47 : decode cX10_init 47 = .ok (.putfield 25, 3) := by decide +kernel
theorem dX10_init_50 : decode cX10_init 50 = .ok (.aload_n 0, 1) := by decide +kernel
theorem dX10_init_51 : decode cX10_init 51 = .ok (.iconst 4, 1) := by decide +kernel
theorem dX10_init_52 : decode cX10_init 52 = .ok (.newarray .int, 2) := by decide +kernel
theorem dX10_init_54 : decode cX10_init 54 = .ok (.putfield 28, 3) := by decide +kernel
theorem dX10_init_57 : decode cX10_init 57 = .ok (.aload_n 0, 1) := by decide +kernel
theorem dX10_init_58 : decode cX10_init 58 = .ok (.bipush 112, 2) := by decide +kernel
theorem dX10_init_60 : decode cX10_init 60 = .ok (.newarray .int, 2) := by decide +kernel
theorem dX10_init_62 : decode cX10_init 62 = .ok (.putfield 31, 3) := by decide +kernel
theorem dX10_init_65 : decode cX10_init 65 = .ok (.aload_n 0, 1) := by decide +kernel
theorem dX10_init_66 : decode cX10_init 66 = .ok (.iconst 4, 1) := by decide +kernel
theorem dX10_init_67 : decode cX10_init 67 = .ok (.newarray .int, 2) := by decide +kernel
theorem dX10_init_69 : decode cX10_init 69 = .ok (.putfield 34, 3) := by decide +kernel
theorem dX10_init_72 : decode cX10_init 72 = .ok (.aload_n 0, 1) := by decide +kernel
theorem dX10_init_73 : decode cX10_init 73 = .ok (.iconst 4, 1) := by decide +kernel
theorem dX10_init_74 : decode cX10_init 74 = .ok (.newarray .int, 2) := by decide +kernel
theorem dX10_init_76 : decode cX10_init 76 = .ok (.putfield 37, 3) := by decide +kernel
theorem dX10_init_79 : decode cX10_init 79 = .ok (.aload_n 0, 1) := by decide +kernel
theorem dX10_init_80 : decode cX10_init 80 = .ok (.bipush 12, 2) := by decide +kernel
theorem dX10_init_82 : decode cX10_init 82 = .ok (.newarray .int, 2) := by decide +kernel
theorem dX10_init_84 : decode cX10_init 84 = .ok (.putfield 40, 3) := by decide +kernel
theorem dX10_init_87 : decode cX10_init 87 = .ok (.aload_n 0, 1) := by decide +kernel
theorem dX10_init_88 : decode cX10_init 88 = .ok (.iconst 4, 1) := by decide +kernel
theorem dX10_init_89 : decode cX10_init 89 = .ok (.newarray .int, 2) := by decide +kernel
theorem dX10_init_91 : decode cX10_init 91 = .ok (.putfield 43, 3) := by decide +kernel
theorem dX10_init_94 : decode cX10_init 94 = .ok (.aload_n 0, 1) := by decide +kernel
theorem dX10_init_95 : decode cX10_init 95 = .ok (.iconst 4, 1) := by decide +kernel
theorem dX10_init_96 : decode cX10_init 96 = .ok (.newarray .int, 2) := by decide +kernel
theorem dX10_init_98 : decode cX10_init 98 = .ok (.putfield 46, 3) := by decide +kernel
theorem dX10_init_101 : decode cX10_init 101 = .ok (.aload_n 0, 1) := by decide +kernel
theorem dX10_init_102 : decode cX10_init 102 = .ok (.iconst 4, 1) := by decide +kernel
theorem dX10_init_103 : decode cX10_init 103 = .ok (.newarray .boolean, 2) := by decide +kernel
theorem dX10_init_105 : decode cX10_init 105 = .ok (.putfield 49, 3) := by decide +kernel
theorem dX10_init_108 : decode cX10_init 108 = .ok (.aload_n 0, 1) := by decide +kernel
theorem dX10_init_109 : decode cX10_init 109 = .ok (.iconst 4, 1) := by decide +kernel
theorem dX10_init_110 : decode cX10_init 110 = .ok (.newarray .int, 2) := by decide +kernel
theorem dX10_init_112 : decode cX10_init 112 = .ok (.putfield 53, 3) := by decide +kernel
theorem dX10_init_115 : decode cX10_init 115 = .ok (.aload_n 0, 1) := by decide +kernel
theorem dX10_init_116 : decode cX10_init 116 = .ok (.bipush 16, 2) := by decide +kernel
theorem dX10_init_118 : decode cX10_init 118 = .ok (.newarray .int, 2) := by decide +kernel
theorem dX10_init_120 : decode cX10_init 120 = .ok (.putfield 56, 3) := by decide +kernel
theorem dX10_init_123 : decode cX10_init 123 = .ok (.aload_n 0, 1) := by decide +kernel
theorem dX10_init_124 : decode cX10_init 124 = .ok (.iconst 4, 1) := by decide +kernel
theorem dX10_init_125 : decode cX10_init 125 = .ok (.newarray .int, 2) := by decide +kernel
theorem dX10_init_127 : decode cX10_init 127 = .ok (.putfield 59, 3) := by decide +kernel
theorem dX10_init_130 : decode cX10_init 130 = .ok (.aload_n 0, 1) := by decide +kernel
theorem dX10_init_131 : decode cX10_init 131 = .ok (.iconst 4, 1) := by decide +kernel
theorem dX10_init_132 : decode cX10_init 132 = .ok (.newarray .int, 2) := by decide +kernel
theorem dX10_init_134 : decode cX10_init 134 = .ok (.putfield 62, 3) := by decide +kernel
theorem dX10_init_137 : decode cX10_init 137 = .ok (.aload_n 0, 1) := by decide +kernel
theorem dX10_init_138 : decode cX10_init 138 = .ok (.iconst 2, 1) := by decide +kernel
theorem dX10_init_139 : decode cX10_init 139 = .ok (.newarray .int, 2) := by decide +kernel
theorem dX10_init_141 : decode cX10_init 141 = .ok (.dup, 1) := by decide +kernel
theorem dX10_init_142 : decode cX10_init 142 = .ok (.iconst 0, 1) := by decide +kernel
theorem dX10_init_143 : decode cX10_init 143 = .ok (.iconst 1, 1) := by decide +kernel
theorem dX10_init_144 : decode cX10_init 144 = .ok (.iastore, 1) := by decide +kernel
theorem dX10_init_145 : decode cX10_init 145 = .ok (.dup, 1) := by decide +kernel
theorem dX10_init_146 : decode cX10_init 146 = .ok (.iconst 1, 1) := by decide +kernel
theorem dX10_init_147 : decode cX10_init 147 = .ok (.iconst 1, 1) := by decide +kernel
theorem dX10_init_148 : decode cX10_init 148 = .ok (.iastore, 1) := by decide +kernel
theorem dX10_init_149 : decode cX10_init 149 = .ok (.putfield 65, 3) := by decide +kernel
theorem dX10_init_152 : decode cX10_init 152 = .ok (.aload_n 0, 1) := by decide +kernel
theorem dX10_init_153 : decode cX10_init 153 = .ok (.sipush 264, 3) := by decide +kernel
theorem dX10_init_156 : decode cX10_init 156 = .ok (.newarray .int, 2) := by decide +kernel
theorem dX10_init_158 : decode cX10_init 158 = .ok (.putfield 68, 3) := by decide +kernel
theorem dX10_init_161 : decode cX10_init 161 = .ok (.aload_n 0, 1) := by decide +kernel
theorem dX10_init_162 : decode cX10_init 162 = .ok (.sipush 6000, 3) := by decide +kernel
theorem dX10_init_165 : decode cX10_init 165 = .ok (.newarray .int, 2) := by decide +kernel
theorem dX10_init_167 : decode cX10_init 167 = .ok (.putfield 71, 3) := by decide +kernel
theorem dX10_init_170 : decode cX10_init 170 = .ok (.aload_n 0, 1) := by decide +kernel
theorem dX10_init_171 : decode cX10_init 171 = .ok (.iconst 2, 1) := by decide +kernel
theorem dX10_init_172 : decode cX10_init 172 = .ok (.newarray .int, 2) := by decide +kernel
theorem dX10_init_174 : decode cX10_init 174 = .ok (.putfield 74, 3) := by decide +kernel
theorem dX10_init_177 : decode cX10_init 177 = .ok (.aload_n 0, 1) := by decide +kernel
theorem dX10_init_178 : decode cX10_init 178 = .ok (.iconst 2, 1) := by decide +kernel
theorem dX10_init_179 : decode cX10_init 179 = .ok (.newarray .int, 2) := by decide +kernel
theorem dX10_init_181 : decode cX10_init 181 = .ok (.putfield 77, 3) := by decide +kernel
theorem dX10_init_184 : decode cX10_init 184 = .ok (.aload_n 0, 1) := by decide +kernel
theorem dX10_init_185 : decode cX10_init 185 = .ok (.bipush 6, 2) := by decide +kernel
theorem dX10_init_187 : decode cX10_init 187 = .ok (.newarray .int, 2) := by decide +kernel
theorem dX10_init_189 : decode cX10_init 189 = .ok (.putfield 80, 3) := by decide +kernel
theorem dX10_init_192 : decode cX10_init 192 = .ok (.aload_n 0, 1) := by decide +kernel
theorem dX10_init_193 : decode cX10_init 193 = .ok (.sipush 200, 3) := by decide +kernel
theorem dX10_init_196 : decode cX10_init 196 = .ok (.newarray .int, 2) := by decide +kernel
theorem dX10_init_198 : decode cX10_init 198 = .ok (.putfield 83, 3) := by decide +kernel
theorem dX10_init_201 : decode cX10_init 201 = .ok (.aload_n 0, 1) := by decide +kernel
theorem dX10_init_202 : decode cX10_init 202 = .ok (.iconst 5, 1) := by decide +kernel
theorem dX10_init_203 : decode cX10_init 203 = .ok (.newarray .int, 2) := by decide +kernel
theorem dX10_init_205 : decode cX10_init 205 = .ok (.putfield 86, 3) := by decide +kernel
theorem dX10_init_208 : decode cX10_init 208 = .ok (.aload_n 0, 1) := by decide +kernel
theorem dX10_init_209 : decode cX10_init 209 = .ok (.bipush 30, 2) := by decide +kernel
theorem dX10_init_211 : decode cX10_init 211 = .ok (.newarray .int, 2) := by decide +kernel
theorem dX10_init_213 : decode cX10_init 213 = .ok (.dup, 1) := by decide +kernel
theorem dX10_init_214 : decode cX10_init 214 = .ok (.iconst 0, 1) := by decide +kernel
theorem dX10_init_215 : decode cX10_init 215 = .ok (.bipush 97, 2) := by decide +kernel
theorem dX10_init_217 : decode cX10_init 217 = .ok (.iastore, 1) := by decide +kernel
theorem dX10_init_218 : decode cX10_init 218 = .ok (.dup, 1) := by decide +kernel
theorem dX10_init_219 : decode cX10_init 219 = .ok (.iconst 1, 1) := by decide +kernel
theorem dX10_init_220 : decode cX10_init 220 = .ok (.bipush 108, 2) := by decide +kernel
theorem dX10_init_222 : decode cX10_init 222 = .ok (.iastore, 1) := by decide +kernel
theorem dX10_init_223 : decode cX10_init 223 = .ok (.dup, 1) := by decide +kernel
theorem dX10_init_224 : decode cX10_init 224 = .ok (.iconst 2, 1) := by decide +kernel
theorem dX10_init_225 : decode cX10_init 225 = .ok (.bipush 108, 2) := by decide +kernel
theorem dX10_init_227 : decode cX10_init 227 = .ok (.iastore, 1) := by decide +kernel
theorem dX10_init_228 : decode cX10_init 228 = .ok (.dup, 1) := by decide +kernel
theorem dX10_init_229 : decode cX10_init 229 = .ok (.iconst 3, 1) := by decide +kernel
theorem dX10_init_230 : decode cX10_init 230 = .ok (.iconst 0, 1) := by decide +kernel
theorem dX10_init_231 : decode cX10_init 231 = .ok (.iastore, 1) := by decide +kernel
theorem dX10_init_232 : decode cX10_init 232 = .ok (.dup, 1) := by decide +kernel
theorem dX10_init_233 : decode cX10_init 233 = .ok (.iconst 4, 1) := by decide +kernel
theorem dX10_init_234 : decode cX10_init 234 = .ok (.iconst 0, 1) := by decide +kernel
theorem dX10_init_235 : decode cX10_init 235 = .ok (.iastore, 1) := by decide +kernel
theorem dX10_init_236 : decode cX10_init 236 = .ok (.dup, 1) := by decide +kernel
theorem dX10_init_237 : decode cX10_init 237 = .ok (.iconst 5, 1) := by decide +kernel
theorem dX10_init_238 : decode cX10_init 238 = .ok (.bipush 107, 2) := by decide +kernel
theorem dX10_init_240 : decode cX10_init 240 = .ok (.iastore, 1) := by decide +kernel
theorem dX10_init_241 : decode cX10_init 241 = .ok (.dup, 1) := by decide +kernel
theorem dX10_init_242 : decode cX10_init 242 = .ok (.bipush 6, 2) := by decide +kernel
theorem dX10_init_244 : decode cX10_init 244 = .ok (.bipush 101, 2) := by decide +kernel
theorem dX10_init_246 : decode cX10_init 246 = .ok (.iastore, 1) := by decide +kernel
theorem dX10_init_247 : decode cX10_init 247 = .ok (.dup, 1) := by decide +kernel
theorem dX10_init_248 : decode cX10_init 248 = .ok (.bipush 7, 2) := by decide +kernel
theorem dX10_init_250 : decode cX10_init 250 = .ok (.bipush 121, 2) := by decide +kernel
theorem dX10_init_252 : decode cX10_init 252 = .ok (.iastore, 1) := by decide +kernel
theorem dX10_init_253 : decode cX10_init 253 = .ok (.dup, 1) := by decide +kernel
theorem dX10_init_254 : decode cX10_init 254 = .ok (.bipush 8, 2) := by decide +kernel
theorem dX10_init_256 : decode cX10_init 256 = .ok (.iconst 0, 1) := by decide +kernel
theorem dX10_init_257 : decode cX10_init 257 = .ok (.iastore, 1) := by decide +kernel
theorem dX10_init_258 : decode cX10_init 258 = .ok (.dup, 1) := by decide +kernel
theorem dX10_init_259 : decode cX10_init 259 = .ok (.bipush 9, 2) := by decide +kernel
theorem dX10_init_261 : decode cX10_init 261 = .ok (.iconst 0, 1) := by decide +kernel
theorem dX10_init_262 : decode cX10_init 262 = .ok (.iastore, 1) := by decide +kernel
theorem dX10_init_263 : decode cX10_init 263 = .ok (.dup, 1) := by decide +kernel
theorem dX10_init_264 : decode cX10_init 264 = .ok (.bipush 10, 2) := by decide +kernel
theorem dX10_init_266 : decode cX10_init 266 = .ok (.bipush 99, 2) := by decide +kernel
theorem dX10_init_268 : decode cX10_init 268 = .ok (.iastore, 1) := by decide +kernel
theorem dX10_init_269 : decode cX10_init 269 = .ok (.dup, 1) := by decide +kernel
theorem dX10_init_270 : decode cX10_init 270 = .ok (.bipush 11, 2) := by decide +kernel
theorem dX10_init_272 : decode cX10_init 272 = .ok (.bipush 101, 2) := by decide +kernel
theorem dX10_init_274 : decode cX10_init 274 = .ok (.iastore, 1) := by decide +kernel
theorem dX10_init_275 : decode cX10_init 275 = .ok (.dup, 1) := by decide +kernel
theorem dX10_init_276 : decode cX10_init 276 = .ok (.bipush 12, 2) := by decide +kernel
theorem dX10_init_278 : decode cX10_init 278 = .ok (.bipush 108, 2) := by decide +kernel
theorem dX10_init_280 : decode cX10_init 280 = .ok (.iastore, 1) := by decide +kernel
theorem dX10_init_281 : decode cX10_init 281 = .ok (.dup, 1) := by decide +kernel
theorem dX10_init_282 : decode cX10_init 282 = .ok (.bipush 13, 2) := by decide +kernel
theorem dX10_init_284 : decode cX10_init 284 = .ok (.bipush 108, 2) := by decide +kernel
theorem dX10_init_286 : decode cX10_init 286 = .ok (.iastore, 1) := by decide +kernel
theorem dX10_init_287 : decode cX10_init 287 = .ok (.dup, 1) := by decide +kernel
theorem dX10_init_288 : decode cX10_init 288 = .ok (.bipush 14, 2) := by decide +kernel
theorem dX10_init_290 : decode cX10_init 290 = .ok (.iconst 0, 1) := by decide +kernel
theorem dX10_init_291 : decode cX10_init 291 = .ok (.iastore, 1) := by decide +kernel
theorem dX10_init_292 : decode cX10_init 292 = .ok (.dup, 1) := by decide +kernel
theorem dX10_init_293 : decode cX10_init 293 = .ok (.bipush 15, 2) := by decide +kernel
theorem dX10_init_295 : decode cX10_init 295 = .ok (.bipush 100, 2) := by decide +kernel
theorem dX10_init_297 : decode cX10_init 297 = .ok (.iastore, 1) := by decide +kernel
theorem dX10_init_298 : decode cX10_init 298 = .ok (.dup, 1) := by decide +kernel
theorem dX10_init_299 : decode cX10_init 299 = .ok (.bipush 16, 2) := by decide +kernel
theorem dX10_init_301 : decode cX10_init 301 = .ok (.bipush 101, 2) := by decide +kernel
theorem dX10_init_303 : decode cX10_init 303 = .ok (.iastore, 1) := by decide +kernel
theorem dX10_init_304 : decode cX10_init 304 = .ok (.dup, 1) := by decide +kernel
theorem dX10_init_305 : decode cX10_init 305 = .ok (.bipush 17, 2) := by decide +kernel
theorem dX10_init_307 : decode cX10_init 307 = .ok (.bipush 108, 2) := by decide +kernel
theorem dX10_init_309 : decode cX10_init 309 = .ok (.iastore, 1) := by decide +kernel
theorem dX10_init_310 : decode cX10_init 310 = .ok (.dup, 1) := by decide +kernel
theorem dX10_init_311 : decode cX10_init 311 = .ok (.bipush 18, 2) := by decide +kernel
theorem dX10_init_313 : decode cX10_init 313 = .ok (.bipush 97, 2) := by decide +kernel
theorem dX10_init_315 : decode cX10_init 315 = .ok (.iastore, 1) := by decide +kernel
theorem dX10_init_316 : decode cX10_init 316 = .ok (.dup, 1) := by decide +kernel
theorem dX10_init_317 : decode cX10_init 317 = .ok (.bipush 19, 2) := by decide +kernel
theorem dX10_init_319 : decode cX10_init 319 = .ok (.bipush 121, 2) := by decide +kernel
theorem dX10_init_321 : decode cX10_init 321 = .ok (.iastore, 1) := by decide +kernel
theorem dX10_init_322 : decode cX10_init 322 = .ok (.dup, 1) := by decide +kernel
theorem dX10_init_323 : decode cX10_init 323 = .ok (.bipush 20, 2) := by decide +kernel
theorem dX10_init_325 : decode cX10_init 325 = .ok (.bipush 97, 2) := by decide +kernel
theorem dX10_init_327 : decode cX10_init 327 = .ok (.iastore, 1) := by decide +kernel
theorem dX10_init_328 : decode cX10_init 328 = .ok (.dup, 1) := by decide +kernel
theorem dX10_init_329 : decode cX10_init 329 = .ok (.bipush 21, 2) := by decide +kernel
theorem dX10_init_331 : decode cX10_init 331 = .ok (.bipush 105, 2) := by decide +kernel
theorem dX10_init_333 : decode cX10_init 333 = .ok (.iastore, 1) := by decide +kernel
theorem dX10_init_334 : decode cX10_init 334 = .ok (.dup, 1) := by decide +kernel
theorem dX10_init_335 : decode cX10_init 335 = .ok (.bipush 22, 2) := by decide +kernel
theorem dX10_init_337 : decode cX10_init 337 = .ok (.bipush 109, 2) := by decide +kernel
theorem dX10_init_339 : decode cX10_init 339 = .ok (.iastore, 1) := by decide +kernel
theorem dX10_init_340 : decode cX10_init 340 = .ok (.dup, 1) := by decide +kernel
theorem dX10_init_341 : decode cX10_init 341 = .ok (.bipush 23, 2) := by decide +kernel
theorem dX10_init_343 : decode cX10_init 343 = .ok (.iconst 0, 1) := by decide +kernel
theorem dX10_init_344 : decode cX10_init 344 = .ok (.iastore, 1) := by decide +kernel
theorem dX10_init_345 : decode cX10_init 345 = .ok (.dup, 1) := by decide +kernel
theorem dX10_init_346 : decode cX10_init 346 = .ok (.bipush 24, 2) := by decide +kernel
theorem dX10_init_348 : decode cX10_init 348 = .ok (.iconst 0, 1) := by decide +kernel
theorem dX10_init_349 : decode cX10_init 349 = .ok (.iastore, 1) := by decide +kernel
theorem dX10_init_350 : decode cX10_init 350 = .ok (.dup, 1) := by decide +kernel
theorem dX10_init_351 : decode cX10_init 351 = .ok (.bipush 25, 2) := by decide +kernel
theorem dX10_init_353 : decode cX10_init 353 = .ok (.bipush 106, 2) := by decide +kernel
theorem dX10_init_355 : decode cX10_init 355 = .ok (.iastore, 1) := by decide +kernel
theorem dX10_init_356 : decode cX10_init 356 = .ok (.dup, 1) := by decide +kernel
theorem dX10_init_357 : decode cX10_init 357 = .ok (.bipush 26, 2) := by decide +kernel
theorem dX10_init_359 : decode cX10_init 359 = .ok (.bipush 111, 2) := by decide +kernel
theorem dX10_init_361 : decode cX10_init 361 = .ok (.iastore, 1) := by decide +kernel
theorem dX10_init_362 : decode cX10_init 362 = .ok (.dup, 1) := by decide +kernel
theorem dX10_init_363 : decode cX10_init 363 = .ok (.bipush 27, 2) := by decide +kernel
theorem dX10_init_365 : decode cX10_init 365 = .ok (.bipush 105, 2) := by decide +kernel
theorem dX10_init_367 : decode cX10_init 367 = .ok (.iastore, 1) := by decide +kernel
theorem dX10_init_368 : decode cX10_init 368 = .ok (.dup, 1) := by decide +kernel
theorem dX10_init_369 : decode cX10_init 369 = .ok (.bipush 28, 2) := by decide +kernel
theorem dX10_init_371 : decode cX10_init 371 = .ok (.bipush 110, 2) := by decide +kernel
theorem dX10_init_373 : decode cX10_init 373 = .ok (.iastore, 1) := by decide +kernel
theorem dX10_init_374 : decode cX10_init 374 = .ok (.dup, 1) := by decide +kernel
theorem dX10_init_375 : decode cX10_init 375 = .ok (.bipush 29, 2) := by decide +kernel
theorem dX10_init_377 : decode cX10_init 377 = .ok (.iconst 0, 1) := by decide +kernel
theorem dX10_init_378 : decode cX10_init 378 = .ok (.iastore, 1) := by decide +kernel
theorem dX10_init_379 : decode cX10_init 379 = .ok (.putfield 89, 3) := by decide +kernel
theorem dX10_init_382 : decode cX10_init 382 = .ok (.aload_n 0, 1) := by decide +kernel
theorem dX10_init_383 : decode cX10_init 383 = .ok (.bipush 11, 2) := by decide +kernel
theorem dX10_init_385 : decode cX10_init 385 = .ok (.newarray .int, 2) := by decide +kernel
theorem dX10_init_387 : decode cX10_init 387 = .ok (.putfield 92, 3) := by decide +kernel
theorem dX10_init_390 : decode cX10_init 390 = .ok (.return_, 1) := by decide +kernel
theorem dX10_in_0 : decode cX10_in 0 = .ok (.lload_n 0, 1) := by decide +kernel
theorem dX10_in_1 : decode cX10_in 1 = .ok (.lload_n 2, 1) := by decide +kernel
theorem dX10_in_2 : decode cX10_in 2 = .ok (.lcmp, 1) := by decide +kernel
theorem dX10_in_3 : decode cX10_in 3 = .ok (.ifCond .lt 14, 3) := by decide +kernel
theorem dX10_in_6 : decode cX10_in 6 = .ok (.lload_n 0, 1) := by decide +kernel
theorem dX10_in_7 : decode cX10_in 7 = .ok (.lload 4, 2) := by decide +kernel
theorem dX10_in_9 : decode cX10_in 9 = .ok (.lcmp, 1) := by decide +kernel
theorem dX10_in_10 : decode cX10_in 10 = .ok (.ifCond .gt 7, 3) := by decide +kernel
theorem dX10_in_13 : decode cX10_in 13 = .ok (.iconst 1, 1) := by decide +kernel
theorem dX10_in_14 : decode cX10_in 14 = .ok (.goto 4, 3) := by decide +kernel
theorem dX10_in_17 : decode cX10_in 17 = .ok (.iconst 0, 1) := by decide +kernel
theorem dX10_in_18 : decode cX10_in 18 = .ok (.ireturn, 1) := by decide +kernel
theorem dX10_isHost_0 : decode cX10_isHost 0 = .ok (.iload_n 0, 1) := by decide +kernel
theorem dX10_isHost_1 : decode cX10_isHost 1 = .ok (.i2l, 1) := by decide +kernel
theorem dX10_isHost_2 : decode cX10_isHost 2 = .ok (.lconst 0, 1) := by decide +kernel
theorem dX10_isHost_3 : decode cX10_isHost 3 = .ok (.lconst 1, 1) := by decide +kernel
theorem dX10_isHost_4 : decode cX10_isHost 4 = .ok (.invokestatic 95, 3) := by decide +kernel
theorem dX10_isHost_7 : decode cX10_isHost 7 = .ok (.ireturn, 1) := by decide +kernel
theorem dX10_isCell_0 : decode cX10_isCell 0 = .ok (.iload_n 0, 1) := by decide +kernel
theorem dX10_isCell_1 : decode cX10_isCell 1 = .ok (.i2l, 1) := by decide +kernel
theorem dX10_isCell_2 : decode cX10_isCell 2 = .ok (.lconst 0, 1) := by decide +kernel
theorem dX10_isCell_3 : decode cX10_isCell 3 = .ok (.ldc2_w 99, 3) := by decide +kernel
theorem dX10_isCell_6 : decode cX10_isCell 6 = .ok (.invokestatic 95, 3) := by decide +kernel
theorem dX10_isCell_9 : decode cX10_isCell 9 = .ok (.ireturn, 1) := by decide +kernel
theorem dX10_isEnd_0 : decode cX10_isEnd 0 = .ok (.iload_n 0, 1) := by decide +kernel
theorem dX10_isEnd_1 : decode cX10_isEnd 1 = .ok (.i2l, 1) := by decide +kernel
theorem dX10_isEnd_2 : decode cX10_isEnd 2 = .ok (.lconst 0, 1) := by decide +kernel
theorem dX10_isEnd_3 : decode cX10_isEnd 3 = .ok (.ldc2_w 101, 3) := by decide +kernel
theorem dX10_isEnd_6 : decode cX10_isEnd 6 = .ok (.invokestatic 95, 3) := by decide +kernel
theorem dX10_isEnd_9 : decode cX10_isEnd 9 = .ok (.ireturn, 1) := by decide +kernel
theorem dX10_isNumber_0 : decode cX10_isNumber 0 = .ok (.iload_n 0, 1) := by decide +kernel
theorem dX10_isNumber_1 : decode cX10_isNumber 1 = .ok (.i2l, 1) := by decide +kernel
theorem dX10_isNumber_2 : decode cX10_isNumber 2 = .ok (.lconst 0, 1) := by decide +kernel
theorem dX10_isNumber_3 : decode cX10_isNumber 3 = .ok (.ldc2_w 103, 3) := by decide +kernel
theorem dX10_isNumber_6 : decode cX10_isNumber 6 = .ok (.invokestatic 95, 3) := by decide +kernel
theorem dX10_isNumber_9 : decode cX10_isNumber 9 = .ok (.ireturn, 1) := by decide +kernel
theorem dX10_allAnew_0 : decode cX10_allAnew 0 = .ok (.iconst 0, 1) := by decide +kernel
theorem dX10_allAnew_1 : decode cX10_allAnew 1 = .ok (.istore_n 1, 1) := by decide +kernel
theorem dX10_allAnew_2 : decode cX10_allAnew 2 = .ok (.iload_n 1, 1) := by decide +kernel
theorem dX10_allAnew_3 : decode cX10_allAnew 3 = .ok (.bipush 24, 2) := by decide +kernel
theorem dX10_allAnew_5 : decode cX10_allAnew 5 = .ok (.if_icmp .ge 16, 3) := by decide +kernel
theorem dX10_allAnew_8 : decode cX10_allAnew 8 = .ok (.aload_n 0, 1) := by decide +kernel
theorem dX10_allAnew_9 : decode cX10_allAnew 9 = .ok (.getfield 7, 3) := by decide +kernel
theorem dX10_allAnew_12 : decode cX10_allAnew 12 = .ok (.iload_n 1, 1) := by decide +kernel
theorem dX10_allAnew_13 : decode cX10_allAnew 13 = .ok (.iconst 0, 1) := by decide +kernel
theorem dX10_allAnew_14 : decode cX10_allAnew 14 = .ok (.iastore, 1) := by decide +kernel
theorem dX10_allAnew_15 : decode cX10_allAnew 15 = .ok (.iinc 1 1, 3) := by decide +kernel
theorem dX10_allAnew_18 : decode cX10_allAnew 18 = .ok (.goto (-16), 3) := by decide +kernel
theorem dX10_allAnew_21 : decode cX10_allAnew 21 = .ok (.iconst 0, 1) := by decide +kernel
theorem dX10_allAnew_22 : decode cX10_allAnew 22 = .ok (.istore_n 1, 1) := by decide +kernel
theorem dX10_allAnew_23 : decode cX10_allAnew 23 = .ok (.iload_n 1, 1) := by decide +kernel
theorem dX10_allAnew_24 : decode cX10_allAnew 24 = .ok (.bipush 8, 2) := by decide +kernel
theorem dX10_allAnew_26 : decode cX10_allAnew 26 = .ok (.if_icmp .ge 16, 3) := by decide +kernel
theorem dX10_allAnew_29 : decode cX10_allAnew 29 = .ok (.aload_n 0, 1) := by decide +kernel
theorem dX10_allAnew_30 : decode cX10_allAnew 30 = .ok (.getfield 16, 3) := by decide +kernel
theorem dX10_allAnew_33 : decode cX10_allAnew 33 = .ok (.iload_n 1, 1) := by decide +kernel
theorem dX10_allAnew_34 : decode cX10_allAnew 34 = .ok (.iconst 0, 1) := by decide +kernel
theorem dX10_allAnew_35 : decode cX10_allAnew 35 = .ok (.iastore, 1) := by decide +kernel
theorem dX10_allAnew_36 : decode cX10_allAnew 36 = .ok (.iinc 1 1, 3) := by decide +kernel
theorem dX10_allAnew_39 : decode cX10_allAnew 39 = .ok (.goto (-16), 3) := by decide +kernel
theorem dX10_allAnew_42 : decode cX10_allAnew 42 = .ok (.iconst 0, 1) := by decide +kernel
theorem dX10_allAnew_43 : decode cX10_allAnew 43 = .ok (.istore_n 1, 1) := by decide +kernel
theorem dX10_allAnew_44 : decode cX10_allAnew 44 = .ok (.iload_n 1, 1) := by decide +kernel
theorem dX10_allAnew_45 : decode cX10_allAnew 45 = .ok (.iconst 4, 1) := by decide +kernel
theorem dX10_allAnew_46 : decode cX10_allAnew 46 = .ok (.if_icmp .ge 29, 3) := by decide +kernel
theorem dX10_allAnew_49 : decode cX10_allAnew 49 = .ok (.aload_n 0, 1) := by decide +kernel
theorem dX10_allAnew_50 : decode cX10_allAnew 50 = .ok (.iload_n 1, 1) := by decide +kernel
theorem dX10_allAnew_51 : decode cX10_allAnew 51 = .ok (.iconst 0, 1) := by decide +kernel
theorem dX10_allAnew_52 : decode cX10_allAnew 52 = .ok (.invokevirtual 105, 3) := by decide +kernel
theorem dX10_allAnew_55 : decode cX10_allAnew 55 = .ok (.aload_n 0, 1) := by decide +kernel
theorem dX10_allAnew_56 : decode cX10_allAnew 56 = .ok (.getfield 59, 3) := by decide +kernel
theorem dX10_allAnew_59 : decode cX10_allAnew 59 = .ok (.iload_n 1, 1) := by decide +kernel
theorem dX10_allAnew_60 : decode cX10_allAnew 60 = .ok (.iconst 0, 1) := by decide +kernel
theorem dX10_allAnew_61 : decode cX10_allAnew 61 = .ok (.iastore, 1) := by decide +kernel
theorem dX10_allAnew_62 : decode cX10_allAnew 62 = .ok (.aload_n 0, 1) := by decide +kernel
theorem dX10_allAnew_63 : decode cX10_allAnew 63 = .ok (.getfield 62, 3) := by decide +kernel
theorem dX10_allAnew_66 : decode cX10_allAnew 66 = .ok (.iload_n 1, 1) := by decide +kernel
theorem dX10_allAnew_67 : decode cX10_allAnew 67 = .ok (.iconst 0, 1) := by decide +kernel
theorem dX10_allAnew_68 : decode cX10_allAnew 68 = .ok (.iastore, 1) := by decide +kernel
theorem dX10_allAnew_69 : decode cX10_allAnew 69 = .ok (.iinc 1 1, 3) := by decide +kernel
theorem dX10_allAnew_72 : decode cX10_allAnew 72 = .ok (.goto (-28), 3) := by decide +kernel
theorem dX10_allAnew_75 : decode cX10_allAnew 75 = .ok (.iconst 0, 1) := by decide +kernel
theorem dX10_allAnew_76 : decode cX10_allAnew 76 = .ok (.istore_n 1, 1) := by decide +kernel
theorem dX10_allAnew_77 : decode cX10_allAnew 77 = .ok (.iload_n 1, 1) := by decide +kernel
theorem dX10_allAnew_78 : decode cX10_allAnew 78 = .ok (.iconst 2, 1) := by decide +kernel
theorem dX10_allAnew_79 : decode cX10_allAnew 79 = .ok (.if_icmp .ge 30, 3) := by decide +kernel
theorem dX10_allAnew_82 : decode cX10_allAnew 82 = .ok (.aload_n 0, 1) := by decide +kernel
theorem dX10_allAnew_83 : decode cX10_allAnew 83 = .ok (.getfield 65, 3) := by decide +kernel
theorem dX10_allAnew_86 : decode cX10_allAnew 86 = .ok (.iload_n 1, 1) := by decide +kernel
theorem dX10_allAnew_87 : decode cX10_allAnew 87 = .ok (.iconst 1, 1) := by decide +kernel
theorem dX10_allAnew_88 : decode cX10_allAnew 88 = .ok (.iastore, 1) := by decide +kernel
theorem dX10_allAnew_89 : decode cX10_allAnew 89 = .ok (.aload_n 0, 1) := by decide +kernel
theorem dX10_allAnew_90 : decode cX10_allAnew 90 = .ok (.getfield 74, 3) := by decide +kernel
theorem dX10_allAnew_93 : decode cX10_allAnew 93 = .ok (.iload_n 1, 1) := by decide +kernel
theorem dX10_allAnew_94 : decode cX10_allAnew 94 = .ok (.iconst 0, 1) := by decide +kernel
theorem dX10_allAnew_95 : decode cX10_allAnew 95 = .ok (.iastore, 1) := by decide +kernel
theorem dX10_allAnew_96 : decode cX10_allAnew 96 = .ok (.aload_n 0, 1) := by decide +kernel
theorem dX10_allAnew_97 : decode cX10_allAnew 97 = .ok (.getfield 77, 3) := by decide +kernel
theorem dX10_allAnew_100 : decode cX10_allAnew 100 = .ok (.iload_n 1, 1) := by decide +kernel
theorem dX10_allAnew_101 : decode cX10_allAnew 101 = .ok (.iconst 0, 1) := by decide +kernel
theorem dX10_allAnew_102 : decode cX10_allAnew 102 = .ok (.iastore, 1) := by decide +kernel
theorem dX10_allAnew_103 : decode cX10_allAnew 103 = .ok (.iinc 1 1, 3) := by decide +kernel
theorem dX10_allAnew_106 : decode cX10_allAnew 106 = .ok (.goto (-29), 3) := by decide +kernel
theorem dX10_allAnew_109 : decode cX10_allAnew 109 = .ok (.aload_n 0, 1) := by decide +kernel
theorem dX10_allAnew_110 : decode cX10_allAnew 110 = .ok (.iconst 0, 1) := by decide +kernel
theorem dX10_allAnew_111 : decode cX10_allAnew 111 = .ok (.putfield 109, 3) := by decide +kernel
theorem dX10_allAnew_114 : decode cX10_allAnew 114 = .ok (.aload_n 0, 1) := by decide +kernel
theorem dX10_allAnew_115 : decode cX10_allAnew 115 = .ok (.iconst 0, 1) := by decide +kernel
theorem dX10_allAnew_116 : decode cX10_allAnew 116 = .ok (.putfield 113, 3) := by decide +kernel
theorem dX10_allAnew_119 : decode cX10_allAnew 119 = .ok (.aload_n 0, 1) := by decide +kernel
theorem dX10_allAnew_120 : decode cX10_allAnew 120 = .ok (.iconst 0, 1) := by decide +kernel
theorem dX10_allAnew_121 : decode cX10_allAnew 121 = .ok (.putfield 116, 3) := by decide +kernel
theorem dX10_allAnew_124 : decode cX10_allAnew 124 = .ok (.aload_n 0, 1) := by decide +kernel
theorem dX10_allAnew_125 : decode cX10_allAnew 125 = .ok (.iconst 0, 1) := by decide +kernel
theorem dX10_allAnew_126 : decode cX10_allAnew 126 = .ok (.putfield 120, 3) := by decide +kernel
theorem dX10_allAnew_129 : decode cX10_allAnew 129 = .ok (.aload_n 0, 1) := by decide +kernel
theorem dX10_allAnew_130 : decode cX10_allAnew 130 = .ok (.iconst 0, 1) := by decide +kernel
theorem dX10_allAnew_131 : decode cX10_allAnew 131 = .ok (.putfield 123, 3) := by decide +kernel
theorem dX10_allAnew_134 : decode cX10_allAnew 134 = .ok (.return_, 1) := by decide +kernel
theorem dX10_endAnew_0 : decode cX10_endAnew 0 = .ok (.aload_n 0, 1) := by decide +kernel
theorem dX10_endAnew_1 : decode cX10_endAnew 1 = .ok (.getfield 22, 3) := by decide +kernel
theorem dX10_endAnew_4 : decode cX10_endAnew 4 = .ok (.iload_n 1, 1) := by decide +kernel
theorem dX10_endAnew_5 : decode cX10_endAnew 5 = .ok (.iload_n 2, 1) := by decide +kernel
theorem dX10_endAnew_6 : decode cX10_endAnew 6 = .ok (.iastore, 1) := by decide +kernel
theorem dX10_endAnew_7 : decode cX10_endAnew 7 = .ok (.aload_n 0, 1) := by decide +kernel
theorem dX10_endAnew_8 : decode cX10_endAnew 8 = .ok (.getfield 25, 3) := by decide +kernel
theorem dX10_endAnew_11 : decode cX10_endAnew 11 = .ok (.iload_n 1, 1) := by decide +kernel
theorem dX10_endAnew_12 : decode cX10_endAnew 12 = .ok (.iconst 0, 1) := by decide +kernel
theorem dX10_endAnew_13 : decode cX10_endAnew 13 = .ok (.iastore, 1) := by decide +kernel
theorem dX10_endAnew_14 : decode cX10_endAnew 14 = .ok (.aload_n 0, 1) := by decide +kernel
theorem dX10_endAnew_15 : decode cX10_endAnew 15 = .ok (.getfield 28, 3) := by decide +kernel
theorem dX10_endAnew_18 : decode cX10_endAnew 18 = .ok (.iload_n 1, 1) := by decide +kernel
theorem dX10_endAnew_19 : decode cX10_endAnew 19 = .ok (.iconst 0, 1) := by decide +kernel
theorem dX10_endAnew_20 : decode cX10_endAnew 20 = .ok (.iastore, 1) := by decide +kernel
theorem dX10_endAnew_21 : decode cX10_endAnew 21 = .ok (.aload_n 0, 1) := by decide +kernel
theorem dX10_endAnew_22 : decode cX10_endAnew 22 = .ok (.getfield 34, 3) := by decide +kernel
theorem dX10_endAnew_25 : decode cX10_endAnew 25 = .ok (.iload_n 1, 1) := by decide +kernel
theorem dX10_endAnew_26 : decode cX10_endAnew 26 = .ok (.iconst 0, 1) := by decide +kernel
theorem dX10_endAnew_27 : decode cX10_endAnew 27 = .ok (.iastore, 1) := by decide +kernel
theorem dX10_endAnew_28 : decode cX10_endAnew 28 = .ok (.aload_n 0, 1) := by decide +kernel
theorem dX10_endAnew_29 : decode cX10_endAnew 29 = .ok (.getfield 37, 3) := by decide +kernel
theorem dX10_endAnew_32 : decode cX10_endAnew 32 = .ok (.iload_n 1, 1) := by decide +kernel
theorem dX10_endAnew_33 : decode cX10_endAnew 33 = .ok (.iconst 0, 1) := by decide +kernel
theorem dX10_endAnew_34 : decode cX10_endAnew 34 = .ok (.iastore, 1) := by decide +kernel
theorem dX10_endAnew_35 : decode cX10_endAnew 35 = .ok (.aload_n 0, 1) := by decide +kernel
theorem dX10_endAnew_36 : decode cX10_endAnew 36 = .ok (.getfield 43, 3) := by decide +kernel
theorem dX10_endAnew_39 : decode cX10_endAnew 39 = .ok (.iload_n 1, 1) := by decide +kernel
theorem dX10_endAnew_40 : decode cX10_endAnew 40 = .ok (.iconst 0, 1) := by decide +kernel
theorem dX10_endAnew_41 : decode cX10_endAnew 41 = .ok (.iastore, 1) := by decide +kernel
theorem dX10_endAnew_42 : decode cX10_endAnew 42 = .ok (.aload_n 0, 1) := by decide +kernel
theorem dX10_endAnew_43 : decode cX10_endAnew 43 = .ok (.getfield 46, 3) := by decide +kernel
theorem dX10_endAnew_46 : decode cX10_endAnew 46 = .ok (.iload_n 1, 1) := by decide +kernel
theorem dX10_endAnew_47 : decode cX10_endAnew 47 = .ok (.iconst 0, 1) := by decide +kernel
theorem dX10_endAnew_48 : decode cX10_endAnew 48 = .ok (.iastore, 1) := by decide +kernel
theorem dX10_endAnew_49 : decode cX10_endAnew 49 = .ok (.aload_n 0, 1) := by decide +kernel
theorem dX10_endAnew_50 : decode cX10_endAnew 50 = .ok (.getfield 49, 3) := by decide +kernel
theorem dX10_endAnew_53 : decode cX10_endAnew 53 = .ok (.iload_n 1, 1) := by decide +kernel
theorem dX10_endAnew_54 : decode cX10_endAnew 54 = .ok (.iconst 0, 1) := by decide +kernel
theorem dX10_endAnew_55 : decode cX10_endAnew 55 = .ok (.bastore, 1) := by decide +kernel
theorem dX10_endAnew_56 : decode cX10_endAnew 56 = .ok (.aload_n 0, 1) := by decide +kernel
theorem dX10_endAnew_57 : decode cX10_endAnew 57 = .ok (.getfield 53, 3) := by decide +kernel
theorem dX10_endAnew_60 : decode cX10_endAnew 60 = .ok (.iload_n 1, 1) := by decide +kernel
theorem dX10_endAnew_61 : decode cX10_endAnew 61 = .ok (.iconst 0, 1) := by decide +kernel
theorem dX10_endAnew_62 : decode cX10_endAnew 62 = .ok (.iastore, 1) := by decide +kernel
theorem dX10_endAnew_63 : decode cX10_endAnew 63 = .ok (.return_, 1) := by decide +kernel
theorem dX10_write_0 : decode cX10_write 0 = .ok (.iload_n 1, 1) := by decide +kernel
theorem dX10_write_1 : decode cX10_write 1 = .ok (.i2l, 1) := by decide +kernel
theorem dX10_write_2 : decode cX10_write 2 = .ok (.lconst 0, 1) := by decide +kernel
theorem dX10_write_3 : decode cX10_write 3 = .ok (.ldc2_w 126, 3) := by decide +kernel
theorem dX10_write_6 : decode cX10_write 6 = .ok (.invokestatic 95, 3) := by decide +kernel
theorem dX10_write_9 : decode cX10_write 9 = .ok (.ifCond .ne 7, 3) := by decide +kernel
theorem dX10_write_12 : decode cX10_write 12 = .ok (.sipush (-1002), 3) := by decide +kernel
theorem dX10_write_15 : decode cX10_write 15 = .ok (.ireturn, 1) := by decide +kernel
theorem dX10_write_16 : decode cX10_write 16 = .ok (.aload_n 0, 1) := by decide +kernel
theorem dX10_write_17 : decode cX10_write 17 = .ok (.getfield 128, 3) := by decide +kernel
theorem dX10_write_20 : decode cX10_write 20 = .ok (.sipush 200, 3) := by decide +kernel
theorem dX10_write_23 : decode cX10_write 23 = .ok (.if_icmp .ne 7, 3) := by decide +kernel
theorem dX10_write_26 : decode cX10_write 26 = .ok (.sipush (-1004), 3) := by decide +kernel
theorem dX10_write_29 : decode cX10_write 29 = .ok (.ireturn, 1) := by decide +kernel
theorem dX10_write_30 : decode cX10_write 30 = .ok (.aload_n 0, 1) := by decide +kernel
theorem dX10_write_31 : decode cX10_write 31 = .ok (.getfield 83, 3) := by decide +kernel
theorem dX10_write_34 : decode cX10_write 34 = .ok (.aload_n 0, 1) := by decide +kernel
theorem dX10_write_35 : decode cX10_write 35 = .ok (.getfield 128, 3) := by decide +kernel
theorem dX10_write_38 : decode cX10_write 38 = .ok (.iload_n 1, 1) := by decide +kernel
theorem dX10_write_39 : decode cX10_write 39 = .ok (.iastore, 1) := by decide +kernel
theorem dX10_write_40 : decode cX10_write 40 = .ok (.aload_n 0, 1) := by decide +kernel
theorem dX10_write_41 : decode cX10_write 41 = .ok (.dup, 1) := by decide +kernel
theorem dX10_write_42 : decode cX10_write 42 = .ok (.getfield 128, 3) := by decide +kernel
theorem dX10_write_45 : decode cX10_write 45 = .ok (.iconst 1, 1) := by decide +kernel
theorem dX10_write_46 : decode cX10_write 46 = .ok (.iadd, 1) := by decide +kernel
theorem dX10_write_47 : decode cX10_write 47 = .ok (.putfield 128, 3) := by decide +kernel
theorem dX10_write_50 : decode cX10_write 50 = .ok (.aload_n 0, 1) := by decide +kernel
theorem dX10_write_51 : decode cX10_write 51 = .ok (.getfield 128, 3) := by decide +kernel
theorem dX10_write_54 : decode cX10_write 54 = .ok (.ireturn, 1) := by decide +kernel
theorem dX10_erase_0 : decode cX10_erase 0 = .ok (.aload_n 0, 1) := by decide +kernel
theorem dX10_erase_1 : decode cX10_erase 1 = .ok (.getfield 128, 3) := by decide +kernel
theorem dX10_erase_4 : decode cX10_erase 4 = .ok (.istore_n 1, 1) := by decide +kernel
theorem dX10_erase_5 : decode cX10_erase 5 = .ok (.aload_n 0, 1) := by decide +kernel
theorem dX10_erase_6 : decode cX10_erase 6 = .ok (.iconst 0, 1) := by decide +kernel
theorem dX10_erase_7 : decode cX10_erase 7 = .ok (.putfield 128, 3) := by decide +kernel
theorem dX10_erase_10 : decode cX10_erase 10 = .ok (.iload_n 1, 1) := by decide +kernel
theorem dX10_erase_11 : decode cX10_erase 11 = .ok (.ireturn, 1) := by decide +kernel
theorem dX10_isSmall_0 : decode cX10_isSmall 0 = .ok (.iload_n 0, 1) := by decide +kernel
theorem dX10_isSmall_1 : decode cX10_isSmall 1 = .ok (.i2l, 1) := by decide +kernel
theorem dX10_isSmall_2 : decode cX10_isSmall 2 = .ok (.ldc2_w 131, 3) := by decide +kernel
theorem dX10_isSmall_5 : decode cX10_isSmall 5 = .ok (.ldc2_w 133, 3) := by decide +kernel
theorem dX10_isSmall_8 : decode cX10_isSmall 8 = .ok (.invokestatic 95, 3) := by decide +kernel
theorem dX10_isSmall_11 : decode cX10_isSmall 11 = .ok (.ireturn, 1) := by decide +kernel
theorem dX10_isDigit_0 : decode cX10_isDigit 0 = .ok (.iload_n 0, 1) := by decide +kernel
theorem dX10_isDigit_1 : decode cX10_isDigit 1 = .ok (.i2l, 1) := by decide +kernel
theorem dX10_isDigit_2 : decode cX10_isDigit 2 = .ok (.ldc2_w 135, 3) := by decide +kernel
theorem dX10_isDigit_5 : decode cX10_isDigit 5 = .ok (.ldc2_w 137, 3) := by decide +kernel
theorem dX10_isDigit_8 : decode cX10_isDigit 8 = .ok (.invokestatic 95, 3) := by decide +kernel
theorem dX10_isDigit_11 : decode cX10_isDigit 11 = .ok (.ireturn, 1) := by decide +kernel
theorem dX10_next_0 : decode cX10_next 0 = .ok (.aload_n 0, 1) := by decide +kernel
theorem dX10_next_1 : decode cX10_next 1 = .ok (.aload_n 0, 1) := by decide +kernel
theorem dX10_next_2 : decode cX10_next 2 = .ok (.getfield 139, 3) := by decide +kernel
theorem dX10_next_5 : decode cX10_next 5 = .ok (.putfield 142, 3) := by decide +kernel
theorem dX10_next_8 : decode cX10_next 8 = .ok (.aload_n 0, 1) := by decide +kernel
theorem dX10_next_9 : decode cX10_next 9 = .ok (.getfield 142, 3) := by decide +kernel
theorem dX10_next_12 : decode cX10_next 12 = .ok (.aload_n 0, 1) := by decide +kernel
theorem dX10_next_13 : decode cX10_next 13 = .ok (.getfield 128, 3) := by decide +kernel
theorem dX10_next_16 : decode cX10_next 16 = .ok (.if_icmp .ge 30, 3) := by decide +kernel
theorem dX10_next_19 : decode cX10_next 19 = .ok (.aload_n 0, 1) := by decide +kernel
theorem dX10_next_20 : decode cX10_next 20 = .ok (.getfield 83, 3) := by decide +kernel
theorem dX10_next_23 : decode cX10_next 23 = .ok (.aload_n 0, 1) := by decide +kernel
theorem dX10_next_24 : decode cX10_next 24 = .ok (.getfield 142, 3) := by decide +kernel
theorem dX10_next_27 : decode cX10_next 27 = .ok (.iaload, 1) := by decide +kernel
theorem dX10_next_28 : decode cX10_next 28 = .ok (.bipush 32, 2) := by decide +kernel
theorem dX10_next_30 : decode cX10_next 30 = .ok (.if_icmp .ne 16, 3) := by decide +kernel
theorem dX10_next_33 : decode cX10_next 33 = .ok (.aload_n 0, 1) := by decide +kernel
theorem dX10_next_34 : decode cX10_next 34 = .ok (.dup, 1) := by decide +kernel
theorem dX10_next_35 : decode cX10_next 35 = .ok (.getfield 142, 3) := by decide +kernel
theorem dX10_next_38 : decode cX10_next 38 = .ok (.iconst 1, 1) := by decide +kernel
theorem dX10_next_39 : decode cX10_next 39 = .ok (.iadd, 1) := by decide +kernel
theorem dX10_next_40 : decode cX10_next 40 = .ok (.putfield 142, 3) := by decide +kernel
theorem dX10_next_43 : decode cX10_next 43 = .ok (.goto (-35), 3) := by decide +kernel
theorem dX10_next_46 : decode cX10_next 46 = .ok (.aload_n 0, 1) := by decide +kernel
theorem dX10_next_47 : decode cX10_next 47 = .ok (.aload_n 0, 1) := by decide +kernel
theorem dX10_next_48 : decode cX10_next 48 = .ok (.getfield 142, 3) := by decide +kernel
theorem dX10_next_51 : decode cX10_next 51 = .ok (.aload_n 0, 1) := by decide +kernel
theorem dX10_next_52 : decode cX10_next 52 = .ok (.getfield 128, 3) := by decide +kernel
theorem dX10_next_55 : decode cX10_next 55 = .ok (.if_icmp .ge 12, 3) := by decide +kernel
theorem dX10_next_58 : decode cX10_next 58 = .ok (.aload_n 0, 1) := by decide +kernel
theorem dX10_next_59 : decode cX10_next 59 = .ok (.getfield 142, 3) := by decide +kernel
theorem dX10_next_62 : decode cX10_next 62 = .ok (.iconst 1, 1) := by decide +kernel
theorem dX10_next_63 : decode cX10_next 63 = .ok (.iadd, 1) := by decide +kernel
theorem dX10_next_64 : decode cX10_next 64 = .ok (.goto 7, 3) := by decide +kernel
theorem dX10_next_67 : decode cX10_next 67 = .ok (.aload_n 0, 1) := by decide +kernel
theorem dX10_next_68 : decode cX10_next 68 = .ok (.getfield 142, 3) := by decide +kernel
theorem dX10_next_71 : decode cX10_next 71 = .ok (.putfield 139, 3) := by decide +kernel
theorem dX10_next_74 : decode cX10_next 74 = .ok (.aload_n 0, 1) := by decide +kernel
theorem dX10_next_75 : decode cX10_next 75 = .ok (.getfield 142, 3) := by decide +kernel
theorem dX10_next_78 : decode cX10_next 78 = .ok (.aload_n 0, 1) := by decide +kernel
theorem dX10_next_79 : decode cX10_next 79 = .ok (.getfield 128, 3) := by decide +kernel
theorem dX10_next_82 : decode cX10_next 82 = .ok (.if_icmp .ge 22, 3) := by decide +kernel
theorem dX10_next_85 : decode cX10_next 85 = .ok (.aload_n 0, 1) := by decide +kernel
theorem dX10_next_86 : decode cX10_next 86 = .ok (.getfield 83, 3) := by decide +kernel
theorem dX10_next_89 : decode cX10_next 89 = .ok (.aload_n 0, 1) := by decide +kernel
theorem dX10_next_90 : decode cX10_next 90 = .ok (.getfield 142, 3) := by decide +kernel
theorem dX10_next_93 : decode cX10_next 93 = .ok (.iaload, 1) := by decide +kernel
end
section
theorem dX10_next_94 : decode cX10_next 94 = .ok (.invokestatic 145, 3) := by decide +kernel
theorem dX10_next_97 : decode cX10_next 97 = .ok (.ifCond .eq 7, 3) := by decide +kernel
theorem dX10_next_100 : decode cX10_next 100 = .ok (.iconst 1, 1) := by decide +kernel
theorem dX10_next_101 : decode cX10_next 101 = .ok (.goto 4, 3) := by decide +kernel
theorem dX10_next_104 : decode cX10_next 104 = .ok (.iconst 0, 1) := by decide +kernel
theorem dX10_next_105 : decode cX10_next 105 = .ok (.istore_n 1, 1) := by decide +kernel
theorem dX10_next_106 : decode cX10_next 106 = .ok (.aload_n 0, 1) := by decide +kernel
theorem dX10_next_107 : decode cX10_next 107 = .ok (.getfield 142, 3) := by decide +kernel
theorem dX10_next_110 : decode cX10_next 110 = .ok (.aload_n 0, 1) := by decide +kernel
theorem dX10_next_111 : decode cX10_next 111 = .ok (.getfield 128, 3) := by decide +kernel
theorem dX10_next_114 : decode cX10_next 114 = .ok (.if_icmp .ge 22, 3) := by decide +kernel
theorem dX10_next_117 : decode cX10_next 117 = .ok (.aload_n 0, 1) := by decide +kernel
theorem dX10_next_118 : decode cX10_next 118 = .ok (.getfield 83, 3) := by decide +kernel
theorem dX10_next_121 : decode cX10_next 121 = .ok (.aload_n 0, 1) := by decide +kernel
theorem dX10_next_122 : decode cX10_next 122 = .ok (.getfield 142, 3) := by decide +kernel
theorem dX10_next_125 : decode cX10_next 125 = .ok (.iaload, 1) := by decide +kernel
theorem dX10_next_126 : decode cX10_next 126 = .ok (.invokestatic 149, 3) := by decide +kernel
theorem dX10_next_129 : decode cX10_next 129 = .ok (.ifCond .eq 7, 3) := by decide +kernel
theorem dX10_next_132 : decode cX10_next 132 = .ok (.iconst 1, 1) := by decide +kernel
theorem dX10_next_133 : decode cX10_next 133 = .ok (.goto 4, 3) := by decide +kernel
theorem dX10_next_136 : decode cX10_next 136 = .ok (.iconst 0, 1) := by decide +kernel
theorem dX10_next_137 : decode cX10_next 137 = .ok (.istore_n 2, 1) := by decide +kernel
theorem dX10_next_138 : decode cX10_next 138 = .ok (.aload_n 0, 1) := by decide +kernel
theorem dX10_next_139 : decode cX10_next 139 = .ok (.getfield 139, 3) := by decide +kernel
theorem dX10_next_142 : decode cX10_next 142 = .ok (.aload_n 0, 1) := by decide +kernel
theorem dX10_next_143 : decode cX10_next 143 = .ok (.getfield 128, 3) := by decide +kernel
theorem dX10_next_146 : decode cX10_next 146 = .ok (.if_icmp .ge 54, 3) := by decide +kernel
theorem dX10_next_149 : decode cX10_next 149 = .ok (.iload_n 1, 1) := by decide +kernel
theorem dX10_next_150 : decode cX10_next 150 = .ok (.ifCond .eq 18, 3) := by decide +kernel
theorem dX10_next_153 : decode cX10_next 153 = .ok (.aload_n 0, 1) := by decide +kernel
theorem dX10_next_154 : decode cX10_next 154 = .ok (.getfield 83, 3) := by decide +kernel
theorem dX10_next_157 : decode cX10_next 157 = .ok (.aload_n 0, 1) := by decide +kernel
theorem dX10_next_158 : decode cX10_next 158 = .ok (.getfield 139, 3) := by decide +kernel
theorem dX10_next_161 : decode cX10_next 161 = .ok (.iaload, 1) := by decide +kernel
theorem dX10_next_162 : decode cX10_next 162 = .ok (.invokestatic 145, 3) := by decide +kernel
theorem dX10_next_165 : decode cX10_next 165 = .ok (.ifCond .ne 22, 3) := by decide +kernel
theorem dX10_next_168 : decode cX10_next 168 = .ok (.iload_n 2, 1) := by decide +kernel
theorem dX10_next_169 : decode cX10_next 169 = .ok (.ifCond .eq 31, 3) := by decide +kernel
theorem dX10_next_172 : decode cX10_next 172 = .ok (.aload_n 0, 1) := by decide +kernel
theorem dX10_next_173 : decode cX10_next 173 = .ok (.getfield 83, 3) := by decide +kernel
theorem dX10_next_176 : decode cX10_next 176 = .ok (.aload_n 0, 1) := by decide +kernel
theorem dX10_next_177 : decode cX10_next 177 = .ok (.getfield 139, 3) := by decide +kernel
theorem dX10_next_180 : decode cX10_next 180 = .ok (.iaload, 1) := by decide +kernel
theorem dX10_next_181 : decode cX10_next 181 = .ok (.invokestatic 149, 3) := by decide +kernel
theorem dX10_next_184 : decode cX10_next 184 = .ok (.ifCond .eq 16, 3) := by decide +kernel
theorem dX10_next_187 : decode cX10_next 187 = .ok (.aload_n 0, 1) := by decide +kernel
theorem dX10_next_188 : decode cX10_next 188 = .ok (.dup, 1) := by decide +kernel
theorem dX10_next_189 : decode cX10_next 189 = .ok (.getfield 139, 3) := by decide +kernel
theorem dX10_next_192 : decode cX10_next 192 = .ok (.iconst 1, 1) := by decide +kernel
theorem dX10_next_193 : decode cX10_next 193 = .ok (.iadd, 1) := by decide +kernel
theorem dX10_next_194 : decode cX10_next 194 = .ok (.putfield 139, 3) := by decide +kernel
theorem dX10_next_197 : decode cX10_next 197 = .ok (.goto (-59), 3) := by decide +kernel
theorem dX10_next_200 : decode cX10_next 200 = .ok (.return_, 1) := by decide +kernel
theorem dX10_wordHere_0 : decode cX10_wordHere 0 = .ok (.iconst 0, 1) := by decide +kernel
theorem dX10_wordHere_1 : decode cX10_wordHere 1 = .ok (.istore_n 1, 1) := by decide +kernel
theorem dX10_wordHere_2 : decode cX10_wordHere 2 = .ok (.iload_n 1, 1) := by decide +kernel
theorem dX10_wordHere_3 : decode cX10_wordHere 3 = .ok (.bipush 6, 2) := by decide +kernel
theorem dX10_wordHere_5 : decode cX10_wordHere 5 = .ok (.if_icmp .ge 110, 3) := by decide +kernel
theorem dX10_wordHere_8 : decode cX10_wordHere 8 = .ok (.aload_n 0, 1) := by decide +kernel
theorem dX10_wordHere_9 : decode cX10_wordHere 9 = .ok (.getfield 139, 3) := by decide +kernel
theorem dX10_wordHere_12 : decode cX10_wordHere 12 = .ok (.aload_n 0, 1) := by decide +kernel
theorem dX10_wordHere_13 : decode cX10_wordHere 13 = .ok (.getfield 142, 3) := by decide +kernel
theorem dX10_wordHere_16 : decode cX10_wordHere 16 = .ok (.if_icmp .le 21, 3) := by decide +kernel
theorem dX10_wordHere_19 : decode cX10_wordHere 19 = .ok (.aload_n 0, 1) := by decide +kernel
theorem dX10_wordHere_20 : decode cX10_wordHere 20 = .ok (.getfield 139, 3) := by decide +kernel
theorem dX10_wordHere_23 : decode cX10_wordHere 23 = .ok (.aload_n 0, 1) := by decide +kernel
theorem dX10_wordHere_24 : decode cX10_wordHere 24 = .ok (.getfield 142, 3) := by decide +kernel
theorem dX10_wordHere_27 : decode cX10_wordHere 27 = .ok (.isub, 1) := by decide +kernel
theorem dX10_wordHere_28 : decode cX10_wordHere 28 = .ok (.bipush 6, 2) := by decide +kernel
theorem dX10_wordHere_30 : decode cX10_wordHere 30 = .ok (.if_icmp .ge 7, 3) := by decide +kernel
theorem dX10_wordHere_33 : decode cX10_wordHere 33 = .ok (.iconst 1, 1) := by decide +kernel
theorem dX10_wordHere_34 : decode cX10_wordHere 34 = .ok (.goto 4, 3) := by decide +kernel
theorem dX10_wordHere_37 : decode cX10_wordHere 37 = .ok (.iconst 0, 1) := by decide +kernel
theorem dX10_wordHere_38 : decode cX10_wordHere 38 = .ok (.istore_n 2, 1) := by decide +kernel
theorem dX10_wordHere_39 : decode cX10_wordHere 39 = .ok (.iconst 0, 1) := by decide +kernel
theorem dX10_wordHere_40 : decode cX10_wordHere 40 = .ok (.istore_n 3, 1) := by decide +kernel
theorem dX10_wordHere_41 : decode cX10_wordHere 41 = .ok (.iload_n 3, 1) := by decide +kernel
theorem dX10_wordHere_42 : decode cX10_wordHere 42 = .ok (.iconst 5, 1) := by decide +kernel
theorem dX10_wordHere_43 : decode cX10_wordHere 43 = .ok (.if_icmp .ge 60, 3) := by decide +kernel
theorem dX10_wordHere_46 : decode cX10_wordHere 46 = .ok (.iload_n 2, 1) := by decide +kernel
theorem dX10_wordHere_47 : decode cX10_wordHere 47 = .ok (.ifCond .eq 56, 3) := by decide +kernel
theorem dX10_wordHere_50 : decode cX10_wordHere 50 = .ok (.aload_n 0, 1) := by decide +kernel
theorem dX10_wordHere_51 : decode cX10_wordHere 51 = .ok (.getfield 89, 3) := by decide +kernel
theorem dX10_wordHere_54 : decode cX10_wordHere 54 = .ok (.iconst 5, 1) := by decide +kernel
theorem dX10_wordHere_55 : decode cX10_wordHere 55 = .ok (.iload_n 1, 1) := by decide +kernel
theorem dX10_wordHere_56 : decode cX10_wordHere 56 = .ok (.imul, 1) := by decide +kernel
theorem dX10_wordHere_57 : decode cX10_wordHere 57 = .ok (.iload_n 3, 1) := by decide +kernel
theorem dX10_wordHere_58 : decode cX10_wordHere 58 = .ok (.iadd, 1) := by decide +kernel
theorem dX10_wordHere_59 : decode cX10_wordHere 59 = .ok (.iaload, 1) := by decide +kernel
theorem dX10_wordHere_60 : decode cX10_wordHere 60 = .ok (.aload_n 0, 1) := by decide +kernel
theorem dX10_wordHere_61 : decode cX10_wordHere 61 = .ok (.getfield 142, 3) := by decide +kernel
theorem dX10_wordHere_64 : decode cX10_wordHere 64 = .ok (.iload_n 3, 1) := by decide +kernel
theorem dX10_wordHere_65 : decode cX10_wordHere 65 = .ok (.iadd, 1) := by decide +kernel
theorem dX10_wordHere_66 : decode cX10_wordHere 66 = .ok (.aload_n 0, 1) := by decide +kernel
theorem dX10_wordHere_67 : decode cX10_wordHere 67 = .ok (.getfield 139, 3) := by decide +kernel
theorem dX10_wordHere_70 : decode cX10_wordHere 70 = .ok (.if_icmp .ge 17, 3) := by decide +kernel
theorem dX10_wordHere_73 : decode cX10_wordHere 73 = .ok (.aload_n 0, 1) := by decide +kernel
theorem dX10_wordHere_74 : decode cX10_wordHere 74 = .ok (.getfield 83, 3) := by decide +kernel
theorem dX10_wordHere_77 : decode cX10_wordHere 77 = .ok (.aload_n 0, 1) := by decide +kernel
theorem dX10_wordHere_78 : decode cX10_wordHere 78 = .ok (.getfield 142, 3) := by decide +kernel
theorem dX10_wordHere_81 : decode cX10_wordHere 81 = .ok (.iload_n 3, 1) := by decide +kernel
theorem dX10_wordHere_82 : decode cX10_wordHere 82 = .ok (.iadd, 1) := by decide +kernel
theorem dX10_wordHere_83 : decode cX10_wordHere 83 = .ok (.iaload, 1) := by decide +kernel
theorem dX10_wordHere_84 : decode cX10_wordHere 84 = .ok (.goto 4, 3) := by decide +kernel
theorem dX10_wordHere_87 : decode cX10_wordHere 87 = .ok (.iconst 0, 1) := by decide +kernel
theorem dX10_wordHere_88 : decode cX10_wordHere 88 = .ok (.if_icmp .ne 7, 3) := by decide +kernel
theorem dX10_wordHere_91 : decode cX10_wordHere 91 = .ok (.iconst 1, 1) := by decide +kernel
theorem dX10_wordHere_92 : decode cX10_wordHere 92 = .ok (.goto 4, 3) := by decide +kernel
theorem dX10_wordHere_95 : decode cX10_wordHere 95 = .ok (.iconst 0, 1) := by decide +kernel
theorem dX10_wordHere_96 : decode cX10_wordHere 96 = .ok (.istore_n 2, 1) := by decide +kernel
theorem dX10_wordHere_97 : decode cX10_wordHere 97 = .ok (.iinc 3 1, 3) := by decide +kernel
theorem dX10_wordHere_100 : decode cX10_wordHere 100 = .ok (.goto (-59), 3) := by decide +kernel
theorem dX10_wordHere_103 : decode cX10_wordHere 103 = .ok (.iload_n 2, 1) := by decide +kernel
theorem dX10_wordHere_104 : decode cX10_wordHere 104 = .ok (.ifCond .eq 5, 3) := by decide +kernel
theorem dX10_wordHere_107 : decode cX10_wordHere 107 = .ok (.iload_n 1, 1) := by decide +kernel
theorem dX10_wordHere_108 : decode cX10_wordHere 108 = .ok (.ireturn, 1) := by decide +kernel
theorem dX10_wordHere_109 : decode cX10_wordHere 109 = .ok (.iinc 1 1, 3) := by decide +kernel
theorem dX10_wordHere_112 : decode cX10_wordHere 112 = .ok (.goto (-110), 3) := by decide +kernel
theorem dX10_wordHere_115 : decode cX10_wordHere 115 = .ok (.iconst (-1), 1) := by decide +kernel
theorem dX10_wordHere_116 : decode cX10_wordHere 116 = .ok (.ireturn, 1) := by decide +kernel
theorem dX10_reads_0 : decode cX10_reads 0 = .ok (.aload_n 0, 1) := by decide +kernel
theorem dX10_reads_1 : decode cX10_reads 1 = .ok (.getfield 142, 3) := by decide +kernel
theorem dX10_reads_4 : decode cX10_reads 4 = .ok (.aload_n 0, 1) := by decide +kernel
theorem dX10_reads_5 : decode cX10_reads 5 = .ok (.getfield 128, 3) := by decide +kernel
theorem dX10_reads_8 : decode cX10_reads 8 = .ok (.if_icmp .eq 31, 3) := by decide +kernel
theorem dX10_reads_11 : decode cX10_reads 11 = .ok (.aload_n 0, 1) := by decide +kernel
theorem dX10_reads_12 : decode cX10_reads 12 = .ok (.getfield 83, 3) := by decide +kernel
theorem dX10_reads_15 : decode cX10_reads 15 = .ok (.aload_n 0, 1) := by decide +kernel
theorem dX10_reads_16 : decode cX10_reads 16 = .ok (.getfield 142, 3) := by decide +kernel
theorem dX10_reads_19 : decode cX10_reads 19 = .ok (.iaload, 1) := by decide +kernel
theorem dX10_reads_20 : decode cX10_reads 20 = .ok (.invokestatic 149, 3) := by decide +kernel
theorem dX10_reads_23 : decode cX10_reads 23 = .ok (.ifCond .eq 16, 3) := by decide +kernel
theorem dX10_reads_26 : decode cX10_reads 26 = .ok (.aload_n 0, 1) := by decide +kernel
theorem dX10_reads_27 : decode cX10_reads 27 = .ok (.getfield 139, 3) := by decide +kernel
theorem dX10_reads_30 : decode cX10_reads 30 = .ok (.aload_n 0, 1) := by decide +kernel
theorem dX10_reads_31 : decode cX10_reads 31 = .ok (.getfield 142, 3) := by decide +kernel
theorem dX10_reads_34 : decode cX10_reads 34 = .ok (.isub, 1) := by decide +kernel
theorem dX10_reads_35 : decode cX10_reads 35 = .ok (.iconst 4, 1) := by decide +kernel
theorem dX10_reads_36 : decode cX10_reads 36 = .ok (.if_icmp .le 5, 3) := by decide +kernel
theorem dX10_reads_39 : decode cX10_reads 39 = .ok (.iconst 0, 1) := by decide +kernel
theorem dX10_reads_40 : decode cX10_reads 40 = .ok (.ireturn, 1) := by decide +kernel
theorem dX10_reads_41 : decode cX10_reads 41 = .ok (.iconst 0, 1) := by decide +kernel
theorem dX10_reads_42 : decode cX10_reads 42 = .ok (.istore 4, 2) := by decide +kernel
theorem dX10_reads_44 : decode cX10_reads 44 = .ok (.aload_n 0, 1) := by decide +kernel
theorem dX10_reads_45 : decode cX10_reads 45 = .ok (.getfield 142, 3) := by decide +kernel
theorem dX10_reads_48 : decode cX10_reads 48 = .ok (.istore 5, 2) := by decide +kernel
theorem dX10_reads_50 : decode cX10_reads 50 = .ok (.iload 5, 2) := by decide +kernel
theorem dX10_reads_52 : decode cX10_reads 52 = .ok (.aload_n 0, 1) := by decide +kernel
theorem dX10_reads_53 : decode cX10_reads 53 = .ok (.getfield 139, 3) := by decide +kernel
theorem dX10_reads_56 : decode cX10_reads 56 = .ok (.if_icmp .ge 27, 3) := by decide +kernel
theorem dX10_reads_59 : decode cX10_reads 59 = .ok (.bipush 10, 2) := by decide +kernel
theorem dX10_reads_61 : decode cX10_reads 61 = .ok (.iload 4, 2) := by decide +kernel
theorem dX10_reads_63 : decode cX10_reads 63 = .ok (.imul, 1) := by decide +kernel
theorem dX10_reads_64 : decode cX10_reads 64 = .ok (.aload_n 0, 1) := by decide +kernel
theorem dX10_reads_65 : decode cX10_reads 65 = .ok (.getfield 83, 3) := by decide +kernel
theorem dX10_reads_68 : decode cX10_reads 68 = .ok (.iload 5, 2) := by decide +kernel
theorem dX10_reads_70 : decode cX10_reads 70 = .ok (.iaload, 1) := by decide +kernel
theorem dX10_reads_71 : decode cX10_reads 71 = .ok (.iadd, 1) := by decide +kernel
theorem dX10_reads_72 : decode cX10_reads 72 = .ok (.bipush 48, 2) := by decide +kernel
theorem dX10_reads_74 : decode cX10_reads 74 = .ok (.isub, 1) := by decide +kernel
theorem dX10_reads_75 : decode cX10_reads 75 = .ok (.istore 4, 2) := by decide +kernel
theorem dX10_reads_77 : decode cX10_reads 77 = .ok (.iinc 5 1, 3) := by decide +kernel
theorem dX10_reads_80 : decode cX10_reads 80 = .ok (.goto (-30), 3) := by decide +kernel
theorem dX10_reads_83 : decode cX10_reads 83 = .ok (.iload 4, 2) := by decide +kernel
theorem dX10_reads_85 : decode cX10_reads 85 = .ok (.i2l, 1) := by decide +kernel
theorem dX10_reads_86 : decode cX10_reads 86 = .ok (.iload_n 2, 1) := by decide +kernel
theorem dX10_reads_87 : decode cX10_reads 87 = .ok (.i2l, 1) := by decide +kernel
theorem dX10_reads_88 : decode cX10_reads 88 = .ok (.iload_n 3, 1) := by decide +kernel
theorem dX10_reads_89 : decode cX10_reads 89 = .ok (.i2l, 1) := by decide +kernel
theorem dX10_reads_90 : decode cX10_reads 90 = .ok (.invokestatic 95, 3) := by decide +kernel
theorem dX10_reads_93 : decode cX10_reads 93 = .ok (.ifCond .ne 5, 3) := by decide +kernel
theorem dX10_reads_96 : decode cX10_reads 96 = .ok (.iconst 0, 1) := by decide +kernel
theorem dX10_reads_97 : decode cX10_reads 97 = .ok (.ireturn, 1) := by decide +kernel
theorem dX10_reads_98 : decode cX10_reads 98 = .ok (.aload_n 0, 1) := by decide +kernel
theorem dX10_reads_99 : decode cX10_reads 99 = .ok (.getfield 86, 3) := by decide +kernel
theorem dX10_reads_102 : decode cX10_reads 102 = .ok (.iload_n 1, 1) := by decide +kernel
theorem dX10_reads_103 : decode cX10_reads 103 = .ok (.iload 4, 2) := by decide +kernel
theorem dX10_reads_105 : decode cX10_reads 105 = .ok (.iastore, 1) := by decide +kernel
theorem dX10_reads_106 : decode cX10_reads 106 = .ok (.aload_n 0, 1) := by decide +kernel
theorem dX10_reads_107 : decode cX10_reads 107 = .ok (.invokevirtual 152, 3) := by decide +kernel
theorem dX10_reads_110 : decode cX10_reads 110 = .ok (.iconst 1, 1) := by decide +kernel
theorem dX10_reads_111 : decode cX10_reads 111 = .ok (.ireturn, 1) := by decide +kernel
theorem dX10_readsRest_0 : decode cX10_readsRest 0 = .ok (.iload_n 1, 1) := by decide +kernel
theorem dX10_readsRest_1 : decode cX10_readsRest 1 = .ok (.tableswitch 206 0 4 #[35, 37, 103, 142, 169], 35) := by decide +kernel
theorem dX10_readsRest_36 : decode cX10_readsRest 36 = .ok (.iconst 1, 1) := by decide +kernel
theorem dX10_readsRest_37 : decode cX10_readsRest 37 = .ok (.ireturn, 1) := by decide +kernel
theorem dX10_readsRest_38 : decode cX10_readsRest 38 = .ok (.aload_n 0, 1) := by decide +kernel
theorem dX10_readsRest_39 : decode cX10_readsRest 39 = .ok (.iconst 0, 1) := by decide +kernel
theorem dX10_readsRest_40 : decode cX10_readsRest 40 = .ok (.iconst 0, 1) := by decide +kernel
theorem dX10_readsRest_41 : decode cX10_readsRest 41 = .ok (.iconst 1, 1) := by decide +kernel
theorem dX10_readsRest_42 : decode cX10_readsRest 42 = .ok (.invokevirtual 155, 3) := by decide +kernel
theorem dX10_readsRest_45 : decode cX10_readsRest 45 = .ok (.ifCond .eq 57, 3) := by decide +kernel
theorem dX10_readsRest_48 : decode cX10_readsRest 48 = .ok (.aload_n 0, 1) := by decide +kernel
theorem dX10_readsRest_49 : decode cX10_readsRest 49 = .ok (.iconst 1, 1) := by decide +kernel
theorem dX10_readsRest_50 : decode cX10_readsRest 50 = .ok (.iconst 0, 1) := by decide +kernel
theorem dX10_readsRest_51 : decode cX10_readsRest 51 = .ok (.iconst 3, 1) := by decide +kernel
theorem dX10_readsRest_52 : decode cX10_readsRest 52 = .ok (.invokevirtual 155, 3) := by decide +kernel
theorem dX10_readsRest_55 : decode cX10_readsRest 55 = .ok (.ifCond .eq 47, 3) := by decide +kernel
theorem dX10_readsRest_58 : decode cX10_readsRest 58 = .ok (.aload_n 0, 1) := by decide +kernel
theorem dX10_readsRest_59 : decode cX10_readsRest 59 = .ok (.iconst 2, 1) := by decide +kernel
theorem dX10_readsRest_60 : decode cX10_readsRest 60 = .ok (.iconst 0, 1) := by decide +kernel
theorem dX10_readsRest_61 : decode cX10_readsRest 61 = .ok (.bipush 11, 2) := by decide +kernel
theorem dX10_readsRest_63 : decode cX10_readsRest 63 = .ok (.invokevirtual 155, 3) := by decide +kernel
theorem dX10_readsRest_66 : decode cX10_readsRest 66 = .ok (.ifCond .eq 36, 3) := by decide +kernel
theorem dX10_readsRest_69 : decode cX10_readsRest 69 = .ok (.aload_n 0, 1) := by decide +kernel
theorem dX10_readsRest_70 : decode cX10_readsRest 70 = .ok (.iconst 3, 1) := by decide +kernel
theorem dX10_readsRest_71 : decode cX10_readsRest 71 = .ok (.iconst 1, 1) := by decide +kernel
theorem dX10_readsRest_72 : decode cX10_readsRest 72 = .ok (.bipush 12, 2) := by decide +kernel
theorem dX10_readsRest_74 : decode cX10_readsRest 74 = .ok (.aload_n 0, 1) := by decide +kernel
theorem dX10_readsRest_75 : decode cX10_readsRest 75 = .ok (.getfield 86, 3) := by decide +kernel
theorem dX10_readsRest_78 : decode cX10_readsRest 78 = .ok (.iconst 2, 1) := by decide +kernel
theorem dX10_readsRest_79 : decode cX10_readsRest 79 = .ok (.iaload, 1) := by decide +kernel
theorem dX10_readsRest_80 : decode cX10_readsRest 80 = .ok (.isub, 1) := by decide +kernel
theorem dX10_readsRest_81 : decode cX10_readsRest 81 = .ok (.invokevirtual 155, 3) := by decide +kernel
theorem dX10_readsRest_84 : decode cX10_readsRest 84 = .ok (.ifCond .eq 18, 3) := by decide +kernel
theorem dX10_readsRest_87 : decode cX10_readsRest 87 = .ok (.aload_n 0, 1) := by decide +kernel
theorem dX10_readsRest_88 : decode cX10_readsRest 88 = .ok (.iconst 4, 1) := by decide +kernel
theorem dX10_readsRest_89 : decode cX10_readsRest 89 = .ok (.iconst 0, 1) := by decide +kernel
theorem dX10_readsRest_90 : decode cX10_readsRest 90 = .ok (.bipush 7, 2) := by decide +kernel
theorem dX10_readsRest_92 : decode cX10_readsRest 92 = .ok (.invokevirtual 155, 3) := by decide +kernel
theorem dX10_readsRest_95 : decode cX10_readsRest 95 = .ok (.ifCond .eq 7, 3) := by decide +kernel
theorem dX10_readsRest_98 : decode cX10_readsRest 98 = .ok (.iconst 1, 1) := by decide +kernel
theorem dX10_readsRest_99 : decode cX10_readsRest 99 = .ok (.goto 4, 3) := by decide +kernel
theorem dX10_readsRest_102 : decode cX10_readsRest 102 = .ok (.iconst 0, 1) := by decide +kernel
theorem dX10_readsRest_103 : decode cX10_readsRest 103 = .ok (.ireturn, 1) := by decide +kernel
theorem dX10_readsRest_104 : decode cX10_readsRest 104 = .ok (.aload_n 0, 1) := by decide +kernel
theorem dX10_readsRest_105 : decode cX10_readsRest 105 = .ok (.iconst 0, 1) := by decide +kernel
theorem dX10_readsRest_106 : decode cX10_readsRest 106 = .ok (.iconst 0, 1) := by decide +kernel
theorem dX10_readsRest_107 : decode cX10_readsRest 107 = .ok (.iconst 1, 1) := by decide +kernel
theorem dX10_readsRest_108 : decode cX10_readsRest 108 = .ok (.invokevirtual 155, 3) := by decide +kernel
theorem dX10_readsRest_111 : decode cX10_readsRest 111 = .ok (.ifCond .eq 30, 3) := by decide +kernel
theorem dX10_readsRest_114 : decode cX10_readsRest 114 = .ok (.aload_n 0, 1) := by decide +kernel
theorem dX10_readsRest_115 : decode cX10_readsRest 115 = .ok (.iconst 1, 1) := by decide +kernel
theorem dX10_readsRest_116 : decode cX10_readsRest 116 = .ok (.iconst 0, 1) := by decide +kernel
theorem dX10_readsRest_117 : decode cX10_readsRest 117 = .ok (.bipush 11, 2) := by decide +kernel
theorem dX10_readsRest_119 : decode cX10_readsRest 119 = .ok (.invokevirtual 155, 3) := by decide +kernel
theorem dX10_readsRest_122 : decode cX10_readsRest 122 = .ok (.ifCond .eq 19, 3) := by decide +kernel
theorem dX10_readsRest_125 : decode cX10_readsRest 125 = .ok (.aload_n 0, 1) := by decide +kernel
theorem dX10_readsRest_126 : decode cX10_readsRest 126 = .ok (.iconst 2, 1) := by decide +kernel
theorem dX10_readsRest_127 : decode cX10_readsRest 127 = .ok (.iconst 0, 1) := by decide +kernel
theorem dX10_readsRest_128 : decode cX10_readsRest 128 = .ok (.sipush 9999, 3) := by decide +kernel
theorem dX10_readsRest_131 : decode cX10_readsRest 131 = .ok (.invokevirtual 155, 3) := by decide +kernel
theorem dX10_readsRest_134 : decode cX10_readsRest 134 = .ok (.ifCond .eq 7, 3) := by decide +kernel
theorem dX10_readsRest_137 : decode cX10_readsRest 137 = .ok (.iconst 1, 1) := by decide +kernel
theorem dX10_readsRest_138 : decode cX10_readsRest 138 = .ok (.goto 4, 3) := by decide +kernel
theorem dX10_readsRest_141 : decode cX10_readsRest 141 = .ok (.iconst 0, 1) := by decide +kernel
theorem dX10_readsRest_142 : decode cX10_readsRest 142 = .ok (.ireturn, 1) := by decide +kernel
theorem dX10_readsRest_143 : decode cX10_readsRest 143 = .ok (.aload_n 0, 1) := by decide +kernel
theorem dX10_readsRest_144 : decode cX10_readsRest 144 = .ok (.iconst 0, 1) := by decide +kernel
theorem dX10_readsRest_145 : decode cX10_readsRest 145 = .ok (.iconst 0, 1) := by decide +kernel
theorem dX10_readsRest_146 : decode cX10_readsRest 146 = .ok (.iconst 1, 1) := by decide +kernel
theorem dX10_readsRest_147 : decode cX10_readsRest 147 = .ok (.invokevirtual 155, 3) := by decide +kernel
theorem dX10_readsRest_150 : decode cX10_readsRest 150 = .ok (.ifCond .eq 18, 3) := by decide +kernel
theorem dX10_readsRest_153 : decode cX10_readsRest 153 = .ok (.aload_n 0, 1) := by decide +kernel
theorem dX10_readsRest_154 : decode cX10_readsRest 154 = .ok (.iconst 1, 1) := by decide +kernel
theorem dX10_readsRest_155 : decode cX10_readsRest 155 = .ok (.iconst 1, 1) := by decide +kernel
theorem dX10_readsRest_156 : decode cX10_readsRest 156 = .ok (.bipush 9, 2) := by decide +kernel
theorem dX10_readsRest_158 : decode cX10_readsRest 158 = .ok (.invokevirtual 155, 3) := by decide +kernel
theorem dX10_readsRest_161 : decode cX10_readsRest 161 = .ok (.ifCond .eq 7, 3) := by decide +kernel
theorem dX10_readsRest_164 : decode cX10_readsRest 164 = .ok (.iconst 1, 1) := by decide +kernel
theorem dX10_readsRest_165 : decode cX10_readsRest 165 = .ok (.goto 4, 3) := by decide +kernel
theorem dX10_readsRest_168 : decode cX10_readsRest 168 = .ok (.iconst 0, 1) := by decide +kernel
theorem dX10_readsRest_169 : decode cX10_readsRest 169 = .ok (.ireturn, 1) := by decide +kernel
theorem dX10_readsRest_170 : decode cX10_readsRest 170 = .ok (.aload_n 0, 1) := by decide +kernel
theorem dX10_readsRest_171 : decode cX10_readsRest 171 = .ok (.iconst 0, 1) := by decide +kernel
theorem dX10_readsRest_172 : decode cX10_readsRest 172 = .ok (.iconst 0, 1) := by decide +kernel
theorem dX10_readsRest_173 : decode cX10_readsRest 173 = .ok (.iconst 3, 1) := by decide +kernel
theorem dX10_readsRest_174 : decode cX10_readsRest 174 = .ok (.invokevirtual 155, 3) := by decide +kernel
theorem dX10_readsRest_177 : decode cX10_readsRest 177 = .ok (.ifCond .eq 28, 3) := by decide +kernel
theorem dX10_readsRest_180 : decode cX10_readsRest 180 = .ok (.aload_n 0, 1) := by decide +kernel
theorem dX10_readsRest_181 : decode cX10_readsRest 181 = .ok (.iconst 1, 1) := by decide +kernel
theorem dX10_readsRest_182 : decode cX10_readsRest 182 = .ok (.iconst 0, 1) := by decide +kernel
theorem dX10_readsRest_183 : decode cX10_readsRest 183 = .ok (.iconst 3, 1) := by decide +kernel
theorem dX10_readsRest_184 : decode cX10_readsRest 184 = .ok (.invokevirtual 155, 3) := by decide +kernel
theorem dX10_readsRest_187 : decode cX10_readsRest 187 = .ok (.ifCond .eq 18, 3) := by decide +kernel
theorem dX10_readsRest_190 : decode cX10_readsRest 190 = .ok (.aload_n 0, 1) := by decide +kernel
theorem dX10_readsRest_191 : decode cX10_readsRest 191 = .ok (.iconst 2, 1) := by decide +kernel
theorem dX10_readsRest_192 : decode cX10_readsRest 192 = .ok (.iconst 0, 1) := by decide +kernel
theorem dX10_readsRest_193 : decode cX10_readsRest 193 = .ok (.bipush 11, 2) := by decide +kernel
theorem dX10_readsRest_195 : decode cX10_readsRest 195 = .ok (.invokevirtual 155, 3) := by decide +kernel
theorem dX10_readsRest_198 : decode cX10_readsRest 198 = .ok (.ifCond .eq 7, 3) := by decide +kernel
theorem dX10_readsRest_201 : decode cX10_readsRest 201 = .ok (.iconst 1, 1) := by decide +kernel
theorem dX10_readsRest_202 : decode cX10_readsRest 202 = .ok (.goto 4, 3) := by decide +kernel
theorem dX10_readsRest_205 : decode cX10_readsRest 205 = .ok (.iconst 0, 1) := by decide +kernel
theorem dX10_readsRest_206 : decode cX10_readsRest 206 = .ok (.ireturn, 1) := by decide +kernel
theorem dX10_readsRest_207 : decode cX10_readsRest 207 = .ok (.aload_n 0, 1) := by decide +kernel
theorem dX10_readsRest_208 : decode cX10_readsRest 208 = .ok (.iconst 0, 1) := by decide +kernel
theorem dX10_readsRest_209 : decode cX10_readsRest 209 = .ok (.iconst 0, 1) := by decide +kernel
theorem dX10_readsRest_210 : decode cX10_readsRest 210 = .ok (.iconst 1, 1) := by decide +kernel
theorem dX10_readsRest_211 : decode cX10_readsRest 211 = .ok (.invokevirtual 155, 3) := by decide +kernel
theorem dX10_readsRest_214 : decode cX10_readsRest 214 = .ok (.ireturn, 1) := by decide +kernel
theorem dX10_does_0 : decode cX10_does 0 = .ok (.iload_n 1, 1) := by decide +kernel
theorem dX10_does_1 : decode cX10_does 1 = .ok (.tableswitch 169 0 4 #[35, 42, 82, 112, 132], 35) := by decide +kernel
theorem dX10_does_36 : decode cX10_does 36 = .ok (.aload_n 0, 1) := by decide +kernel
theorem dX10_does_37 : decode cX10_does 37 = .ok (.invokevirtual 159, 3) := by decide +kernel
theorem dX10_does_40 : decode cX10_does 40 = .ok (.goto 140, 3) := by decide +kernel
theorem dX10_does_43 : decode cX10_does 43 = .ok (.aload_n 0, 1) := by decide +kernel
theorem dX10_does_44 : decode cX10_does 44 = .ok (.iconst 4, 1) := by decide +kernel
theorem dX10_does_45 : decode cX10_does 45 = .ok (.aload_n 0, 1) := by decide +kernel
theorem dX10_does_46 : decode cX10_does 46 = .ok (.getfield 86, 3) := by decide +kernel
theorem dX10_does_49 : decode cX10_does 49 = .ok (.iconst 0, 1) := by decide +kernel
theorem dX10_does_50 : decode cX10_does 50 = .ok (.iaload, 1) := by decide +kernel
theorem dX10_does_51 : decode cX10_does 51 = .ok (.imul, 1) := by decide +kernel
theorem dX10_does_52 : decode cX10_does 52 = .ok (.aload_n 0, 1) := by decide +kernel
theorem dX10_does_53 : decode cX10_does 53 = .ok (.getfield 86, 3) := by decide +kernel
theorem dX10_does_56 : decode cX10_does 56 = .ok (.iconst 1, 1) := by decide +kernel
theorem dX10_does_57 : decode cX10_does 57 = .ok (.iaload, 1) := by decide +kernel
theorem dX10_does_58 : decode cX10_does 58 = .ok (.iadd, 1) := by decide +kernel
theorem dX10_does_59 : decode cX10_does 59 = .ok (.aload_n 0, 1) := by decide +kernel
theorem dX10_does_60 : decode cX10_does 60 = .ok (.getfield 86, 3) := by decide +kernel
theorem dX10_does_63 : decode cX10_does 63 = .ok (.iconst 2, 1) := by decide +kernel
theorem dX10_does_64 : decode cX10_does 64 = .ok (.iaload, 1) := by decide +kernel
theorem dX10_does_65 : decode cX10_does 65 = .ok (.aload_n 0, 1) := by decide +kernel
theorem dX10_does_66 : decode cX10_does 66 = .ok (.getfield 86, 3) := by decide +kernel
theorem dX10_does_69 : decode cX10_does 69 = .ok (.iconst 3, 1) := by decide +kernel
theorem dX10_does_70 : decode cX10_does 70 = .ok (.iaload, 1) := by decide +kernel
theorem dX10_does_71 : decode cX10_does 71 = .ok (.aload_n 0, 1) := by decide +kernel
theorem dX10_does_72 : decode cX10_does 72 = .ok (.getfield 86, 3) := by decide +kernel
theorem dX10_does_75 : decode cX10_does 75 = .ok (.iconst 4, 1) := by decide +kernel
theorem dX10_does_76 : decode cX10_does 76 = .ok (.iaload, 1) := by decide +kernel
theorem dX10_does_77 : decode cX10_does 77 = .ok (.invokevirtual 162, 3) := by decide +kernel
theorem dX10_does_80 : decode cX10_does 80 = .ok (.goto 100, 3) := by decide +kernel
theorem dX10_does_83 : decode cX10_does 83 = .ok (.aload_n 0, 1) := by decide +kernel
theorem dX10_does_84 : decode cX10_does 84 = .ok (.getfield 7, 3) := by decide +kernel
theorem dX10_does_87 : decode cX10_does 87 = .ok (.bipush 12, 2) := by decide +kernel
theorem dX10_does_89 : decode cX10_does 89 = .ok (.aload_n 0, 1) := by decide +kernel
theorem dX10_does_90 : decode cX10_does 90 = .ok (.getfield 86, 3) := by decide +kernel
theorem dX10_does_93 : decode cX10_does 93 = .ok (.iconst 0, 1) := by decide +kernel
theorem dX10_does_94 : decode cX10_does 94 = .ok (.iaload, 1) := by decide +kernel
theorem dX10_does_95 : decode cX10_does 95 = .ok (.imul, 1) := by decide +kernel
theorem dX10_does_96 : decode cX10_does 96 = .ok (.aload_n 0, 1) := by decide +kernel
theorem dX10_does_97 : decode cX10_does 97 = .ok (.getfield 86, 3) := by decide +kernel
theorem dX10_does_100 : decode cX10_does 100 = .ok (.iconst 1, 1) := by decide +kernel
theorem dX10_does_101 : decode cX10_does 101 = .ok (.iaload, 1) := by decide +kernel
theorem dX10_does_102 : decode cX10_does 102 = .ok (.iadd, 1) := by decide +kernel
theorem dX10_does_103 : decode cX10_does 103 = .ok (.aload_n 0, 1) := by decide +kernel
theorem dX10_does_104 : decode cX10_does 104 = .ok (.getfield 86, 3) := by decide +kernel
theorem dX10_does_107 : decode cX10_does 107 = .ok (.iconst 2, 1) := by decide +kernel
theorem dX10_does_108 : decode cX10_does 108 = .ok (.iaload, 1) := by decide +kernel
theorem dX10_does_109 : decode cX10_does 109 = .ok (.iastore, 1) := by decide +kernel
theorem dX10_does_110 : decode cX10_does 110 = .ok (.goto 70, 3) := by decide +kernel
theorem dX10_does_113 : decode cX10_does 113 = .ok (.aload_n 0, 1) := by decide +kernel
theorem dX10_does_114 : decode cX10_does 114 = .ok (.getfield 65, 3) := by decide +kernel
theorem dX10_does_117 : decode cX10_does 117 = .ok (.aload_n 0, 1) := by decide +kernel
theorem dX10_does_118 : decode cX10_does 118 = .ok (.getfield 86, 3) := by decide +kernel
theorem dX10_does_121 : decode cX10_does 121 = .ok (.iconst 0, 1) := by decide +kernel
theorem dX10_does_122 : decode cX10_does 122 = .ok (.iaload, 1) := by decide +kernel
theorem dX10_does_123 : decode cX10_does 123 = .ok (.aload_n 0, 1) := by decide +kernel
theorem dX10_does_124 : decode cX10_does 124 = .ok (.getfield 86, 3) := by decide +kernel
theorem dX10_does_127 : decode cX10_does 127 = .ok (.iconst 1, 1) := by decide +kernel
theorem dX10_does_128 : decode cX10_does 128 = .ok (.iaload, 1) := by decide +kernel
theorem dX10_does_129 : decode cX10_does 129 = .ok (.iastore, 1) := by decide +kernel
theorem dX10_does_130 : decode cX10_does 130 = .ok (.goto 50, 3) := by decide +kernel
theorem dX10_does_133 : decode cX10_does 133 = .ok (.aload_n 0, 1) := by decide +kernel
theorem dX10_does_134 : decode cX10_does 134 = .ok (.getfield 59, 3) := by decide +kernel
theorem dX10_does_137 : decode cX10_does 137 = .ok (.aload_n 0, 1) := by decide +kernel
theorem dX10_does_138 : decode cX10_does 138 = .ok (.getfield 86, 3) := by decide +kernel
theorem dX10_does_141 : decode cX10_does 141 = .ok (.iconst 0, 1) := by decide +kernel
theorem dX10_does_142 : decode cX10_does 142 = .ok (.iaload, 1) := by decide +kernel
theorem dX10_does_143 : decode cX10_does 143 = .ok (.aload_n 0, 1) := by decide +kernel
theorem dX10_does_144 : decode cX10_does 144 = .ok (.getfield 86, 3) := by decide +kernel
theorem dX10_does_147 : decode cX10_does 147 = .ok (.iconst 1, 1) := by decide +kernel
theorem dX10_does_148 : decode cX10_does 148 = .ok (.iaload, 1) := by decide +kernel
theorem dX10_does_149 : decode cX10_does 149 = .ok (.iastore, 1) := by decide +kernel
theorem dX10_does_150 : decode cX10_does 150 = .ok (.aload_n 0, 1) := by decide +kernel
theorem dX10_does_151 : decode cX10_does 151 = .ok (.getfield 62, 3) := by decide +kernel
theorem dX10_does_154 : decode cX10_does 154 = .ok (.aload_n 0, 1) := by decide +kernel
theorem dX10_does_155 : decode cX10_does 155 = .ok (.getfield 86, 3) := by decide +kernel
theorem dX10_does_158 : decode cX10_does 158 = .ok (.iconst 0, 1) := by decide +kernel
theorem dX10_does_159 : decode cX10_does 159 = .ok (.iaload, 1) := by decide +kernel
theorem dX10_does_160 : decode cX10_does 160 = .ok (.aload_n 0, 1) := by decide +kernel
theorem dX10_does_161 : decode cX10_does 161 = .ok (.getfield 86, 3) := by decide +kernel
theorem dX10_does_164 : decode cX10_does 164 = .ok (.iconst 2, 1) := by decide +kernel
theorem dX10_does_165 : decode cX10_does 165 = .ok (.iaload, 1) := by decide +kernel
theorem dX10_does_166 : decode cX10_does 166 = .ok (.iastore, 1) := by decide +kernel
theorem dX10_does_167 : decode cX10_does 167 = .ok (.goto 13, 3) := by decide +kernel
theorem dX10_does_170 : decode cX10_does 170 = .ok (.aload_n 0, 1) := by decide +kernel
theorem dX10_does_171 : decode cX10_does 171 = .ok (.aload_n 0, 1) := by decide +kernel
theorem dX10_does_172 : decode cX10_does 172 = .ok (.getfield 86, 3) := by decide +kernel
theorem dX10_does_175 : decode cX10_does 175 = .ok (.iconst 0, 1) := by decide +kernel
theorem dX10_does_176 : decode cX10_does 176 = .ok (.iaload, 1) := by decide +kernel
theorem dX10_does_177 : decode cX10_does 177 = .ok (.invokevirtual 166, 3) := by decide +kernel
theorem dX10_does_180 : decode cX10_does 180 = .ok (.return_, 1) := by decide +kernel
theorem dX10_readsClause_0 : decode cX10_readsClause 0 = .ok (.aload_n 0, 1) := by decide +kernel
theorem dX10_readsClause_1 : decode cX10_readsClause 1 = .ok (.invokevirtual 170, 3) := by decide +kernel
theorem dX10_readsClause_4 : decode cX10_readsClause 4 = .ok (.istore_n 1, 1) := by decide +kernel
theorem dX10_readsClause_5 : decode cX10_readsClause 5 = .ok (.iload_n 1, 1) := by decide +kernel
theorem dX10_readsClause_6 : decode cX10_readsClause 6 = .ok (.iconst (-1), 1) := by decide +kernel
theorem dX10_readsClause_7 : decode cX10_readsClause 7 = .ok (.if_icmp .ne 5, 3) := by decide +kernel
theorem dX10_readsClause_10 : decode cX10_readsClause 10 = .ok (.iconst 0, 1) := by decide +kernel
theorem dX10_readsClause_11 : decode cX10_readsClause 11 = .ok (.ireturn, 1) := by decide +kernel
theorem dX10_readsClause_12 : decode cX10_readsClause 12 = .ok (.aload_n 0, 1) := by decide +kernel
theorem dX10_readsClause_13 : decode cX10_readsClause 13 = .ok (.invokevirtual 152, 3) := by decide +kernel
theorem dX10_readsClause_16 : decode cX10_readsClause 16 = .ok (.aload_n 0, 1) := by decide +kernel
theorem dX10_readsClause_17 : decode cX10_readsClause 17 = .ok (.iload_n 1, 1) := by decide +kernel
theorem dX10_readsClause_18 : decode cX10_readsClause 18 = .ok (.invokevirtual 174, 3) := by decide +kernel
theorem dX10_readsClause_21 : decode cX10_readsClause 21 = .ok (.ifCond .ne 5, 3) := by decide +kernel
theorem dX10_readsClause_24 : decode cX10_readsClause 24 = .ok (.iconst 0, 1) := by decide +kernel
theorem dX10_readsClause_25 : decode cX10_readsClause 25 = .ok (.ireturn, 1) := by decide +kernel
theorem dX10_readsClause_26 : decode cX10_readsClause 26 = .ok (.aload_n 0, 1) := by decide +kernel
theorem dX10_readsClause_27 : decode cX10_readsClause 27 = .ok (.getfield 177, 3) := by decide +kernel
theorem dX10_readsClause_30 : decode cX10_readsClause 30 = .ok (.ifCond .eq 8, 3) := by decide +kernel
theorem dX10_readsClause_33 : decode cX10_readsClause 33 = .ok (.aload_n 0, 1) := by decide +kernel
theorem dX10_readsClause_34 : decode cX10_readsClause 34 = .ok (.iload_n 1, 1) := by decide +kernel
theorem dX10_readsClause_35 : decode cX10_readsClause 35 = .ok (.invokevirtual 180, 3) := by decide +kernel
theorem dX10_readsClause_38 : decode cX10_readsClause 38 = .ok (.iconst 1, 1) := by decide +kernel
theorem dX10_readsClause_39 : decode cX10_readsClause 39 = .ok (.ireturn, 1) := by decide +kernel
theorem dX10_readsAll_0 : decode cX10_readsAll 0 = .ok (.aload_n 0, 1) := by decide +kernel
theorem dX10_readsAll_1 : decode cX10_readsAll 1 = .ok (.iload_n 1, 1) := by decide +kernel
theorem dX10_readsAll_2 : decode cX10_readsAll 2 = .ok (.putfield 177, 3) := by decide +kernel
theorem dX10_readsAll_5 : decode cX10_readsAll 5 = .ok (.aload_n 0, 1) := by decide +kernel
theorem dX10_readsAll_6 : decode cX10_readsAll 6 = .ok (.iconst 0, 1) := by decide +kernel
theorem dX10_readsAll_7 : decode cX10_readsAll 7 = .ok (.putfield 139, 3) := by decide +kernel
theorem dX10_readsAll_10 : decode cX10_readsAll 10 = .ok (.aload_n 0, 1) := by decide +kernel
theorem dX10_readsAll_11 : decode cX10_readsAll 11 = .ok (.iconst 1, 1) := by decide +kernel
theorem dX10_readsAll_12 : decode cX10_readsAll 12 = .ok (.putfield 183, 3) := by decide +kernel
theorem dX10_readsAll_15 : decode cX10_readsAll 15 = .ok (.aload_n 0, 1) := by decide +kernel
theorem dX10_readsAll_16 : decode cX10_readsAll 16 = .ok (.invokevirtual 152, 3) := by decide +kernel
theorem dX10_readsAll_19 : decode cX10_readsAll 19 = .ok (.aload_n 0, 1) := by decide +kernel
theorem dX10_readsAll_20 : decode cX10_readsAll 20 = .ok (.invokevirtual 186, 3) := by decide +kernel
theorem dX10_readsAll_23 : decode cX10_readsAll 23 = .ok (.istore_n 2, 1) := by decide +kernel
theorem dX10_readsAll_24 : decode cX10_readsAll 24 = .ok (.iload_n 2, 1) := by decide +kernel
theorem dX10_readsAll_25 : decode cX10_readsAll 25 = .ok (.ifCond .eq 69, 3) := by decide +kernel
theorem dX10_readsAll_28 : decode cX10_readsAll 28 = .ok (.aload_n 0, 1) := by decide +kernel
theorem dX10_readsAll_29 : decode cX10_readsAll 29 = .ok (.getfield 142, 3) := by decide +kernel
theorem dX10_readsAll_32 : decode cX10_readsAll 32 = .ok (.aload_n 0, 1) := by decide +kernel
theorem dX10_readsAll_33 : decode cX10_readsAll 33 = .ok (.getfield 128, 3) := by decide +kernel
theorem dX10_readsAll_36 : decode cX10_readsAll 36 = .ok (.if_icmp .ge 58, 3) := by decide +kernel
theorem dX10_readsAll_39 : decode cX10_readsAll 39 = .ok (.aload_n 0, 1) := by decide +kernel
theorem dX10_readsAll_40 : decode cX10_readsAll 40 = .ok (.getfield 183, 3) := by decide +kernel
theorem dX10_readsAll_43 : decode cX10_readsAll 43 = .ok (.bipush 24, 2) := by decide +kernel
theorem dX10_readsAll_45 : decode cX10_readsAll 45 = .ok (.if_icmp .ge 21, 3) := by decide +kernel
theorem dX10_readsAll_48 : decode cX10_readsAll 48 = .ok (.aload_n 0, 1) := by decide +kernel
theorem dX10_readsAll_49 : decode cX10_readsAll 49 = .ok (.getfield 83, 3) := by decide +kernel
theorem dX10_readsAll_52 : decode cX10_readsAll 52 = .ok (.aload_n 0, 1) := by decide +kernel
theorem dX10_readsAll_53 : decode cX10_readsAll 53 = .ok (.getfield 142, 3) := by decide +kernel
theorem dX10_readsAll_56 : decode cX10_readsAll 56 = .ok (.iaload, 1) := by decide +kernel
theorem dX10_readsAll_57 : decode cX10_readsAll 57 = .ok (.bipush 59, 2) := by decide +kernel
theorem dX10_readsAll_59 : decode cX10_readsAll 59 = .ok (.if_icmp .ne 7, 3) := by decide +kernel
theorem dX10_readsAll_62 : decode cX10_readsAll 62 = .ok (.iconst 1, 1) := by decide +kernel
theorem dX10_readsAll_63 : decode cX10_readsAll 63 = .ok (.goto 4, 3) := by decide +kernel
theorem dX10_readsAll_66 : decode cX10_readsAll 66 = .ok (.iconst 0, 1) := by decide +kernel
theorem dX10_readsAll_67 : decode cX10_readsAll 67 = .ok (.istore_n 2, 1) := by decide +kernel
theorem dX10_readsAll_68 : decode cX10_readsAll 68 = .ok (.iload_n 2, 1) := by decide +kernel
theorem dX10_readsAll_69 : decode cX10_readsAll 69 = .ok (.ifCond .eq (-45), 3) := by decide +kernel
theorem dX10_readsAll_72 : decode cX10_readsAll 72 = .ok (.aload_n 0, 1) := by decide +kernel
theorem dX10_readsAll_73 : decode cX10_readsAll 73 = .ok (.invokevirtual 152, 3) := by decide +kernel
theorem dX10_readsAll_76 : decode cX10_readsAll 76 = .ok (.aload_n 0, 1) := by decide +kernel
theorem dX10_readsAll_77 : decode cX10_readsAll 77 = .ok (.invokevirtual 186, 3) := by decide +kernel
theorem dX10_readsAll_80 : decode cX10_readsAll 80 = .ok (.istore_n 2, 1) := by decide +kernel
theorem dX10_readsAll_81 : decode cX10_readsAll 81 = .ok (.aload_n 0, 1) := by decide +kernel
theorem dX10_readsAll_82 : decode cX10_readsAll 82 = .ok (.dup, 1) := by decide +kernel
theorem dX10_readsAll_83 : decode cX10_readsAll 83 = .ok (.getfield 183, 3) := by decide +kernel
theorem dX10_readsAll_86 : decode cX10_readsAll 86 = .ok (.iconst 1, 1) := by decide +kernel
theorem dX10_readsAll_87 : decode cX10_readsAll 87 = .ok (.iadd, 1) := by decide +kernel
theorem dX10_readsAll_88 : decode cX10_readsAll 88 = .ok (.putfield 183, 3) := by decide +kernel
theorem dX10_readsAll_91 : decode cX10_readsAll 91 = .ok (.goto (-67), 3) := by decide +kernel
theorem dX10_readsAll_94 : decode cX10_readsAll 94 = .ok (.iload_n 2, 1) := by decide +kernel
theorem dX10_readsAll_95 : decode cX10_readsAll 95 = .ok (.ireturn, 1) := by decide +kernel
theorem dX10_fault_0 : decode cX10_fault 0 = .ok (.aload_n 0, 1) := by decide +kernel
theorem dX10_fault_1 : decode cX10_fault 1 = .ok (.iconst 0, 1) := by decide +kernel
theorem dX10_fault_2 : decode cX10_fault 2 = .ok (.invokevirtual 190, 3) := by decide +kernel
theorem dX10_fault_5 : decode cX10_fault 5 = .ok (.ifCond .eq 7, 3) := by decide +kernel
theorem dX10_fault_8 : decode cX10_fault 8 = .ok (.iconst (-1), 1) := by decide +kernel
theorem dX10_fault_9 : decode cX10_fault 9 = .ok (.goto 7, 3) := by decide +kernel
theorem dX10_fault_12 : decode cX10_fault 12 = .ok (.aload_n 0, 1) := by decide +kernel
theorem dX10_fault_13 : decode cX10_fault 13 = .ok (.getfield 142, 3) := by decide +kernel
theorem dX10_fault_16 : decode cX10_fault 16 = .ok (.ireturn, 1) := by decide +kernel
theorem dX10_tell_0 : decode cX10_tell 0 = .ok (.aload_n 0, 1) := by decide +kernel
theorem dX10_tell_1 : decode cX10_tell 1 = .ok (.iconst 0, 1) := by decide +kernel
theorem dX10_tell_2 : decode cX10_tell 2 = .ok (.invokevirtual 190, 3) := by decide +kernel
theorem dX10_tell_5 : decode cX10_tell 5 = .ok (.ifCond .ne 7, 3) := by decide +kernel
theorem dX10_tell_8 : decode cX10_tell 8 = .ok (.sipush (-1003), 3) := by decide +kernel
theorem dX10_tell_11 : decode cX10_tell 11 = .ok (.ireturn, 1) := by decide +kernel
theorem dX10_tell_12 : decode cX10_tell 12 = .ok (.aload_n 0, 1) := by decide +kernel
theorem dX10_tell_13 : decode cX10_tell 13 = .ok (.iconst 1, 1) := by decide +kernel
theorem dX10_tell_14 : decode cX10_tell 14 = .ok (.invokevirtual 190, 3) := by decide +kernel
theorem dX10_tell_17 : decode cX10_tell 17 = .ok (.pop, 1) := by decide +kernel
theorem dX10_tell_18 : decode cX10_tell 18 = .ok (.aload_n 0, 1) := by decide +kernel
theorem dX10_tell_19 : decode cX10_tell 19 = .ok (.iconst 0, 1) := by decide +kernel
theorem dX10_tell_20 : decode cX10_tell 20 = .ok (.putfield 128, 3) := by decide +kernel
theorem dX10_tell_23 : decode cX10_tell 23 = .ok (.aload_n 0, 1) := by decide +kernel
theorem dX10_tell_24 : decode cX10_tell 24 = .ok (.getfield 183, 3) := by decide +kernel
theorem dX10_tell_27 : decode cX10_tell 27 = .ok (.ireturn, 1) := by decide +kernel
theorem dX10_cell_0 : decode cX10_cell 0 = .ok (.iload_n 1, 1) := by decide +kernel
theorem dX10_cell_1 : decode cX10_cell 1 = .ok (.invokestatic 194, 3) := by decide +kernel
theorem dX10_cell_4 : decode cX10_cell 4 = .ok (.ifCond .eq 24, 3) := by decide +kernel
theorem dX10_cell_7 : decode cX10_cell 7 = .ok (.iload_n 2, 1) := by decide +kernel
theorem dX10_cell_8 : decode cX10_cell 8 = .ok (.invokestatic 197, 3) := by decide +kernel
theorem dX10_cell_11 : decode cX10_cell 11 = .ok (.ifCond .eq 17, 3) := by decide +kernel
theorem dX10_cell_14 : decode cX10_cell 14 = .ok (.aload_n 0, 1) := by decide +kernel
theorem dX10_cell_15 : decode cX10_cell 15 = .ok (.getfield 7, 3) := by decide +kernel
theorem dX10_cell_18 : decode cX10_cell 18 = .ok (.bipush 12, 2) := by decide +kernel
theorem dX10_cell_20 : decode cX10_cell 20 = .ok (.iload_n 1, 1) := by decide +kernel
theorem dX10_cell_21 : decode cX10_cell 21 = .ok (.imul, 1) := by decide +kernel
theorem dX10_cell_22 : decode cX10_cell 22 = .ok (.iload_n 2, 1) := by decide +kernel
theorem dX10_cell_23 : decode cX10_cell 23 = .ok (.iadd, 1) := by decide +kernel
theorem dX10_cell_24 : decode cX10_cell 24 = .ok (.iaload, 1) := by decide +kernel
theorem dX10_cell_25 : decode cX10_cell 25 = .ok (.goto 6, 3) := by decide +kernel
theorem dX10_cell_28 : decode cX10_cell 28 = .ok (.sipush (-1001), 3) := by decide +kernel
theorem dX10_cell_31 : decode cX10_cell 31 = .ok (.ireturn, 1) := by decide +kernel
theorem dX10_put_0 : decode cX10_put 0 = .ok (.iload_n 1, 1) := by decide +kernel
theorem dX10_put_1 : decode cX10_put 1 = .ok (.invokestatic 194, 3) := by decide +kernel
theorem dX10_put_4 : decode cX10_put 4 = .ok (.ifCond .eq 10, 3) := by decide +kernel
theorem dX10_put_7 : decode cX10_put 7 = .ok (.iload_n 2, 1) := by decide +kernel
theorem dX10_put_8 : decode cX10_put 8 = .ok (.invokestatic 197, 3) := by decide +kernel
theorem dX10_put_11 : decode cX10_put 11 = .ok (.ifCond .ne 7, 3) := by decide +kernel
theorem dX10_put_14 : decode cX10_put 14 = .ok (.sipush (-1001), 3) := by decide +kernel
theorem dX10_put_17 : decode cX10_put 17 = .ok (.ireturn, 1) := by decide +kernel
theorem dX10_put_18 : decode cX10_put 18 = .ok (.iload_n 3, 1) := by decide +kernel
theorem dX10_put_19 : decode cX10_put 19 = .ok (.invokestatic 200, 3) := by decide +kernel
theorem dX10_put_22 : decode cX10_put 22 = .ok (.ifCond .ne 7, 3) := by decide +kernel
theorem dX10_put_25 : decode cX10_put 25 = .ok (.sipush (-1002), 3) := by decide +kernel
theorem dX10_put_28 : decode cX10_put 28 = .ok (.ireturn, 1) := by decide +kernel
theorem dX10_put_29 : decode cX10_put 29 = .ok (.aload_n 0, 1) := by decide +kernel
theorem dX10_put_30 : decode cX10_put 30 = .ok (.getfield 7, 3) := by decide +kernel
theorem dX10_put_33 : decode cX10_put 33 = .ok (.bipush 12, 2) := by decide +kernel
theorem dX10_put_35 : decode cX10_put 35 = .ok (.iload_n 1, 1) := by decide +kernel
theorem dX10_put_36 : decode cX10_put 36 = .ok (.imul, 1) := by decide +kernel
theorem dX10_put_37 : decode cX10_put 37 = .ok (.iload_n 2, 1) := by decide +kernel
theorem dX10_put_38 : decode cX10_put 38 = .ok (.iadd, 1) := by decide +kernel
theorem dX10_put_39 : decode cX10_put 39 = .ok (.iaload, 1) := by decide +kernel
theorem dX10_put_40 : decode cX10_put 40 = .ok (.istore 4, 2) := by decide +kernel
theorem dX10_put_42 : decode cX10_put 42 = .ok (.aload_n 0, 1) := by decide +kernel
theorem dX10_put_43 : decode cX10_put 43 = .ok (.getfield 7, 3) := by decide +kernel
theorem dX10_put_46 : decode cX10_put 46 = .ok (.bipush 12, 2) := by decide +kernel
theorem dX10_put_48 : decode cX10_put 48 = .ok (.iload_n 1, 1) := by decide +kernel
theorem dX10_put_49 : decode cX10_put 49 = .ok (.imul, 1) := by decide +kernel
theorem dX10_put_50 : decode cX10_put 50 = .ok (.iload_n 2, 1) := by decide +kernel
theorem dX10_put_51 : decode cX10_put 51 = .ok (.iadd, 1) := by decide +kernel
theorem dX10_put_52 : decode cX10_put 52 = .ok (.iload_n 3, 1) := by decide +kernel
theorem dX10_put_53 : decode cX10_put 53 = .ok (.iastore, 1) := by decide +kernel
theorem dX10_put_54 : decode cX10_put 54 = .ok (.iload 4, 2) := by decide +kernel
theorem dX10_put_56 : decode cX10_put 56 = .ok (.ireturn, 1) := by decide +kernel
theorem dX10_keys_0 : decode cX10_keys 0 = .ok (.aload_n 0, 1) := by decide +kernel
theorem dX10_keys_1 : decode cX10_keys 1 = .ok (.getfield 13, 3) := by decide +kernel
theorem dX10_keys_4 : decode cX10_keys 4 = .ok (.iload_n 1, 1) := by decide +kernel
theorem dX10_keys_5 : decode cX10_keys 5 = .ok (.iload_n 2, 1) := by decide +kernel
theorem dX10_keys_6 : decode cX10_keys 6 = .ok (.iastore, 1) := by decide +kernel
theorem dX10_keys_7 : decode cX10_keys 7 = .ok (.aload_n 0, 1) := by decide +kernel
theorem dX10_keys_8 : decode cX10_keys 8 = .ok (.getfield 16, 3) := by decide +kernel
theorem dX10_keys_11 : decode cX10_keys 11 = .ok (.iload_n 1, 1) := by decide +kernel
theorem dX10_keys_12 : decode cX10_keys 12 = .ok (.iload_n 3, 1) := by decide +kernel
theorem dX10_keys_13 : decode cX10_keys 13 = .ok (.iastore, 1) := by decide +kernel
theorem dX10_keys_14 : decode cX10_keys 14 = .ok (.aload_n 0, 1) := by decide +kernel
theorem dX10_keys_15 : decode cX10_keys 15 = .ok (.getfield 19, 3) := by decide +kernel
theorem dX10_keys_18 : decode cX10_keys 18 = .ok (.iload_n 1, 1) := by decide +kernel
theorem dX10_keys_19 : decode cX10_keys 19 = .ok (.iload 4, 2) := by decide +kernel
theorem dX10_keys_21 : decode cX10_keys 21 = .ok (.iastore, 1) := by decide +kernel
theorem dX10_keys_22 : decode cX10_keys 22 = .ok (.return_, 1) := by decide +kernel
theorem dX10_keysOf_0 : decode cX10_keysOf 0 = .ok (.iconst 0, 1) := by decide +kernel
theorem dX10_keysOf_1 : decode cX10_keysOf 1 = .ok (.istore_n 2, 1) := by decide +kernel
theorem dX10_keysOf_2 : decode cX10_keysOf 2 = .ok (.iconst 0, 1) := by decide +kernel
theorem dX10_keysOf_3 : decode cX10_keysOf 3 = .ok (.istore_n 3, 1) := by decide +kernel
theorem dX10_keysOf_4 : decode cX10_keysOf 4 = .ok (.iload_n 3, 1) := by decide +kernel
theorem dX10_keysOf_5 : decode cX10_keysOf 5 = .ok (.iconst 4, 1) := by decide +kernel
theorem dX10_keysOf_6 : decode cX10_keysOf 6 = .ok (.if_icmp .ge 30, 3) := by decide +kernel
theorem dX10_keysOf_9 : decode cX10_keysOf 9 = .ok (.iload_n 2, 1) := by decide +kernel
theorem dX10_keysOf_10 : decode cX10_keysOf 10 = .ok (.aload_n 0, 1) := by decide +kernel
theorem dX10_keysOf_11 : decode cX10_keysOf 11 = .ok (.getfield 16, 3) := by decide +kernel
theorem dX10_keysOf_14 : decode cX10_keysOf 14 = .ok (.iconst 4, 1) := by decide +kernel
theorem dX10_keysOf_15 : decode cX10_keysOf 15 = .ok (.iload_n 1, 1) := by decide +kernel
theorem dX10_keysOf_16 : decode cX10_keysOf 16 = .ok (.imul, 1) := by decide +kernel
theorem dX10_keysOf_17 : decode cX10_keysOf 17 = .ok (.iload_n 3, 1) := by decide +kernel
theorem dX10_keysOf_18 : decode cX10_keysOf 18 = .ok (.iadd, 1) := by decide +kernel
theorem dX10_keysOf_19 : decode cX10_keysOf 19 = .ok (.iaload, 1) := by decide +kernel
theorem dX10_keysOf_20 : decode cX10_keysOf 20 = .ok (.ifCond .le 7, 3) := by decide +kernel
theorem dX10_keysOf_23 : decode cX10_keysOf 23 = .ok (.iconst 1, 1) := by decide +kernel
theorem dX10_keysOf_24 : decode cX10_keysOf 24 = .ok (.goto 4, 3) := by decide +kernel
theorem dX10_keysOf_27 : decode cX10_keysOf 27 = .ok (.iconst 0, 1) := by decide +kernel
theorem dX10_keysOf_28 : decode cX10_keysOf 28 = .ok (.iadd, 1) := by decide +kernel
theorem dX10_keysOf_29 : decode cX10_keysOf 29 = .ok (.istore_n 2, 1) := by decide +kernel
theorem dX10_keysOf_30 : decode cX10_keysOf 30 = .ok (.iinc 3 1, 3) := by decide +kernel
theorem dX10_keysOf_33 : decode cX10_keysOf 33 = .ok (.goto (-29), 3) := by decide +kernel
theorem dX10_keysOf_36 : decode cX10_keysOf 36 = .ok (.iload_n 2, 1) := by decide +kernel
theorem dX10_keysOf_37 : decode cX10_keysOf 37 = .ok (.ireturn, 1) := by decide +kernel
theorem dX10_key_0 : decode cX10_key 0 = .ok (.iload_n 1, 1) := by decide +kernel
theorem dX10_key_1 : decode cX10_key 1 = .ok (.invokestatic 194, 3) := by decide +kernel
theorem dX10_key_4 : decode cX10_key 4 = .ok (.ifCond .eq 15, 3) := by decide +kernel
theorem dX10_key_7 : decode cX10_key 7 = .ok (.iload_n 2, 1) := by decide +kernel
theorem dX10_key_8 : decode cX10_key 8 = .ok (.i2l, 1) := by decide +kernel
theorem dX10_key_9 : decode cX10_key 9 = .ok (.lconst 0, 1) := by decide +kernel
theorem dX10_key_10 : decode cX10_key 10 = .ok (.ldc2_w 101, 3) := by decide +kernel
theorem dX10_key_13 : decode cX10_key 13 = .ok (.invokestatic 95, 3) := by decide +kernel
theorem dX10_key_16 : decode cX10_key 16 = .ok (.ifCond .ne 7, 3) := by decide +kernel
theorem dX10_key_19 : decode cX10_key 19 = .ok (.sipush (-1001), 3) := by decide +kernel
theorem dX10_key_22 : decode cX10_key 22 = .ok (.ireturn, 1) := by decide +kernel
theorem dX10_key_23 : decode cX10_key 23 = .ok (.iload_n 3, 1) := by decide +kernel
theorem dX10_key_24 : decode cX10_key 24 = .ok (.invokestatic 197, 3) := by decide +kernel
theorem dX10_key_27 : decode cX10_key 27 = .ok (.ifCond .eq 31, 3) := by decide +kernel
theorem dX10_key_30 : decode cX10_key 30 = .ok (.iload 4, 2) := by decide +kernel
theorem dX10_key_32 : decode cX10_key 32 = .ok (.i2l, 1) := by decide +kernel
theorem dX10_key_33 : decode cX10_key 33 = .ok (.lconst 1, 1) := by decide +kernel
theorem dX10_key_34 : decode cX10_key 34 = .ok (.bipush 12, 2) := by decide +kernel
theorem dX10_key_36 : decode cX10_key 36 = .ok (.iload_n 3, 1) := by decide +kernel
theorem dX10_key_37 : decode cX10_key 37 = .ok (.isub, 1) := by decide +kernel
theorem dX10_key_38 : decode cX10_key 38 = .ok (.i2l, 1) := by decide +kernel
theorem dX10_key_39 : decode cX10_key 39 = .ok (.invokestatic 95, 3) := by decide +kernel
theorem dX10_key_42 : decode cX10_key 42 = .ok (.ifCond .eq 16, 3) := by decide +kernel
theorem dX10_key_45 : decode cX10_key 45 = .ok (.iload 5, 2) := by decide +kernel
theorem dX10_key_47 : decode cX10_key 47 = .ok (.i2l, 1) := by decide +kernel
theorem dX10_key_48 : decode cX10_key 48 = .ok (.lconst 0, 1) := by decide +kernel
theorem dX10_key_49 : decode cX10_key 49 = .ok (.ldc2_w 203, 3) := by decide +kernel
theorem dX10_key_52 : decode cX10_key 52 = .ok (.invokestatic 95, 3) := by decide +kernel
theorem dX10_key_55 : decode cX10_key 55 = .ok (.ifCond .ne 7, 3) := by decide +kernel
theorem dX10_key_58 : decode cX10_key 58 = .ok (.sipush (-1002), 3) := by decide +kernel
theorem dX10_key_61 : decode cX10_key 61 = .ok (.ireturn, 1) := by decide +kernel
theorem dX10_key_62 : decode cX10_key 62 = .ok (.aload_n 0, 1) := by decide +kernel
theorem dX10_key_63 : decode cX10_key 63 = .ok (.iconst 4, 1) := by decide +kernel
theorem dX10_key_64 : decode cX10_key 64 = .ok (.iload_n 1, 1) := by decide +kernel
theorem dX10_key_65 : decode cX10_key 65 = .ok (.imul, 1) := by decide +kernel
theorem dX10_key_66 : decode cX10_key 66 = .ok (.iload_n 2, 1) := by decide +kernel
theorem dX10_key_67 : decode cX10_key 67 = .ok (.iadd, 1) := by decide +kernel
theorem dX10_key_68 : decode cX10_key 68 = .ok (.iload_n 3, 1) := by decide +kernel
theorem dX10_key_69 : decode cX10_key 69 = .ok (.iload 4, 2) := by decide +kernel
theorem dX10_key_71 : decode cX10_key 71 = .ok (.iload 5, 2) := by decide +kernel
theorem dX10_key_73 : decode cX10_key 73 = .ok (.invokevirtual 162, 3) := by decide +kernel
theorem dX10_key_76 : decode cX10_key 76 = .ok (.aload_n 0, 1) := by decide +kernel
theorem dX10_key_77 : decode cX10_key 77 = .ok (.iload_n 1, 1) := by decide +kernel
theorem dX10_key_78 : decode cX10_key 78 = .ok (.invokevirtual 205, 3) := by decide +kernel
theorem dX10_key_81 : decode cX10_key 81 = .ok (.ireturn, 1) := by decide +kernel
theorem dX10_lock_0 : decode cX10_lock 0 = .ok (.iload_n 1, 1) := by decide +kernel
theorem dX10_lock_1 : decode cX10_lock 1 = .ok (.invokestatic 194, 3) := by decide +kernel
theorem dX10_lock_4 : decode cX10_lock 4 = .ok (.ifCond .eq 15, 3) := by decide +kernel
theorem dX10_lock_7 : decode cX10_lock 7 = .ok (.iload_n 2, 1) := by decide +kernel
theorem dX10_lock_8 : decode cX10_lock 8 = .ok (.i2l, 1) := by decide +kernel
theorem dX10_lock_9 : decode cX10_lock 9 = .ok (.lconst 0, 1) := by decide +kernel
theorem dX10_lock_10 : decode cX10_lock 10 = .ok (.ldc2_w 101, 3) := by decide +kernel
theorem dX10_lock_13 : decode cX10_lock 13 = .ok (.invokestatic 95, 3) := by decide +kernel
theorem dX10_lock_16 : decode cX10_lock 16 = .ok (.ifCond .ne 7, 3) := by decide +kernel
theorem dX10_lock_19 : decode cX10_lock 19 = .ok (.sipush (-1001), 3) := by decide +kernel
theorem dX10_lock_22 : decode cX10_lock 22 = .ok (.ireturn, 1) := by decide +kernel
theorem dX10_lock_23 : decode cX10_lock 23 = .ok (.aload_n 0, 1) := by decide +kernel
theorem dX10_lock_24 : decode cX10_lock 24 = .ok (.getfield 16, 3) := by decide +kernel
theorem dX10_lock_27 : decode cX10_lock 27 = .ok (.iconst 4, 1) := by decide +kernel
theorem dX10_lock_28 : decode cX10_lock 28 = .ok (.iload_n 1, 1) := by decide +kernel
theorem dX10_lock_29 : decode cX10_lock 29 = .ok (.imul, 1) := by decide +kernel
theorem dX10_lock_30 : decode cX10_lock 30 = .ok (.iload_n 2, 1) := by decide +kernel
theorem dX10_lock_31 : decode cX10_lock 31 = .ok (.iadd, 1) := by decide +kernel
theorem dX10_lock_32 : decode cX10_lock 32 = .ok (.iaload, 1) := by decide +kernel
theorem dX10_lock_33 : decode cX10_lock 33 = .ok (.ifCond .ne 7, 3) := by decide +kernel
theorem dX10_lock_36 : decode cX10_lock 36 = .ok (.sipush (-1003), 3) := by decide +kernel
theorem dX10_lock_39 : decode cX10_lock 39 = .ok (.ireturn, 1) := by decide +kernel
theorem dX10_lock_40 : decode cX10_lock 40 = .ok (.aload_n 0, 1) := by decide +kernel
theorem dX10_lock_41 : decode cX10_lock 41 = .ok (.getfield 16, 3) := by decide +kernel
theorem dX10_lock_44 : decode cX10_lock 44 = .ok (.iconst 4, 1) := by decide +kernel
theorem dX10_lock_45 : decode cX10_lock 45 = .ok (.iload_n 1, 1) := by decide +kernel
theorem dX10_lock_46 : decode cX10_lock 46 = .ok (.imul, 1) := by decide +kernel
theorem dX10_lock_47 : decode cX10_lock 47 = .ok (.iload_n 2, 1) := by decide +kernel
theorem dX10_lock_48 : decode cX10_lock 48 = .ok (.iadd, 1) := by decide +kernel
theorem dX10_lock_49 : decode cX10_lock 49 = .ok (.iconst 0, 1) := by decide +kernel
theorem dX10_lock_50 : decode cX10_lock 50 = .ok (.iastore, 1) := by decide +kernel
theorem dX10_lock_51 : decode cX10_lock 51 = .ok (.aload_n 0, 1) := by decide +kernel
theorem dX10_lock_52 : decode cX10_lock 52 = .ok (.iload_n 1, 1) := by decide +kernel
theorem dX10_lock_53 : decode cX10_lock 53 = .ok (.invokevirtual 205, 3) := by decide +kernel
theorem dX10_lock_56 : decode cX10_lock 56 = .ok (.ireturn, 1) := by decide +kernel
theorem dX10_door_0 : decode cX10_door 0 = .ok (.iload_n 1, 1) := by decide +kernel
theorem dX10_door_1 : decode cX10_door 1 = .ok (.invokestatic 194, 3) := by decide +kernel
theorem dX10_door_4 : decode cX10_door 4 = .ok (.ifCond .eq 15, 3) := by decide +kernel
theorem dX10_door_7 : decode cX10_door 7 = .ok (.iload_n 2, 1) := by decide +kernel
theorem dX10_door_8 : decode cX10_door 8 = .ok (.i2l, 1) := by decide +kernel
theorem dX10_door_9 : decode cX10_door 9 = .ok (.lconst 0, 1) := by decide +kernel
theorem dX10_door_10 : decode cX10_door 10 = .ok (.ldc2_w 101, 3) := by decide +kernel
theorem dX10_door_13 : decode cX10_door 13 = .ok (.invokestatic 95, 3) := by decide +kernel
theorem dX10_door_16 : decode cX10_door 16 = .ok (.ifCond .ne 7, 3) := by decide +kernel
theorem dX10_door_19 : decode cX10_door 19 = .ok (.sipush (-1001), 3) := by decide +kernel
theorem dX10_door_22 : decode cX10_door 22 = .ok (.ireturn, 1) := by decide +kernel
theorem dX10_door_23 : decode cX10_door 23 = .ok (.iload_n 3, 1) := by decide +kernel
theorem dX10_door_24 : decode cX10_door 24 = .ok (.i2l, 1) := by decide +kernel
theorem dX10_door_25 : decode cX10_door 25 = .ok (.lconst 0, 1) := by decide +kernel
theorem dX10_door_26 : decode cX10_door 26 = .ok (.ldc2_w 209, 3) := by decide +kernel
theorem dX10_door_29 : decode cX10_door 29 = .ok (.invokestatic 95, 3) := by decide +kernel
theorem dX10_door_32 : decode cX10_door 32 = .ok (.ifCond .ne 7, 3) := by decide +kernel
theorem dX10_door_35 : decode cX10_door 35 = .ok (.sipush (-1002), 3) := by decide +kernel
theorem dX10_door_38 : decode cX10_door 38 = .ok (.ireturn, 1) := by decide +kernel
theorem dX10_door_39 : decode cX10_door 39 = .ok (.iconst 4, 1) := by decide +kernel
theorem dX10_door_40 : decode cX10_door 40 = .ok (.iload_n 1, 1) := by decide +kernel
theorem dX10_door_41 : decode cX10_door 41 = .ok (.imul, 1) := by decide +kernel
theorem dX10_door_42 : decode cX10_door 42 = .ok (.iload_n 2, 1) := by decide +kernel
theorem dX10_door_43 : decode cX10_door 43 = .ok (.iadd, 1) := by decide +kernel
theorem dX10_door_44 : decode cX10_door 44 = .ok (.istore 4, 2) := by decide +kernel
theorem dX10_door_46 : decode cX10_door 46 = .ok (.aload_n 0, 1) := by decide +kernel
theorem dX10_door_47 : decode cX10_door 47 = .ok (.getfield 16, 3) := by decide +kernel
theorem dX10_door_50 : decode cX10_door 50 = .ok (.iload 4, 2) := by decide +kernel
theorem dX10_door_52 : decode cX10_door 52 = .ok (.iaload, 1) := by decide +kernel
theorem dX10_door_53 : decode cX10_door 53 = .ok (.ifCond .ne 9, 3) := by decide +kernel
theorem dX10_door_56 : decode cX10_door 56 = .ok (.sipush (-1003), 3) := by decide +kernel
theorem dX10_door_59 : decode cX10_door 59 = .ok (.goto 39, 3) := by decide +kernel
theorem dX10_door_62 : decode cX10_door 62 = .ok (.iload_n 3, 1) := by decide +kernel
theorem dX10_door_63 : decode cX10_door 63 = .ok (.ifCond .ne 13, 3) := by decide +kernel
theorem dX10_door_66 : decode cX10_door 66 = .ok (.aload_n 0, 1) := by decide +kernel
theorem dX10_door_67 : decode cX10_door 67 = .ok (.getfield 13, 3) := by decide +kernel
theorem dX10_door_70 : decode cX10_door 70 = .ok (.iload 4, 2) := by decide +kernel
theorem dX10_door_72 : decode cX10_door 72 = .ok (.iaload, 1) := by decide +kernel
theorem dX10_door_73 : decode cX10_door 73 = .ok (.goto 25, 3) := by decide +kernel
theorem dX10_door_76 : decode cX10_door 76 = .ok (.iload_n 3, 1) := by decide +kernel
theorem dX10_door_77 : decode cX10_door 77 = .ok (.iconst 1, 1) := by decide +kernel
theorem dX10_door_78 : decode cX10_door 78 = .ok (.if_icmp .ne 13, 3) := by decide +kernel
theorem dX10_door_81 : decode cX10_door 81 = .ok (.aload_n 0, 1) := by decide +kernel
theorem dX10_door_82 : decode cX10_door 82 = .ok (.getfield 16, 3) := by decide +kernel
theorem dX10_door_85 : decode cX10_door 85 = .ok (.iload 4, 2) := by decide +kernel
theorem dX10_door_87 : decode cX10_door 87 = .ok (.iaload, 1) := by decide +kernel
theorem dX10_door_88 : decode cX10_door 88 = .ok (.goto 10, 3) := by decide +kernel
theorem dX10_door_91 : decode cX10_door 91 = .ok (.aload_n 0, 1) := by decide +kernel
theorem dX10_door_92 : decode cX10_door 92 = .ok (.getfield 19, 3) := by decide +kernel
theorem dX10_door_95 : decode cX10_door 95 = .ok (.iload 4, 2) := by decide +kernel
theorem dX10_door_97 : decode cX10_door 97 = .ok (.iaload, 1) := by decide +kernel
theorem dX10_door_98 : decode cX10_door 98 = .ok (.ireturn, 1) := by decide +kernel
theorem dX10_isReady_0 : decode cX10_isReady 0 = .ok (.aload_n 0, 1) := by decide +kernel
theorem dX10_isReady_1 : decode cX10_isReady 1 = .ok (.getfield 22, 3) := by decide +kernel
theorem dX10_isReady_4 : decode cX10_isReady 4 = .ok (.iconst 2, 1) := by decide +kernel
theorem dX10_isReady_5 : decode cX10_isReady 5 = .ok (.iload_n 1, 1) := by decide +kernel
theorem dX10_isReady_6 : decode cX10_isReady 6 = .ok (.imul, 1) := by decide +kernel
theorem dX10_isReady_7 : decode cX10_isReady 7 = .ok (.iaload, 1) := by decide +kernel
theorem dX10_isReady_8 : decode cX10_isReady 8 = .ok (.iconst 1, 1) := by decide +kernel
theorem dX10_isReady_9 : decode cX10_isReady 9 = .ok (.if_icmp .eq 17, 3) := by decide +kernel
theorem dX10_isReady_12 : decode cX10_isReady 12 = .ok (.aload_n 0, 1) := by decide +kernel
theorem dX10_isReady_13 : decode cX10_isReady 13 = .ok (.getfield 22, 3) := by decide +kernel
theorem dX10_isReady_16 : decode cX10_isReady 16 = .ok (.iconst 2, 1) := by decide +kernel
theorem dX10_isReady_17 : decode cX10_isReady 17 = .ok (.iload_n 1, 1) := by decide +kernel
theorem dX10_isReady_18 : decode cX10_isReady 18 = .ok (.imul, 1) := by decide +kernel
theorem dX10_isReady_19 : decode cX10_isReady 19 = .ok (.iconst 1, 1) := by decide +kernel
theorem dX10_isReady_20 : decode cX10_isReady 20 = .ok (.iadd, 1) := by decide +kernel
theorem dX10_isReady_21 : decode cX10_isReady 21 = .ok (.iaload, 1) := by decide +kernel
theorem dX10_isReady_22 : decode cX10_isReady 22 = .ok (.iconst 1, 1) := by decide +kernel
theorem dX10_isReady_23 : decode cX10_isReady 23 = .ok (.if_icmp .ne 7, 3) := by decide +kernel
theorem dX10_isReady_26 : decode cX10_isReady 26 = .ok (.iconst 1, 1) := by decide +kernel
theorem dX10_isReady_27 : decode cX10_isReady 27 = .ok (.goto 4, 3) := by decide +kernel
theorem dX10_isReady_30 : decode cX10_isReady 30 = .ok (.iconst 0, 1) := by decide +kernel
theorem dX10_isReady_31 : decode cX10_isReady 31 = .ok (.ireturn, 1) := by decide +kernel
theorem dX10_joins_0 : decode cX10_joins 0 = .ok (.aload_n 0, 1) := by decide +kernel
theorem dX10_joins_1 : decode cX10_joins 1 = .ok (.iload_n 1, 1) := by decide +kernel
theorem dX10_joins_2 : decode cX10_joins 2 = .ok (.invokevirtual 211, 3) := by decide +kernel
theorem dX10_joins_5 : decode cX10_joins 5 = .ok (.ifCond .eq 4, 3) := by decide +kernel
theorem dX10_joins_8 : decode cX10_joins 8 = .ok (.return_, 1) := by decide +kernel
theorem dX10_joins_9 : decode cX10_joins 9 = .ok (.aload_n 0, 1) := by decide +kernel
theorem dX10_joins_10 : decode cX10_joins 10 = .ok (.iconst 2, 1) := by decide +kernel
theorem dX10_joins_11 : decode cX10_joins 11 = .ok (.iload_n 1, 1) := by decide +kernel
theorem dX10_joins_12 : decode cX10_joins 12 = .ok (.imul, 1) := by decide +kernel
theorem dX10_joins_13 : decode cX10_joins 13 = .ok (.iconst 1, 1) := by decide +kernel
theorem dX10_joins_14 : decode cX10_joins 14 = .ok (.invokevirtual 105, 3) := by decide +kernel
theorem dX10_joins_17 : decode cX10_joins 17 = .ok (.aload_n 0, 1) := by decide +kernel
theorem dX10_joins_18 : decode cX10_joins 18 = .ok (.iconst 2, 1) := by decide +kernel
theorem dX10_joins_19 : decode cX10_joins 19 = .ok (.iload_n 1, 1) := by decide +kernel
theorem dX10_joins_20 : decode cX10_joins 20 = .ok (.imul, 1) := by decide +kernel
theorem dX10_joins_21 : decode cX10_joins 21 = .ok (.iconst 1, 1) := by decide +kernel
theorem dX10_joins_22 : decode cX10_joins 22 = .ok (.iadd, 1) := by decide +kernel
theorem dX10_joins_23 : decode cX10_joins 23 = .ok (.iconst 1, 1) := by decide +kernel
theorem dX10_joins_24 : decode cX10_joins 24 = .ok (.invokevirtual 105, 3) := by decide +kernel
theorem dX10_joins_27 : decode cX10_joins 27 = .ok (.iconst 0, 1) := by decide +kernel
theorem dX10_joins_28 : decode cX10_joins 28 = .ok (.istore_n 2, 1) := by decide +kernel
theorem dX10_joins_29 : decode cX10_joins 29 = .ok (.iconst 0, 1) := by decide +kernel
theorem dX10_joins_30 : decode cX10_joins 30 = .ok (.istore_n 3, 1) := by decide +kernel
theorem dX10_joins_31 : decode cX10_joins 31 = .ok (.iload_n 3, 1) := by decide +kernel
theorem dX10_joins_32 : decode cX10_joins 32 = .ok (.aload_n 0, 1) := by decide +kernel
theorem dX10_joins_33 : decode cX10_joins 33 = .ok (.getfield 113, 3) := by decide +kernel
theorem dX10_joins_36 : decode cX10_joins 36 = .ok (.if_icmp .ge 35, 3) := by decide +kernel
theorem dX10_joins_39 : decode cX10_joins 39 = .ok (.aload_n 0, 1) := by decide +kernel
theorem dX10_joins_40 : decode cX10_joins 40 = .ok (.getfield 68, 3) := by decide +kernel
theorem dX10_joins_43 : decode cX10_joins 43 = .ok (.bipush 11, 2) := by decide +kernel
theorem dX10_joins_45 : decode cX10_joins 45 = .ok (.iload_n 3, 1) := by decide +kernel
theorem dX10_joins_46 : decode cX10_joins 46 = .ok (.imul, 1) := by decide +kernel
theorem dX10_joins_47 : decode cX10_joins 47 = .ok (.iconst 0, 1) := by decide +kernel
theorem dX10_joins_48 : decode cX10_joins 48 = .ok (.iadd, 1) := by decide +kernel
theorem dX10_joins_49 : decode cX10_joins 49 = .ok (.iaload, 1) := by decide +kernel
theorem dX10_joins_50 : decode cX10_joins 50 = .ok (.iconst 2, 1) := by decide +kernel
theorem dX10_joins_51 : decode cX10_joins 51 = .ok (.idiv, 1) := by decide +kernel
theorem dX10_joins_52 : decode cX10_joins 52 = .ok (.iload_n 1, 1) := by decide +kernel
theorem dX10_joins_53 : decode cX10_joins 53 = .ok (.if_icmp .eq 12, 3) := by decide +kernel
theorem dX10_joins_56 : decode cX10_joins 56 = .ok (.aload_n 0, 1) := by decide +kernel
theorem dX10_joins_57 : decode cX10_joins 57 = .ok (.iload_n 3, 1) := by decide +kernel
theorem dX10_joins_58 : decode cX10_joins 58 = .ok (.iload_n 2, 1) := by decide +kernel
theorem dX10_joins_59 : decode cX10_joins 59 = .ok (.invokevirtual 214, 3) := by decide +kernel
theorem dX10_joins_62 : decode cX10_joins 62 = .ok (.iinc 2 1, 3) := by decide +kernel
theorem dX10_joins_65 : decode cX10_joins 65 = .ok (.iinc 3 1, 3) := by decide +kernel
theorem dX10_joins_68 : decode cX10_joins 68 = .ok (.goto (-37), 3) := by decide +kernel
theorem dX10_joins_71 : decode cX10_joins 71 = .ok (.aload_n 0, 1) := by decide +kernel
theorem dX10_joins_72 : decode cX10_joins 72 = .ok (.iload_n 2, 1) := by decide +kernel
theorem dX10_joins_73 : decode cX10_joins 73 = .ok (.putfield 113, 3) := by decide +kernel
theorem dX10_joins_76 : decode cX10_joins 76 = .ok (.return_, 1) := by decide +kernel
theorem dX10_copyPacket_0 : decode cX10_copyPacket 0 = .ok (.iconst 0, 1) := by decide +kernel
theorem dX10_copyPacket_1 : decode cX10_copyPacket 1 = .ok (.istore_n 3, 1) := by decide +kernel
theorem dX10_copyPacket_2 : decode cX10_copyPacket 2 = .ok (.iload_n 3, 1) := by decide +kernel
theorem dX10_copyPacket_3 : decode cX10_copyPacket 3 = .ok (.bipush 11, 2) := by decide +kernel
theorem dX10_copyPacket_5 : decode cX10_copyPacket 5 = .ok (.if_icmp .ge 31, 3) := by decide +kernel
theorem dX10_copyPacket_8 : decode cX10_copyPacket 8 = .ok (.aload_n 0, 1) := by decide +kernel
theorem dX10_copyPacket_9 : decode cX10_copyPacket 9 = .ok (.getfield 68, 3) := by decide +kernel
theorem dX10_copyPacket_12 : decode cX10_copyPacket 12 = .ok (.bipush 11, 2) := by decide +kernel
theorem dX10_copyPacket_14 : decode cX10_copyPacket 14 = .ok (.iload_n 2, 1) := by decide +kernel
theorem dX10_copyPacket_15 : decode cX10_copyPacket 15 = .ok (.imul, 1) := by decide +kernel
theorem dX10_copyPacket_16 : decode cX10_copyPacket 16 = .ok (.iload_n 3, 1) := by decide +kernel
theorem dX10_copyPacket_17 : decode cX10_copyPacket 17 = .ok (.iadd, 1) := by decide +kernel
theorem dX10_copyPacket_18 : decode cX10_copyPacket 18 = .ok (.aload_n 0, 1) := by decide +kernel
theorem dX10_copyPacket_19 : decode cX10_copyPacket 19 = .ok (.getfield 68, 3) := by decide +kernel
theorem dX10_copyPacket_22 : decode cX10_copyPacket 22 = .ok (.bipush 11, 2) := by decide +kernel
theorem dX10_copyPacket_24 : decode cX10_copyPacket 24 = .ok (.iload_n 1, 1) := by decide +kernel
theorem dX10_copyPacket_25 : decode cX10_copyPacket 25 = .ok (.imul, 1) := by decide +kernel
theorem dX10_copyPacket_26 : decode cX10_copyPacket 26 = .ok (.iload_n 3, 1) := by decide +kernel
theorem dX10_copyPacket_27 : decode cX10_copyPacket 27 = .ok (.iadd, 1) := by decide +kernel
theorem dX10_copyPacket_28 : decode cX10_copyPacket 28 = .ok (.iaload, 1) := by decide +kernel
theorem dX10_copyPacket_29 : decode cX10_copyPacket 29 = .ok (.iastore, 1) := by decide +kernel
theorem dX10_copyPacket_30 : decode cX10_copyPacket 30 = .ok (.iinc 3 1, 3) := by decide +kernel
theorem dX10_copyPacket_33 : decode cX10_copyPacket 33 = .ok (.goto (-31), 3) := by decide +kernel
theorem dX10_copyPacket_36 : decode cX10_copyPacket 36 = .ok (.return_, 1) := by decide +kernel
theorem dX10_readyEnds_0 : decode cX10_readyEnds 0 = .ok (.iconst 0, 1) := by decide +kernel
theorem dX10_readyEnds_1 : decode cX10_readyEnds 1 = .ok (.istore_n 1, 1) := by decide +kernel
theorem dX10_readyEnds_2 : decode cX10_readyEnds 2 = .ok (.iconst 0, 1) := by decide +kernel
theorem dX10_readyEnds_3 : decode cX10_readyEnds 3 = .ok (.istore_n 2, 1) := by decide +kernel
theorem dX10_readyEnds_4 : decode cX10_readyEnds 4 = .ok (.iload_n 2, 1) := by decide +kernel
theorem dX10_readyEnds_5 : decode cX10_readyEnds 5 = .ok (.iconst 4, 1) := by decide +kernel
theorem dX10_readyEnds_6 : decode cX10_readyEnds 6 = .ok (.if_icmp .ge 27, 3) := by decide +kernel
theorem dX10_readyEnds_9 : decode cX10_readyEnds 9 = .ok (.iload_n 1, 1) := by decide +kernel
theorem dX10_readyEnds_10 : decode cX10_readyEnds 10 = .ok (.aload_n 0, 1) := by decide +kernel
theorem dX10_readyEnds_11 : decode cX10_readyEnds 11 = .ok (.getfield 22, 3) := by decide +kernel
theorem dX10_readyEnds_14 : decode cX10_readyEnds 14 = .ok (.iload_n 2, 1) := by decide +kernel
theorem dX10_readyEnds_15 : decode cX10_readyEnds 15 = .ok (.iaload, 1) := by decide +kernel
theorem dX10_readyEnds_16 : decode cX10_readyEnds 16 = .ok (.iconst 1, 1) := by decide +kernel
theorem dX10_readyEnds_17 : decode cX10_readyEnds 17 = .ok (.if_icmp .ne 7, 3) := by decide +kernel
theorem dX10_readyEnds_20 : decode cX10_readyEnds 20 = .ok (.iconst 1, 1) := by decide +kernel
theorem dX10_readyEnds_21 : decode cX10_readyEnds 21 = .ok (.goto 4, 3) := by decide +kernel
theorem dX10_readyEnds_24 : decode cX10_readyEnds 24 = .ok (.iconst 0, 1) := by decide +kernel
theorem dX10_readyEnds_25 : decode cX10_readyEnds 25 = .ok (.iadd, 1) := by decide +kernel
theorem dX10_readyEnds_26 : decode cX10_readyEnds 26 = .ok (.istore_n 1, 1) := by decide +kernel
theorem dX10_readyEnds_27 : decode cX10_readyEnds 27 = .ok (.iinc 2 1, 3) := by decide +kernel
theorem dX10_readyEnds_30 : decode cX10_readyEnds 30 = .ok (.goto (-26), 3) := by decide +kernel
theorem dX10_readyEnds_33 : decode cX10_readyEnds 33 = .ok (.iload_n 1, 1) := by decide +kernel
theorem dX10_readyEnds_34 : decode cX10_readyEnds 34 = .ok (.ireturn, 1) := by decide +kernel
theorem dX10_join_0 : decode cX10_join 0 = .ok (.iload_n 1, 1) := by decide +kernel
theorem dX10_join_1 : decode cX10_join 1 = .ok (.invokestatic 194, 3) := by decide +kernel
theorem dX10_join_4 : decode cX10_join 4 = .ok (.ifCond .ne 7, 3) := by decide +kernel
theorem dX10_join_7 : decode cX10_join 7 = .ok (.sipush (-1001), 3) := by decide +kernel
theorem dX10_join_10 : decode cX10_join 10 = .ok (.ireturn, 1) := by decide +kernel
theorem dX10_join_11 : decode cX10_join 11 = .ok (.aload_n 0, 1) := by decide +kernel
theorem dX10_join_12 : decode cX10_join 12 = .ok (.iload_n 1, 1) := by decide +kernel
theorem dX10_join_13 : decode cX10_join 13 = .ok (.invokevirtual 211, 3) := by decide +kernel
theorem dX10_join_16 : decode cX10_join 16 = .ok (.ifCond .eq 7, 3) := by decide +kernel
theorem dX10_join_19 : decode cX10_join 19 = .ok (.sipush (-1003), 3) := by decide +kernel
theorem dX10_join_22 : decode cX10_join 22 = .ok (.ireturn, 1) := by decide +kernel
theorem dX10_join_23 : decode cX10_join 23 = .ok (.aload_n 0, 1) := by decide +kernel
theorem dX10_join_24 : decode cX10_join 24 = .ok (.iload_n 1, 1) := by decide +kernel
theorem dX10_join_25 : decode cX10_join 25 = .ok (.invokevirtual 166, 3) := by decide +kernel
theorem dX10_join_28 : decode cX10_join 28 = .ok (.aload_n 0, 1) := by decide +kernel
theorem dX10_join_29 : decode cX10_join 29 = .ok (.invokevirtual 217, 3) := by decide +kernel
theorem dX10_join_32 : decode cX10_join 32 = .ok (.ireturn, 1) := by decide +kernel
theorem dX10_tear_0 : decode cX10_tear 0 = .ok (.iload_n 1, 1) := by decide +kernel
theorem dX10_tear_1 : decode cX10_tear 1 = .ok (.invokestatic 220, 3) := by decide +kernel
theorem dX10_tear_4 : decode cX10_tear 4 = .ok (.ifCond .ne 7, 3) := by decide +kernel
theorem dX10_tear_7 : decode cX10_tear 7 = .ok (.sipush (-1001), 3) := by decide +kernel
theorem dX10_tear_10 : decode cX10_tear 10 = .ok (.ireturn, 1) := by decide +kernel
theorem dX10_tear_11 : decode cX10_tear 11 = .ok (.aload_n 0, 1) := by decide +kernel
theorem dX10_tear_12 : decode cX10_tear 12 = .ok (.getfield 22, 3) := by decide +kernel
theorem dX10_tear_15 : decode cX10_tear 15 = .ok (.iload_n 1, 1) := by decide +kernel
theorem dX10_tear_16 : decode cX10_tear 16 = .ok (.iaload, 1) := by decide +kernel
theorem dX10_tear_17 : decode cX10_tear 17 = .ok (.iconst 1, 1) := by decide +kernel
theorem dX10_tear_18 : decode cX10_tear 18 = .ok (.if_icmp .eq 7, 3) := by decide +kernel
theorem dX10_tear_21 : decode cX10_tear 21 = .ok (.sipush (-1003), 3) := by decide +kernel
theorem dX10_tear_24 : decode cX10_tear 24 = .ok (.ireturn, 1) := by decide +kernel
theorem dX10_tear_25 : decode cX10_tear 25 = .ok (.aload_n 0, 1) := by decide +kernel
theorem dX10_tear_26 : decode cX10_tear 26 = .ok (.getfield 28, 3) := by decide +kernel
theorem dX10_tear_29 : decode cX10_tear 29 = .ok (.iload_n 1, 1) := by decide +kernel
theorem dX10_tear_30 : decode cX10_tear 30 = .ok (.iaload, 1) := by decide +kernel
theorem dX10_tear_31 : decode cX10_tear 31 = .ok (.aload_n 0, 1) := by decide +kernel
theorem dX10_tear_32 : decode cX10_tear 32 = .ok (.getfield 37, 3) := by decide +kernel
theorem dX10_tear_35 : decode cX10_tear 35 = .ok (.iload_n 1, 1) := by decide +kernel
theorem dX10_tear_36 : decode cX10_tear 36 = .ok (.iaload, 1) := by decide +kernel
theorem dX10_tear_37 : decode cX10_tear 37 = .ok (.iadd, 1) := by decide +kernel
theorem dX10_tear_38 : decode cX10_tear 38 = .ok (.istore_n 2, 1) := by decide +kernel
theorem dX10_tear_39 : decode cX10_tear 39 = .ok (.aload_n 0, 1) := by decide +kernel
theorem dX10_tear_40 : decode cX10_tear 40 = .ok (.iload_n 1, 1) := by decide +kernel
theorem dX10_tear_41 : decode cX10_tear 41 = .ok (.invokevirtual 223, 3) := by decide +kernel
theorem dX10_tear_44 : decode cX10_tear 44 = .ok (.iload_n 2, 1) := by decide +kernel
theorem dX10_tear_45 : decode cX10_tear 45 = .ok (.ireturn, 1) := by decide +kernel
theorem dX10_delay_0 : decode cX10_delay 0 = .ok (.iload_n 1, 1) := by decide +kernel
theorem dX10_delay_1 : decode cX10_delay 1 = .ok (.invokestatic 194, 3) := by decide +kernel
theorem dX10_delay_4 : decode cX10_delay 4 = .ok (.ifCond .ne 7, 3) := by decide +kernel
theorem dX10_delay_7 : decode cX10_delay 7 = .ok (.sipush (-1001), 3) := by decide +kernel
theorem dX10_delay_10 : decode cX10_delay 10 = .ok (.ireturn, 1) := by decide +kernel
theorem dX10_delay_11 : decode cX10_delay 11 = .ok (.iload_n 2, 1) := by decide +kernel
theorem dX10_delay_12 : decode cX10_delay 12 = .ok (.i2l, 1) := by decide +kernel
theorem dX10_delay_13 : decode cX10_delay 13 = .ok (.lconst 1, 1) := by decide +kernel
theorem dX10_delay_14 : decode cX10_delay 14 = .ok (.ldc2_w 226, 3) := by decide +kernel
theorem dX10_delay_17 : decode cX10_delay 17 = .ok (.invokestatic 95, 3) := by decide +kernel
theorem dX10_delay_20 : decode cX10_delay 20 = .ok (.ifCond .ne 7, 3) := by decide +kernel
theorem dX10_delay_23 : decode cX10_delay 23 = .ok (.sipush (-1002), 3) := by decide +kernel
theorem dX10_delay_26 : decode cX10_delay 26 = .ok (.ireturn, 1) := by decide +kernel
theorem dX10_delay_27 : decode cX10_delay 27 = .ok (.aload_n 0, 1) := by decide +kernel
theorem dX10_delay_28 : decode cX10_delay 28 = .ok (.getfield 65, 3) := by decide +kernel
theorem dX10_delay_31 : decode cX10_delay 31 = .ok (.iload_n 1, 1) := by decide +kernel
theorem dX10_delay_32 : decode cX10_delay 32 = .ok (.iaload, 1) := by decide +kernel
theorem dX10_delay_33 : decode cX10_delay 33 = .ok (.istore_n 3, 1) := by decide +kernel
theorem dX10_delay_34 : decode cX10_delay 34 = .ok (.aload_n 0, 1) := by decide +kernel
theorem dX10_delay_35 : decode cX10_delay 35 = .ok (.getfield 65, 3) := by decide +kernel
theorem dX10_delay_38 : decode cX10_delay 38 = .ok (.iload_n 1, 1) := by decide +kernel
theorem dX10_delay_39 : decode cX10_delay 39 = .ok (.iload_n 2, 1) := by decide +kernel
theorem dX10_delay_40 : decode cX10_delay 40 = .ok (.iastore, 1) := by decide +kernel
theorem dX10_delay_41 : decode cX10_delay 41 = .ok (.iload_n 3, 1) := by decide +kernel
theorem dX10_delay_42 : decode cX10_delay 42 = .ok (.ireturn, 1) := by decide +kernel
theorem dX10_aim_0 : decode cX10_aim 0 = .ok (.iload_n 1, 1) := by decide +kernel
theorem dX10_aim_1 : decode cX10_aim 1 = .ok (.invokestatic 220, 3) := by decide +kernel
theorem dX10_aim_4 : decode cX10_aim 4 = .ok (.ifCond .eq 15, 3) := by decide +kernel
theorem dX10_aim_7 : decode cX10_aim 7 = .ok (.iload_n 2, 1) := by decide +kernel
theorem dX10_aim_8 : decode cX10_aim 8 = .ok (.i2l, 1) := by decide +kernel
theorem dX10_aim_9 : decode cX10_aim 9 = .ok (.lconst 0, 1) := by decide +kernel
theorem dX10_aim_10 : decode cX10_aim 10 = .ok (.ldc2_w 101, 3) := by decide +kernel
theorem dX10_aim_13 : decode cX10_aim 13 = .ok (.invokestatic 95, 3) := by decide +kernel
theorem dX10_aim_16 : decode cX10_aim 16 = .ok (.ifCond .ne 7, 3) := by decide +kernel
theorem dX10_aim_19 : decode cX10_aim 19 = .ok (.sipush (-1001), 3) := by decide +kernel
theorem dX10_aim_22 : decode cX10_aim 22 = .ok (.ireturn, 1) := by decide +kernel
theorem dX10_aim_23 : decode cX10_aim 23 = .ok (.iload_n 3, 1) := by decide +kernel
theorem dX10_aim_24 : decode cX10_aim 24 = .ok (.i2l, 1) := by decide +kernel
theorem dX10_aim_25 : decode cX10_aim 25 = .ok (.lconst 0, 1) := by decide +kernel
theorem dX10_aim_26 : decode cX10_aim 26 = .ok (.ldc2_w 99, 3) := by decide +kernel
theorem dX10_aim_29 : decode cX10_aim 29 = .ok (.invokestatic 95, 3) := by decide +kernel
theorem dX10_aim_32 : decode cX10_aim 32 = .ok (.ifCond .ne 7, 3) := by decide +kernel
theorem dX10_aim_35 : decode cX10_aim 35 = .ok (.sipush (-1002), 3) := by decide +kernel
theorem dX10_aim_38 : decode cX10_aim 38 = .ok (.ireturn, 1) := by decide +kernel
theorem dX10_aim_39 : decode cX10_aim 39 = .ok (.aload_n 0, 1) := by decide +kernel
theorem dX10_aim_40 : decode cX10_aim 40 = .ok (.getfield 59, 3) := by decide +kernel
theorem dX10_aim_43 : decode cX10_aim 43 = .ok (.iload_n 1, 1) := by decide +kernel
theorem dX10_aim_44 : decode cX10_aim 44 = .ok (.iaload, 1) := by decide +kernel
theorem dX10_aim_45 : decode cX10_aim 45 = .ok (.iload_n 2, 1) := by decide +kernel
theorem dX10_aim_46 : decode cX10_aim 46 = .ok (.if_icmp .ne 13, 3) := by decide +kernel
theorem dX10_aim_49 : decode cX10_aim 49 = .ok (.aload_n 0, 1) := by decide +kernel
theorem dX10_aim_50 : decode cX10_aim 50 = .ok (.getfield 62, 3) := by decide +kernel
theorem dX10_aim_53 : decode cX10_aim 53 = .ok (.iload_n 1, 1) := by decide +kernel
theorem dX10_aim_54 : decode cX10_aim 54 = .ok (.iaload, 1) := by decide +kernel
theorem dX10_aim_55 : decode cX10_aim 55 = .ok (.iload_n 3, 1) := by decide +kernel
theorem dX10_aim_56 : decode cX10_aim 56 = .ok (.if_icmp .eq 7, 3) := by decide +kernel
theorem dX10_aim_59 : decode cX10_aim 59 = .ok (.iconst 1, 1) := by decide +kernel
theorem dX10_aim_60 : decode cX10_aim 60 = .ok (.goto 4, 3) := by decide +kernel
theorem dX10_aim_63 : decode cX10_aim 63 = .ok (.iconst 0, 1) := by decide +kernel
theorem dX10_aim_64 : decode cX10_aim 64 = .ok (.istore 4, 2) := by decide +kernel
theorem dX10_aim_66 : decode cX10_aim 66 = .ok (.aload_n 0, 1) := by decide +kernel
theorem dX10_aim_67 : decode cX10_aim 67 = .ok (.getfield 59, 3) := by decide +kernel
theorem dX10_aim_70 : decode cX10_aim 70 = .ok (.iload_n 1, 1) := by decide +kernel
theorem dX10_aim_71 : decode cX10_aim 71 = .ok (.iload_n 2, 1) := by decide +kernel
theorem dX10_aim_72 : decode cX10_aim 72 = .ok (.iastore, 1) := by decide +kernel
theorem dX10_aim_73 : decode cX10_aim 73 = .ok (.aload_n 0, 1) := by decide +kernel
theorem dX10_aim_74 : decode cX10_aim 74 = .ok (.getfield 62, 3) := by decide +kernel
theorem dX10_aim_77 : decode cX10_aim 77 = .ok (.iload_n 1, 1) := by decide +kernel
theorem dX10_aim_78 : decode cX10_aim 78 = .ok (.iload_n 3, 1) := by decide +kernel
theorem dX10_aim_79 : decode cX10_aim 79 = .ok (.iastore, 1) := by decide +kernel
theorem dX10_aim_80 : decode cX10_aim 80 = .ok (.iload 4, 2) := by decide +kernel
theorem dX10_aim_82 : decode cX10_aim 82 = .ok (.ireturn, 1) := by decide +kernel
theorem dX10_sends_0 : decode cX10_sends 0 = .ok (.aload_n 0, 1) := by decide +kernel
theorem dX10_sends_1 : decode cX10_sends 1 = .ok (.getfield 113, 3) := by decide +kernel
theorem dX10_sends_4 : decode cX10_sends 4 = .ok (.bipush 24, 2) := by decide +kernel
theorem dX10_sends_6 : decode cX10_sends 6 = .ok (.if_icmp .ne 14, 3) := by decide +kernel
theorem dX10_sends_9 : decode cX10_sends 9 = .ok (.aload_n 0, 1) := by decide +kernel
theorem dX10_sends_10 : decode cX10_sends 10 = .ok (.dup, 1) := by decide +kernel
theorem dX10_sends_11 : decode cX10_sends 11 = .ok (.getfield 123, 3) := by decide +kernel
theorem dX10_sends_14 : decode cX10_sends 14 = .ok (.iconst 1, 1) := by decide +kernel
theorem dX10_sends_15 : decode cX10_sends 15 = .ok (.iadd, 1) := by decide +kernel
theorem dX10_sends_16 : decode cX10_sends 16 = .ok (.putfield 123, 3) := by decide +kernel
theorem dX10_sends_19 : decode cX10_sends 19 = .ok (.return_, 1) := by decide +kernel
theorem dX10_sends_20 : decode cX10_sends 20 = .ok (.bipush 11, 2) := by decide +kernel
theorem dX10_sends_22 : decode cX10_sends 22 = .ok (.aload_n 0, 1) := by decide +kernel
theorem dX10_sends_23 : decode cX10_sends 23 = .ok (.getfield 113, 3) := by decide +kernel
theorem dX10_sends_26 : decode cX10_sends 26 = .ok (.imul, 1) := by decide +kernel
theorem dX10_sends_27 : decode cX10_sends 27 = .ok (.istore 6, 2) := by decide +kernel
theorem dX10_sends_29 : decode cX10_sends 29 = .ok (.iconst 0, 1) := by decide +kernel
theorem dX10_sends_30 : decode cX10_sends 30 = .ok (.istore 7, 2) := by decide +kernel
theorem dX10_sends_32 : decode cX10_sends 32 = .ok (.iload 7, 2) := by decide +kernel
theorem dX10_sends_34 : decode cX10_sends 34 = .ok (.bipush 6, 2) := by decide +kernel
theorem dX10_sends_36 : decode cX10_sends 36 = .ok (.if_icmp .ge 40, 3) := by decide +kernel
theorem dX10_sends_39 : decode cX10_sends 39 = .ok (.aload_n 0, 1) := by decide +kernel
theorem dX10_sends_40 : decode cX10_sends 40 = .ok (.getfield 68, 3) := by decide +kernel
theorem dX10_sends_43 : decode cX10_sends 43 = .ok (.iload 6, 2) := by decide +kernel
theorem dX10_sends_45 : decode cX10_sends 45 = .ok (.iconst 2, 1) := by decide +kernel
theorem dX10_sends_46 : decode cX10_sends 46 = .ok (.iadd, 1) := by decide +kernel
theorem dX10_sends_47 : decode cX10_sends 47 = .ok (.iload 7, 2) := by decide +kernel
theorem dX10_sends_49 : decode cX10_sends 49 = .ok (.iadd, 1) := by decide +kernel
theorem dX10_sends_50 : decode cX10_sends 50 = .ok (.iload 5, 2) := by decide +kernel
theorem dX10_sends_52 : decode cX10_sends 52 = .ok (.ifCond .lt 16, 3) := by decide +kernel
theorem dX10_sends_55 : decode cX10_sends 55 = .ok (.aload_n 0, 1) := by decide +kernel
theorem dX10_sends_56 : decode cX10_sends 56 = .ok (.getfield 31, 3) := by decide +kernel
theorem dX10_sends_59 : decode cX10_sends 59 = .ok (.iload 5, 2) := by decide +kernel
theorem dX10_sends_61 : decode cX10_sends 61 = .ok (.iload 7, 2) := by decide +kernel
theorem dX10_sends_63 : decode cX10_sends 63 = .ok (.iadd, 1) := by decide +kernel
theorem dX10_sends_64 : decode cX10_sends 64 = .ok (.iaload, 1) := by decide +kernel
theorem dX10_sends_65 : decode cX10_sends 65 = .ok (.goto 4, 3) := by decide +kernel
theorem dX10_sends_68 : decode cX10_sends 68 = .ok (.iconst 0, 1) := by decide +kernel
theorem dX10_sends_69 : decode cX10_sends 69 = .ok (.iastore, 1) := by decide +kernel
theorem dX10_sends_70 : decode cX10_sends 70 = .ok (.iinc 7 1, 3) := by decide +kernel
theorem dX10_sends_73 : decode cX10_sends 73 = .ok (.goto (-41), 3) := by decide +kernel
theorem dX10_sends_76 : decode cX10_sends 76 = .ok (.aload_n 0, 1) := by decide +kernel
theorem dX10_sends_77 : decode cX10_sends 77 = .ok (.getfield 68, 3) := by decide +kernel
theorem dX10_sends_80 : decode cX10_sends 80 = .ok (.iload 6, 2) := by decide +kernel
theorem dX10_sends_82 : decode cX10_sends 82 = .ok (.iconst 0, 1) := by decide +kernel
theorem dX10_sends_83 : decode cX10_sends 83 = .ok (.iadd, 1) := by decide +kernel
theorem dX10_sends_84 : decode cX10_sends 84 = .ok (.iload_n 1, 1) := by decide +kernel
theorem dX10_sends_85 : decode cX10_sends 85 = .ok (.iconst 1, 1) := by decide +kernel
theorem dX10_sends_86 : decode cX10_sends 86 = .ok (.ixor, 1) := by decide +kernel
theorem dX10_sends_87 : decode cX10_sends 87 = .ok (.iastore, 1) := by decide +kernel
theorem dX10_sends_88 : decode cX10_sends 88 = .ok (.aload_n 0, 1) := by decide +kernel
theorem dX10_sends_89 : decode cX10_sends 89 = .ok (.getfield 68, 3) := by decide +kernel
theorem dX10_sends_92 : decode cX10_sends 92 = .ok (.iload 6, 2) := by decide +kernel
theorem dX10_sends_94 : decode cX10_sends 94 = .ok (.iconst 1, 1) := by decide +kernel
theorem dX10_sends_95 : decode cX10_sends 95 = .ok (.iadd, 1) := by decide +kernel
theorem dX10_sends_96 : decode cX10_sends 96 = .ok (.iload_n 2, 1) := by decide +kernel
theorem dX10_sends_97 : decode cX10_sends 97 = .ok (.iastore, 1) := by decide +kernel
theorem dX10_sends_98 : decode cX10_sends 98 = .ok (.aload_n 0, 1) := by decide +kernel
theorem dX10_sends_99 : decode cX10_sends 99 = .ok (.getfield 68, 3) := by decide +kernel
theorem dX10_sends_102 : decode cX10_sends 102 = .ok (.iload 6, 2) := by decide +kernel
theorem dX10_sends_104 : decode cX10_sends 104 = .ok (.iconst 2, 1) := by decide +kernel
theorem dX10_sends_105 : decode cX10_sends 105 = .ok (.iadd, 1) := by decide +kernel
theorem dX10_sends_106 : decode cX10_sends 106 = .ok (.iload_n 3, 1) := by decide +kernel
theorem dX10_sends_107 : decode cX10_sends 107 = .ok (.iastore, 1) := by decide +kernel
theorem dX10_sends_108 : decode cX10_sends 108 = .ok (.aload_n 0, 1) := by decide +kernel
theorem dX10_sends_109 : decode cX10_sends 109 = .ok (.getfield 68, 3) := by decide +kernel
theorem dX10_sends_112 : decode cX10_sends 112 = .ok (.iload 6, 2) := by decide +kernel
theorem dX10_sends_114 : decode cX10_sends 114 = .ok (.bipush 8, 2) := by decide +kernel
theorem dX10_sends_116 : decode cX10_sends 116 = .ok (.iadd, 1) := by decide +kernel
theorem dX10_sends_117 : decode cX10_sends 117 = .ok (.iload 4, 2) := by decide +kernel
theorem dX10_sends_119 : decode cX10_sends 119 = .ok (.iastore, 1) := by decide +kernel
theorem dX10_sends_120 : decode cX10_sends 120 = .ok (.aload_n 0, 1) := by decide +kernel
theorem dX10_sends_121 : decode cX10_sends 121 = .ok (.getfield 68, 3) := by decide +kernel
theorem dX10_sends_124 : decode cX10_sends 124 = .ok (.iload 6, 2) := by decide +kernel
theorem dX10_sends_126 : decode cX10_sends 126 = .ok (.bipush 9, 2) := by decide +kernel
theorem dX10_sends_128 : decode cX10_sends 128 = .ok (.iadd, 1) := by decide +kernel
theorem dX10_sends_129 : decode cX10_sends 129 = .ok (.aload_n 0, 1) := by decide +kernel
theorem dX10_sends_130 : decode cX10_sends 130 = .ok (.getfield 109, 3) := by decide +kernel
theorem dX10_sends_133 : decode cX10_sends 133 = .ok (.aload_n 0, 1) := by decide +kernel
theorem dX10_sends_134 : decode cX10_sends 134 = .ok (.getfield 65, 3) := by decide +kernel
theorem dX10_sends_137 : decode cX10_sends 137 = .ok (.iload_n 1, 1) := by decide +kernel
theorem dX10_sends_138 : decode cX10_sends 138 = .ok (.iconst 2, 1) := by decide +kernel
theorem dX10_sends_139 : decode cX10_sends 139 = .ok (.idiv, 1) := by decide +kernel
theorem dX10_sends_140 : decode cX10_sends 140 = .ok (.iaload, 1) := by decide +kernel
theorem dX10_sends_141 : decode cX10_sends 141 = .ok (.iadd, 1) := by decide +kernel
theorem dX10_sends_142 : decode cX10_sends 142 = .ok (.iastore, 1) := by decide +kernel
theorem dX10_sends_143 : decode cX10_sends 143 = .ok (.aload_n 0, 1) := by decide +kernel
theorem dX10_sends_144 : decode cX10_sends 144 = .ok (.getfield 68, 3) := by decide +kernel
theorem dX10_sends_147 : decode cX10_sends 147 = .ok (.iload 6, 2) := by decide +kernel
theorem dX10_sends_149 : decode cX10_sends 149 = .ok (.bipush 10, 2) := by decide +kernel
theorem dX10_sends_151 : decode cX10_sends 151 = .ok (.iadd, 1) := by decide +kernel
theorem dX10_sends_152 : decode cX10_sends 152 = .ok (.aload_n 0, 1) := by decide +kernel
theorem dX10_sends_153 : decode cX10_sends 153 = .ok (.getfield 228, 3) := by decide +kernel
theorem dX10_sends_156 : decode cX10_sends 156 = .ok (.iastore, 1) := by decide +kernel
theorem dX10_sends_157 : decode cX10_sends 157 = .ok (.aload_n 0, 1) := by decide +kernel
theorem dX10_sends_158 : decode cX10_sends 158 = .ok (.dup, 1) := by decide +kernel
theorem dX10_sends_159 : decode cX10_sends 159 = .ok (.getfield 228, 3) := by decide +kernel
theorem dX10_sends_162 : decode cX10_sends 162 = .ok (.iconst 1, 1) := by decide +kernel
theorem dX10_sends_163 : decode cX10_sends 163 = .ok (.iadd, 1) := by decide +kernel
theorem dX10_sends_164 : decode cX10_sends 164 = .ok (.putfield 228, 3) := by decide +kernel
theorem dX10_sends_167 : decode cX10_sends 167 = .ok (.aload_n 0, 1) := by decide +kernel
theorem dX10_sends_168 : decode cX10_sends 168 = .ok (.dup, 1) := by decide +kernel
theorem dX10_sends_169 : decode cX10_sends 169 = .ok (.getfield 113, 3) := by decide +kernel
theorem dX10_sends_172 : decode cX10_sends 172 = .ok (.iconst 1, 1) := by decide +kernel
theorem dX10_sends_173 : decode cX10_sends 173 = .ok (.iadd, 1) := by decide +kernel
theorem dX10_sends_174 : decode cX10_sends 174 = .ok (.putfield 113, 3) := by decide +kernel
theorem dX10_sends_177 : decode cX10_sends 177 = .ok (.return_, 1) := by decide +kernel
theorem dX10_firstPacket_0 : decode cX10_firstPacket 0 = .ok (.iconst 0, 1) := by decide +kernel
theorem dX10_firstPacket_1 : decode cX10_firstPacket 1 = .ok (.istore_n 1, 1) := by decide +kernel
theorem dX10_firstPacket_2 : decode cX10_firstPacket 2 = .ok (.iconst 1, 1) := by decide +kernel
theorem dX10_firstPacket_3 : decode cX10_firstPacket 3 = .ok (.istore_n 2, 1) := by decide +kernel
theorem dX10_firstPacket_4 : decode cX10_firstPacket 4 = .ok (.iload_n 2, 1) := by decide +kernel
theorem dX10_firstPacket_5 : decode cX10_firstPacket 5 = .ok (.aload_n 0, 1) := by decide +kernel
theorem dX10_firstPacket_6 : decode cX10_firstPacket 6 = .ok (.getfield 113, 3) := by decide +kernel
theorem dX10_firstPacket_9 : decode cX10_firstPacket 9 = .ok (.if_icmp .ge 76, 3) := by decide +kernel
theorem dX10_firstPacket_12 : decode cX10_firstPacket 12 = .ok (.aload_n 0, 1) := by decide +kernel
theorem dX10_firstPacket_13 : decode cX10_firstPacket 13 = .ok (.getfield 68, 3) := by decide +kernel
theorem dX10_firstPacket_16 : decode cX10_firstPacket 16 = .ok (.bipush 11, 2) := by decide +kernel
theorem dX10_firstPacket_18 : decode cX10_firstPacket 18 = .ok (.iload_n 2, 1) := by decide +kernel
theorem dX10_firstPacket_19 : decode cX10_firstPacket 19 = .ok (.imul, 1) := by decide +kernel
theorem dX10_firstPacket_20 : decode cX10_firstPacket 20 = .ok (.bipush 9, 2) := by decide +kernel
theorem dX10_firstPacket_22 : decode cX10_firstPacket 22 = .ok (.iadd, 1) := by decide +kernel
theorem dX10_firstPacket_23 : decode cX10_firstPacket 23 = .ok (.iaload, 1) := by decide +kernel
theorem dX10_firstPacket_24 : decode cX10_firstPacket 24 = .ok (.aload_n 0, 1) := by decide +kernel
theorem dX10_firstPacket_25 : decode cX10_firstPacket 25 = .ok (.getfield 68, 3) := by decide +kernel
theorem dX10_firstPacket_28 : decode cX10_firstPacket 28 = .ok (.bipush 11, 2) := by decide +kernel
theorem dX10_firstPacket_30 : decode cX10_firstPacket 30 = .ok (.iload_n 1, 1) := by decide +kernel
theorem dX10_firstPacket_31 : decode cX10_firstPacket 31 = .ok (.imul, 1) := by decide +kernel
theorem dX10_firstPacket_32 : decode cX10_firstPacket 32 = .ok (.bipush 9, 2) := by decide +kernel
theorem dX10_firstPacket_34 : decode cX10_firstPacket 34 = .ok (.iadd, 1) := by decide +kernel
theorem dX10_firstPacket_35 : decode cX10_firstPacket 35 = .ok (.iaload, 1) := by decide +kernel
theorem dX10_firstPacket_36 : decode cX10_firstPacket 36 = .ok (.isub, 1) := by decide +kernel
theorem dX10_firstPacket_37 : decode cX10_firstPacket 37 = .ok (.istore_n 3, 1) := by decide +kernel
theorem dX10_firstPacket_38 : decode cX10_firstPacket 38 = .ok (.iload_n 3, 1) := by decide +kernel
theorem dX10_firstPacket_39 : decode cX10_firstPacket 39 = .ok (.ifCond .lt 34, 3) := by decide +kernel
theorem dX10_firstPacket_42 : decode cX10_firstPacket 42 = .ok (.iload_n 3, 1) := by decide +kernel
theorem dX10_firstPacket_43 : decode cX10_firstPacket 43 = .ok (.ifCond .ne 34, 3) := by decide +kernel
theorem dX10_firstPacket_46 : decode cX10_firstPacket 46 = .ok (.aload_n 0, 1) := by decide +kernel
theorem dX10_firstPacket_47 : decode cX10_firstPacket 47 = .ok (.getfield 68, 3) := by decide +kernel
theorem dX10_firstPacket_50 : decode cX10_firstPacket 50 = .ok (.bipush 11, 2) := by decide +kernel
theorem dX10_firstPacket_52 : decode cX10_firstPacket 52 = .ok (.iload_n 2, 1) := by decide +kernel
theorem dX10_firstPacket_53 : decode cX10_firstPacket 53 = .ok (.imul, 1) := by decide +kernel
theorem dX10_firstPacket_54 : decode cX10_firstPacket 54 = .ok (.bipush 10, 2) := by decide +kernel
theorem dX10_firstPacket_56 : decode cX10_firstPacket 56 = .ok (.iadd, 1) := by decide +kernel
theorem dX10_firstPacket_57 : decode cX10_firstPacket 57 = .ok (.iaload, 1) := by decide +kernel
theorem dX10_firstPacket_58 : decode cX10_firstPacket 58 = .ok (.aload_n 0, 1) := by decide +kernel
theorem dX10_firstPacket_59 : decode cX10_firstPacket 59 = .ok (.getfield 68, 3) := by decide +kernel
theorem dX10_firstPacket_62 : decode cX10_firstPacket 62 = .ok (.bipush 11, 2) := by decide +kernel
theorem dX10_firstPacket_64 : decode cX10_firstPacket 64 = .ok (.iload_n 1, 1) := by decide +kernel
theorem dX10_firstPacket_65 : decode cX10_firstPacket 65 = .ok (.imul, 1) := by decide +kernel
theorem dX10_firstPacket_66 : decode cX10_firstPacket 66 = .ok (.bipush 10, 2) := by decide +kernel
theorem dX10_firstPacket_68 : decode cX10_firstPacket 68 = .ok (.iadd, 1) := by decide +kernel
theorem dX10_firstPacket_69 : decode cX10_firstPacket 69 = .ok (.iaload, 1) := by decide +kernel
theorem dX10_firstPacket_70 : decode cX10_firstPacket 70 = .ok (.if_icmp .ge 7, 3) := by decide +kernel
theorem dX10_firstPacket_73 : decode cX10_firstPacket 73 = .ok (.iload_n 2, 1) := by decide +kernel
theorem dX10_firstPacket_74 : decode cX10_firstPacket 74 = .ok (.goto 4, 3) := by decide +kernel
theorem dX10_firstPacket_77 : decode cX10_firstPacket 77 = .ok (.iload_n 1, 1) := by decide +kernel
theorem dX10_firstPacket_78 : decode cX10_firstPacket 78 = .ok (.istore_n 1, 1) := by decide +kernel
theorem dX10_firstPacket_79 : decode cX10_firstPacket 79 = .ok (.iinc 2 1, 3) := by decide +kernel
theorem dX10_firstPacket_82 : decode cX10_firstPacket 82 = .ok (.goto (-78), 3) := by decide +kernel
theorem dX10_firstPacket_85 : decode cX10_firstPacket 85 = .ok (.iload_n 1, 1) := by decide +kernel
theorem dX10_firstPacket_86 : decode cX10_firstPacket 86 = .ok (.ireturn, 1) := by decide +kernel
theorem dX10_step_0 : decode cX10_step 0 = .ok (.iload_n 1, 1) := by decide +kernel
theorem dX10_step_1 : decode cX10_step 1 = .ok (.i2l, 1) := by decide +kernel
theorem dX10_step_2 : decode cX10_step 2 = .ok (.lconst 0, 1) := by decide +kernel
theorem dX10_step_3 : decode cX10_step 3 = .ok (.ldc2_w 209, 3) := by decide +kernel
theorem dX10_step_6 : decode cX10_step 6 = .ok (.invokestatic 95, 3) := by decide +kernel
theorem dX10_step_9 : decode cX10_step 9 = .ok (.ifCond .ne 7, 3) := by decide +kernel
theorem dX10_step_12 : decode cX10_step 12 = .ok (.sipush (-1002), 3) := by decide +kernel
theorem dX10_step_15 : decode cX10_step 15 = .ok (.ireturn, 1) := by decide +kernel
theorem dX10_step_16 : decode cX10_step 16 = .ok (.aload_n 0, 1) := by decide +kernel
theorem dX10_step_17 : decode cX10_step 17 = .ok (.getfield 113, 3) := by decide +kernel
theorem dX10_step_20 : decode cX10_step 20 = .ok (.ifCond .ne 7, 3) := by decide +kernel
theorem dX10_step_23 : decode cX10_step 23 = .ok (.sipush (-1003), 3) := by decide +kernel
theorem dX10_step_26 : decode cX10_step 26 = .ok (.ireturn, 1) := by decide +kernel
theorem dX10_step_27 : decode cX10_step 27 = .ok (.aload_n 0, 1) := by decide +kernel
theorem dX10_step_28 : decode cX10_step 28 = .ok (.invokevirtual 231, 3) := by decide +kernel
theorem dX10_step_31 : decode cX10_step 31 = .ok (.istore_n 2, 1) := by decide +kernel
theorem dX10_step_32 : decode cX10_step 32 = .ok (.iconst 0, 1) := by decide +kernel
theorem dX10_step_33 : decode cX10_step 33 = .ok (.istore_n 3, 1) := by decide +kernel
theorem dX10_step_34 : decode cX10_step 34 = .ok (.iload_n 3, 1) := by decide +kernel
theorem dX10_step_35 : decode cX10_step 35 = .ok (.bipush 11, 2) := by decide +kernel
theorem dX10_step_37 : decode cX10_step 37 = .ok (.if_icmp .ge 26, 3) := by decide +kernel
theorem dX10_step_40 : decode cX10_step 40 = .ok (.aload_n 0, 1) := by decide +kernel
theorem dX10_step_41 : decode cX10_step 41 = .ok (.getfield 92, 3) := by decide +kernel
theorem dX10_step_44 : decode cX10_step 44 = .ok (.iload_n 3, 1) := by decide +kernel
theorem dX10_step_45 : decode cX10_step 45 = .ok (.aload_n 0, 1) := by decide +kernel
theorem dX10_step_46 : decode cX10_step 46 = .ok (.getfield 68, 3) := by decide +kernel
theorem dX10_step_49 : decode cX10_step 49 = .ok (.bipush 11, 2) := by decide +kernel
theorem dX10_step_51 : decode cX10_step 51 = .ok (.iload_n 2, 1) := by decide +kernel
theorem dX10_step_52 : decode cX10_step 52 = .ok (.imul, 1) := by decide +kernel
theorem dX10_step_53 : decode cX10_step 53 = .ok (.iload_n 3, 1) := by decide +kernel
theorem dX10_step_54 : decode cX10_step 54 = .ok (.iadd, 1) := by decide +kernel
theorem dX10_step_55 : decode cX10_step 55 = .ok (.iaload, 1) := by decide +kernel
theorem dX10_step_56 : decode cX10_step 56 = .ok (.iastore, 1) := by decide +kernel
theorem dX10_step_57 : decode cX10_step 57 = .ok (.iinc 3 1, 3) := by decide +kernel
theorem dX10_step_60 : decode cX10_step 60 = .ok (.goto (-26), 3) := by decide +kernel
theorem dX10_step_63 : decode cX10_step 63 = .ok (.aload_n 0, 1) := by decide +kernel
theorem dX10_step_64 : decode cX10_step 64 = .ok (.dup, 1) := by decide +kernel
theorem dX10_step_65 : decode cX10_step 65 = .ok (.getfield 113, 3) := by decide +kernel
theorem dX10_step_68 : decode cX10_step 68 = .ok (.iconst 1, 1) := by decide +kernel
theorem dX10_step_69 : decode cX10_step 69 = .ok (.isub, 1) := by decide +kernel
theorem dX10_step_70 : decode cX10_step 70 = .ok (.putfield 113, 3) := by decide +kernel
theorem dX10_step_73 : decode cX10_step 73 = .ok (.iload_n 2, 1) := by decide +kernel
theorem dX10_step_74 : decode cX10_step 74 = .ok (.istore_n 3, 1) := by decide +kernel
theorem dX10_step_75 : decode cX10_step 75 = .ok (.iload_n 3, 1) := by decide +kernel
theorem dX10_step_76 : decode cX10_step 76 = .ok (.aload_n 0, 1) := by decide +kernel
theorem dX10_step_77 : decode cX10_step 77 = .ok (.getfield 113, 3) := by decide +kernel
theorem dX10_step_80 : decode cX10_step 80 = .ok (.if_icmp .ge 17, 3) := by decide +kernel
theorem dX10_step_83 : decode cX10_step 83 = .ok (.aload_n 0, 1) := by decide +kernel
theorem dX10_step_84 : decode cX10_step 84 = .ok (.iload_n 3, 1) := by decide +kernel
theorem dX10_step_85 : decode cX10_step 85 = .ok (.iconst 1, 1) := by decide +kernel
theorem dX10_step_86 : decode cX10_step 86 = .ok (.iadd, 1) := by decide +kernel
theorem dX10_step_87 : decode cX10_step 87 = .ok (.iload_n 3, 1) := by decide +kernel
theorem dX10_step_88 : decode cX10_step 88 = .ok (.invokevirtual 214, 3) := by decide +kernel
theorem dX10_step_91 : decode cX10_step 91 = .ok (.iinc 3 1, 3) := by decide +kernel
theorem dX10_step_94 : decode cX10_step 94 = .ok (.goto (-19), 3) := by decide +kernel
theorem dX10_step_97 : decode cX10_step 97 = .ok (.iload_n 1, 1) := by decide +kernel
theorem dX10_step_98 : decode cX10_step 98 = .ok (.iconst 1, 1) := by decide +kernel
theorem dX10_step_99 : decode cX10_step 99 = .ok (.if_icmp .ne 20, 3) := by decide +kernel
theorem dX10_step_102 : decode cX10_step 102 = .ok (.aload_n 0, 1) := by decide +kernel
theorem dX10_step_103 : decode cX10_step 103 = .ok (.dup, 1) := by decide +kernel
theorem dX10_step_104 : decode cX10_step 104 = .ok (.getfield 123, 3) := by decide +kernel
theorem dX10_step_107 : decode cX10_step 107 = .ok (.iconst 1, 1) := by decide +kernel
theorem dX10_step_108 : decode cX10_step 108 = .ok (.iadd, 1) := by decide +kernel
theorem dX10_step_109 : decode cX10_step 109 = .ok (.putfield 123, 3) := by decide +kernel
theorem dX10_step_112 : decode cX10_step 112 = .ok (.aload_n 0, 1) := by decide +kernel
theorem dX10_step_113 : decode cX10_step 113 = .ok (.getfield 92, 3) := by decide +kernel
theorem dX10_step_116 : decode cX10_step 116 = .ok (.iconst 0, 1) := by decide +kernel
theorem dX10_step_117 : decode cX10_step 117 = .ok (.iaload, 1) := by decide +kernel
theorem dX10_step_118 : decode cX10_step 118 = .ok (.ireturn, 1) := by decide +kernel
theorem dX10_step_119 : decode cX10_step 119 = .ok (.aload_n 0, 1) := by decide +kernel
theorem dX10_step_120 : decode cX10_step 120 = .ok (.aload_n 0, 1) := by decide +kernel
theorem dX10_step_121 : decode cX10_step 121 = .ok (.getfield 92, 3) := by decide +kernel
theorem dX10_step_124 : decode cX10_step 124 = .ok (.bipush 9, 2) := by decide +kernel
theorem dX10_step_126 : decode cX10_step 126 = .ok (.iaload, 1) := by decide +kernel
theorem dX10_step_127 : decode cX10_step 127 = .ok (.aload_n 0, 1) := by decide +kernel
theorem dX10_step_128 : decode cX10_step 128 = .ok (.getfield 109, 3) := by decide +kernel
theorem dX10_step_131 : decode cX10_step 131 = .ok (.if_icmp .le 13, 3) := by decide +kernel
theorem dX10_step_134 : decode cX10_step 134 = .ok (.aload_n 0, 1) := by decide +kernel
theorem dX10_step_135 : decode cX10_step 135 = .ok (.getfield 92, 3) := by decide +kernel
theorem dX10_step_138 : decode cX10_step 138 = .ok (.bipush 9, 2) := by decide +kernel
theorem dX10_step_140 : decode cX10_step 140 = .ok (.iaload, 1) := by decide +kernel
theorem dX10_step_141 : decode cX10_step 141 = .ok (.goto 7, 3) := by decide +kernel
theorem dX10_step_144 : decode cX10_step 144 = .ok (.aload_n 0, 1) := by decide +kernel
theorem dX10_step_145 : decode cX10_step 145 = .ok (.getfield 109, 3) := by decide +kernel
theorem dX10_step_148 : decode cX10_step 148 = .ok (.putfield 109, 3) := by decide +kernel
theorem dX10_step_151 : decode cX10_step 151 = .ok (.iload_n 1, 1) := by decide +kernel
theorem dX10_step_152 : decode cX10_step 152 = .ok (.iconst 2, 1) := by decide +kernel
theorem dX10_step_153 : decode cX10_step 153 = .ok (.if_icmp .ne 109, 3) := by decide +kernel
theorem dX10_step_156 : decode cX10_step 156 = .ok (.iconst 0, 1) := by decide +kernel
theorem dX10_step_157 : decode cX10_step 157 = .ok (.istore_n 3, 1) := by decide +kernel
theorem dX10_step_158 : decode cX10_step 158 = .ok (.iload_n 3, 1) := by decide +kernel
theorem dX10_step_159 : decode cX10_step 159 = .ok (.bipush 11, 2) := by decide +kernel
theorem dX10_step_161 : decode cX10_step 161 = .ok (.if_icmp .ge 29, 3) := by decide +kernel
theorem dX10_step_164 : decode cX10_step 164 = .ok (.aload_n 0, 1) := by decide +kernel
end
section
theorem dX10_step_165 : decode cX10_step 165 = .ok (.getfield 68, 3) := by decide +kernel
theorem dX10_step_168 : decode cX10_step 168 = .ok (.bipush 11, 2) := by decide +kernel
theorem dX10_step_170 : decode cX10_step 170 = .ok (.aload_n 0, 1) := by decide +kernel
theorem dX10_step_171 : decode cX10_step 171 = .ok (.getfield 113, 3) := by decide +kernel
theorem dX10_step_174 : decode cX10_step 174 = .ok (.imul, 1) := by decide +kernel
theorem dX10_step_175 : decode cX10_step 175 = .ok (.iload_n 3, 1) := by decide +kernel
theorem dX10_step_176 : decode cX10_step 176 = .ok (.iadd, 1) := by decide +kernel
theorem dX10_step_177 : decode cX10_step 177 = .ok (.aload_n 0, 1) := by decide +kernel
theorem dX10_step_178 : decode cX10_step 178 = .ok (.getfield 92, 3) := by decide +kernel
theorem dX10_step_181 : decode cX10_step 181 = .ok (.iload_n 3, 1) := by decide +kernel
theorem dX10_step_182 : decode cX10_step 182 = .ok (.iaload, 1) := by decide +kernel
theorem dX10_step_183 : decode cX10_step 183 = .ok (.iastore, 1) := by decide +kernel
theorem dX10_step_184 : decode cX10_step 184 = .ok (.iinc 3 1, 3) := by decide +kernel
theorem dX10_step_187 : decode cX10_step 187 = .ok (.goto (-29), 3) := by decide +kernel
theorem dX10_step_190 : decode cX10_step 190 = .ok (.aload_n 0, 1) := by decide +kernel
theorem dX10_step_191 : decode cX10_step 191 = .ok (.getfield 68, 3) := by decide +kernel
theorem dX10_step_194 : decode cX10_step 194 = .ok (.bipush 11, 2) := by decide +kernel
theorem dX10_step_196 : decode cX10_step 196 = .ok (.aload_n 0, 1) := by decide +kernel
theorem dX10_step_197 : decode cX10_step 197 = .ok (.getfield 113, 3) := by decide +kernel
theorem dX10_step_200 : decode cX10_step 200 = .ok (.imul, 1) := by decide +kernel
theorem dX10_step_201 : decode cX10_step 201 = .ok (.bipush 9, 2) := by decide +kernel
theorem dX10_step_203 : decode cX10_step 203 = .ok (.iadd, 1) := by decide +kernel
theorem dX10_step_204 : decode cX10_step 204 = .ok (.aload_n 0, 1) := by decide +kernel
theorem dX10_step_205 : decode cX10_step 205 = .ok (.getfield 109, 3) := by decide +kernel
theorem dX10_step_208 : decode cX10_step 208 = .ok (.aload_n 0, 1) := by decide +kernel
theorem dX10_step_209 : decode cX10_step 209 = .ok (.getfield 65, 3) := by decide +kernel
theorem dX10_step_212 : decode cX10_step 212 = .ok (.aload_n 0, 1) := by decide +kernel
theorem dX10_step_213 : decode cX10_step 213 = .ok (.getfield 92, 3) := by decide +kernel
theorem dX10_step_216 : decode cX10_step 216 = .ok (.iconst 0, 1) := by decide +kernel
theorem dX10_step_217 : decode cX10_step 217 = .ok (.iaload, 1) := by decide +kernel
theorem dX10_step_218 : decode cX10_step 218 = .ok (.iconst 2, 1) := by decide +kernel
theorem dX10_step_219 : decode cX10_step 219 = .ok (.idiv, 1) := by decide +kernel
theorem dX10_step_220 : decode cX10_step 220 = .ok (.iaload, 1) := by decide +kernel
theorem dX10_step_221 : decode cX10_step 221 = .ok (.iadd, 1) := by decide +kernel
theorem dX10_step_222 : decode cX10_step 222 = .ok (.iastore, 1) := by decide +kernel
theorem dX10_step_223 : decode cX10_step 223 = .ok (.aload_n 0, 1) := by decide +kernel
theorem dX10_step_224 : decode cX10_step 224 = .ok (.getfield 68, 3) := by decide +kernel
theorem dX10_step_227 : decode cX10_step 227 = .ok (.bipush 11, 2) := by decide +kernel
theorem dX10_step_229 : decode cX10_step 229 = .ok (.aload_n 0, 1) := by decide +kernel
theorem dX10_step_230 : decode cX10_step 230 = .ok (.getfield 113, 3) := by decide +kernel
theorem dX10_step_233 : decode cX10_step 233 = .ok (.imul, 1) := by decide +kernel
theorem dX10_step_234 : decode cX10_step 234 = .ok (.bipush 10, 2) := by decide +kernel
theorem dX10_step_236 : decode cX10_step 236 = .ok (.iadd, 1) := by decide +kernel
theorem dX10_step_237 : decode cX10_step 237 = .ok (.aload_n 0, 1) := by decide +kernel
theorem dX10_step_238 : decode cX10_step 238 = .ok (.getfield 228, 3) := by decide +kernel
theorem dX10_step_241 : decode cX10_step 241 = .ok (.iastore, 1) := by decide +kernel
theorem dX10_step_242 : decode cX10_step 242 = .ok (.aload_n 0, 1) := by decide +kernel
theorem dX10_step_243 : decode cX10_step 243 = .ok (.dup, 1) := by decide +kernel
theorem dX10_step_244 : decode cX10_step 244 = .ok (.getfield 228, 3) := by decide +kernel
theorem dX10_step_247 : decode cX10_step 247 = .ok (.iconst 1, 1) := by decide +kernel
theorem dX10_step_248 : decode cX10_step 248 = .ok (.iadd, 1) := by decide +kernel
theorem dX10_step_249 : decode cX10_step 249 = .ok (.putfield 228, 3) := by decide +kernel
theorem dX10_step_252 : decode cX10_step 252 = .ok (.aload_n 0, 1) := by decide +kernel
theorem dX10_step_253 : decode cX10_step 253 = .ok (.dup, 1) := by decide +kernel
theorem dX10_step_254 : decode cX10_step 254 = .ok (.getfield 113, 3) := by decide +kernel
theorem dX10_step_257 : decode cX10_step 257 = .ok (.iconst 1, 1) := by decide +kernel
theorem dX10_step_258 : decode cX10_step 258 = .ok (.iadd, 1) := by decide +kernel
theorem dX10_step_259 : decode cX10_step 259 = .ok (.putfield 113, 3) := by decide +kernel
theorem dX10_step_262 : decode cX10_step 262 = .ok (.aload_n 0, 1) := by decide +kernel
theorem dX10_step_263 : decode cX10_step 263 = .ok (.getfield 92, 3) := by decide +kernel
theorem dX10_step_266 : decode cX10_step 266 = .ok (.iconst 0, 1) := by decide +kernel
theorem dX10_step_267 : decode cX10_step 267 = .ok (.iaload, 1) := by decide +kernel
theorem dX10_step_268 : decode cX10_step 268 = .ok (.istore_n 3, 1) := by decide +kernel
theorem dX10_step_269 : decode cX10_step 269 = .ok (.aload_n 0, 1) := by decide +kernel
theorem dX10_step_270 : decode cX10_step 270 = .ok (.getfield 22, 3) := by decide +kernel
theorem dX10_step_273 : decode cX10_step 273 = .ok (.iload_n 3, 1) := by decide +kernel
theorem dX10_step_274 : decode cX10_step 274 = .ok (.iaload, 1) := by decide +kernel
theorem dX10_step_275 : decode cX10_step 275 = .ok (.iconst 1, 1) := by decide +kernel
theorem dX10_step_276 : decode cX10_step 276 = .ok (.if_icmp .ne 49, 3) := by decide +kernel
theorem dX10_step_279 : decode cX10_step 279 = .ok (.aload_n 0, 1) := by decide +kernel
theorem dX10_step_280 : decode cX10_step 280 = .ok (.getfield 92, 3) := by decide +kernel
theorem dX10_step_283 : decode cX10_step 283 = .ok (.iconst 1, 1) := by decide +kernel
theorem dX10_step_284 : decode cX10_step 284 = .ok (.iaload, 1) := by decide +kernel
theorem dX10_step_285 : decode cX10_step 285 = .ok (.ifCond .ne 23, 3) := by decide +kernel
theorem dX10_step_288 : decode cX10_step 288 = .ok (.aload_n 0, 1) := by decide +kernel
theorem dX10_step_289 : decode cX10_step 289 = .ok (.iload_n 3, 1) := by decide +kernel
theorem dX10_step_290 : decode cX10_step 290 = .ok (.aload_n 0, 1) := by decide +kernel
theorem dX10_step_291 : decode cX10_step 291 = .ok (.getfield 92, 3) := by decide +kernel
theorem dX10_step_294 : decode cX10_step 294 = .ok (.iconst 2, 1) := by decide +kernel
theorem dX10_step_295 : decode cX10_step 295 = .ok (.iaload, 1) := by decide +kernel
theorem dX10_step_296 : decode cX10_step 296 = .ok (.aload_n 0, 1) := by decide +kernel
theorem dX10_step_297 : decode cX10_step 297 = .ok (.getfield 92, 3) := by decide +kernel
theorem dX10_step_300 : decode cX10_step 300 = .ok (.iconst 3, 1) := by decide +kernel
theorem dX10_step_301 : decode cX10_step 301 = .ok (.iaload, 1) := by decide +kernel
theorem dX10_step_302 : decode cX10_step 302 = .ok (.invokevirtual 234, 3) := by decide +kernel
theorem dX10_step_305 : decode cX10_step 305 = .ok (.goto 20, 3) := by decide +kernel
theorem dX10_step_308 : decode cX10_step 308 = .ok (.aload_n 0, 1) := by decide +kernel
theorem dX10_step_309 : decode cX10_step 309 = .ok (.iload_n 3, 1) := by decide +kernel
theorem dX10_step_310 : decode cX10_step 310 = .ok (.aload_n 0, 1) := by decide +kernel
theorem dX10_step_311 : decode cX10_step 311 = .ok (.getfield 92, 3) := by decide +kernel
theorem dX10_step_314 : decode cX10_step 314 = .ok (.iconst 2, 1) := by decide +kernel
theorem dX10_step_315 : decode cX10_step 315 = .ok (.iaload, 1) := by decide +kernel
theorem dX10_step_316 : decode cX10_step 316 = .ok (.aload_n 0, 1) := by decide +kernel
theorem dX10_step_317 : decode cX10_step 317 = .ok (.getfield 92, 3) := by decide +kernel
theorem dX10_step_320 : decode cX10_step 320 = .ok (.iconst 1, 1) := by decide +kernel
theorem dX10_step_321 : decode cX10_step 321 = .ok (.iaload, 1) := by decide +kernel
theorem dX10_step_322 : decode cX10_step 322 = .ok (.invokevirtual 238, 3) := by decide +kernel
theorem dX10_step_325 : decode cX10_step 325 = .ok (.iload_n 3, 1) := by decide +kernel
theorem dX10_step_326 : decode cX10_step 326 = .ok (.ireturn, 1) := by decide +kernel
theorem dX10_tells_0 : decode cX10_tells 0 = .ok (.iload_n 1, 1) := by decide +kernel
theorem dX10_tells_1 : decode cX10_tells 1 = .ok (.iconst 2, 1) := by decide +kernel
theorem dX10_tells_2 : decode cX10_tells 2 = .ok (.irem, 1) := by decide +kernel
theorem dX10_tells_3 : decode cX10_tells 3 = .ok (.istore 6, 2) := by decide +kernel
theorem dX10_tells_5 : decode cX10_tells 5 = .ok (.iconst 5, 1) := by decide +kernel
theorem dX10_tells_6 : decode cX10_tells 6 = .ok (.sipush 600, 3) := by decide +kernel
theorem dX10_tells_9 : decode cX10_tells 9 = .ok (.iload 6, 2) := by decide +kernel
theorem dX10_tells_11 : decode cX10_tells 11 = .ok (.imul, 1) := by decide +kernel
theorem dX10_tells_12 : decode cX10_tells 12 = .ok (.aload_n 0, 1) := by decide +kernel
theorem dX10_tells_13 : decode cX10_tells 13 = .ok (.getfield 77, 3) := by decide +kernel
theorem dX10_tells_16 : decode cX10_tells 16 = .ok (.iload 6, 2) := by decide +kernel
theorem dX10_tells_18 : decode cX10_tells 18 = .ok (.iaload, 1) := by decide +kernel
theorem dX10_tells_19 : decode cX10_tells 19 = .ok (.iadd, 1) := by decide +kernel
theorem dX10_tells_20 : decode cX10_tells 20 = .ok (.imul, 1) := by decide +kernel
theorem dX10_tells_21 : decode cX10_tells 21 = .ok (.istore 7, 2) := by decide +kernel
theorem dX10_tells_23 : decode cX10_tells 23 = .ok (.aload_n 0, 1) := by decide +kernel
theorem dX10_tells_24 : decode cX10_tells 24 = .ok (.getfield 71, 3) := by decide +kernel
theorem dX10_tells_27 : decode cX10_tells 27 = .ok (.iload 7, 2) := by decide +kernel
theorem dX10_tells_29 : decode cX10_tells 29 = .ok (.iload_n 1, 1) := by decide +kernel
theorem dX10_tells_30 : decode cX10_tells 30 = .ok (.iastore, 1) := by decide +kernel
theorem dX10_tells_31 : decode cX10_tells 31 = .ok (.aload_n 0, 1) := by decide +kernel
theorem dX10_tells_32 : decode cX10_tells 32 = .ok (.getfield 71, 3) := by decide +kernel
theorem dX10_tells_35 : decode cX10_tells 35 = .ok (.iload 7, 2) := by decide +kernel
theorem dX10_tells_37 : decode cX10_tells 37 = .ok (.iconst 1, 1) := by decide +kernel
theorem dX10_tells_38 : decode cX10_tells 38 = .ok (.iadd, 1) := by decide +kernel
theorem dX10_tells_39 : decode cX10_tells 39 = .ok (.iload_n 2, 1) := by decide +kernel
theorem dX10_tells_40 : decode cX10_tells 40 = .ok (.iastore, 1) := by decide +kernel
theorem dX10_tells_41 : decode cX10_tells 41 = .ok (.aload_n 0, 1) := by decide +kernel
theorem dX10_tells_42 : decode cX10_tells 42 = .ok (.getfield 71, 3) := by decide +kernel
theorem dX10_tells_45 : decode cX10_tells 45 = .ok (.iload 7, 2) := by decide +kernel
theorem dX10_tells_47 : decode cX10_tells 47 = .ok (.iconst 2, 1) := by decide +kernel
theorem dX10_tells_48 : decode cX10_tells 48 = .ok (.iadd, 1) := by decide +kernel
theorem dX10_tells_49 : decode cX10_tells 49 = .ok (.iload_n 3, 1) := by decide +kernel
theorem dX10_tells_50 : decode cX10_tells 50 = .ok (.iastore, 1) := by decide +kernel
theorem dX10_tells_51 : decode cX10_tells 51 = .ok (.aload_n 0, 1) := by decide +kernel
theorem dX10_tells_52 : decode cX10_tells 52 = .ok (.getfield 71, 3) := by decide +kernel
theorem dX10_tells_55 : decode cX10_tells 55 = .ok (.iload 7, 2) := by decide +kernel
theorem dX10_tells_57 : decode cX10_tells 57 = .ok (.iconst 3, 1) := by decide +kernel
theorem dX10_tells_58 : decode cX10_tells 58 = .ok (.iadd, 1) := by decide +kernel
theorem dX10_tells_59 : decode cX10_tells 59 = .ok (.iload 4, 2) := by decide +kernel
theorem dX10_tells_61 : decode cX10_tells 61 = .ok (.iastore, 1) := by decide +kernel
theorem dX10_tells_62 : decode cX10_tells 62 = .ok (.aload_n 0, 1) := by decide +kernel
theorem dX10_tells_63 : decode cX10_tells 63 = .ok (.getfield 71, 3) := by decide +kernel
theorem dX10_tells_66 : decode cX10_tells 66 = .ok (.iload 7, 2) := by decide +kernel
theorem dX10_tells_68 : decode cX10_tells 68 = .ok (.iconst 4, 1) := by decide +kernel
theorem dX10_tells_69 : decode cX10_tells 69 = .ok (.iadd, 1) := by decide +kernel
theorem dX10_tells_70 : decode cX10_tells 70 = .ok (.iload 5, 2) := by decide +kernel
theorem dX10_tells_72 : decode cX10_tells 72 = .ok (.iastore, 1) := by decide +kernel
theorem dX10_tells_73 : decode cX10_tells 73 = .ok (.aload_n 0, 1) := by decide +kernel
theorem dX10_tells_74 : decode cX10_tells 74 = .ok (.getfield 77, 3) := by decide +kernel
theorem dX10_tells_77 : decode cX10_tells 77 = .ok (.iload 6, 2) := by decide +kernel
theorem dX10_tells_79 : decode cX10_tells 79 = .ok (.dup2, 1) := by decide +kernel
theorem dX10_tells_80 : decode cX10_tells 80 = .ok (.iaload, 1) := by decide +kernel
theorem dX10_tells_81 : decode cX10_tells 81 = .ok (.iconst 1, 1) := by decide +kernel
theorem dX10_tells_82 : decode cX10_tells 82 = .ok (.iadd, 1) := by decide +kernel
theorem dX10_tells_83 : decode cX10_tells 83 = .ok (.iastore, 1) := by decide +kernel
theorem dX10_tells_84 : decode cX10_tells 84 = .ok (.return_, 1) := by decide +kernel
theorem dX10_tellsOldest_0 : decode cX10_tellsOldest 0 = .ok (.bipush 28, 2) := by decide +kernel
theorem dX10_tellsOldest_2 : decode cX10_tellsOldest 2 = .ok (.iload_n 1, 1) := by decide +kernel
theorem dX10_tellsOldest_3 : decode cX10_tellsOldest 3 = .ok (.imul, 1) := by decide +kernel
theorem dX10_tellsOldest_4 : decode cX10_tellsOldest 4 = .ok (.istore 4, 2) := by decide +kernel
theorem dX10_tellsOldest_6 : decode cX10_tellsOldest 6 = .ok (.aload_n 0, 1) := by decide +kernel
theorem dX10_tellsOldest_7 : decode cX10_tellsOldest 7 = .ok (.iload_n 1, 1) := by decide +kernel
theorem dX10_tellsOldest_8 : decode cX10_tellsOldest 8 = .ok (.aload_n 0, 1) := by decide +kernel
theorem dX10_tellsOldest_9 : decode cX10_tellsOldest 9 = .ok (.getfield 31, 3) := by decide +kernel
theorem dX10_tellsOldest_12 : decode cX10_tellsOldest 12 = .ok (.iload 4, 2) := by decide +kernel
theorem dX10_tellsOldest_14 : decode cX10_tellsOldest 14 = .ok (.iconst 1, 1) := by decide +kernel
theorem dX10_tellsOldest_15 : decode cX10_tellsOldest 15 = .ok (.iadd, 1) := by decide +kernel
theorem dX10_tellsOldest_16 : decode cX10_tellsOldest 16 = .ok (.iaload, 1) := by decide +kernel
theorem dX10_tellsOldest_17 : decode cX10_tellsOldest 17 = .ok (.aload_n 0, 1) := by decide +kernel
theorem dX10_tellsOldest_18 : decode cX10_tellsOldest 18 = .ok (.getfield 31, 3) := by decide +kernel
theorem dX10_tellsOldest_21 : decode cX10_tellsOldest 21 = .ok (.iload 4, 2) := by decide +kernel
theorem dX10_tellsOldest_23 : decode cX10_tellsOldest 23 = .ok (.iconst 0, 1) := by decide +kernel
theorem dX10_tellsOldest_24 : decode cX10_tellsOldest 24 = .ok (.iadd, 1) := by decide +kernel
theorem dX10_tellsOldest_25 : decode cX10_tellsOldest 25 = .ok (.iaload, 1) := by decide +kernel
theorem dX10_tellsOldest_26 : decode cX10_tellsOldest 26 = .ok (.iload_n 2, 1) := by decide +kernel
theorem dX10_tellsOldest_27 : decode cX10_tellsOldest 27 = .ok (.iload_n 3, 1) := by decide +kernel
theorem dX10_tellsOldest_28 : decode cX10_tellsOldest 28 = .ok (.invokevirtual 241, 3) := by decide +kernel
theorem dX10_tellsOldest_31 : decode cX10_tellsOldest 31 = .ok (.aload_n 0, 1) := by decide +kernel
theorem dX10_tellsOldest_32 : decode cX10_tellsOldest 32 = .ok (.getfield 28, 3) := by decide +kernel
theorem dX10_tellsOldest_35 : decode cX10_tellsOldest 35 = .ok (.iload_n 1, 1) := by decide +kernel
theorem dX10_tellsOldest_36 : decode cX10_tellsOldest 36 = .ok (.dup2, 1) := by decide +kernel
theorem dX10_tellsOldest_37 : decode cX10_tellsOldest 37 = .ok (.iaload, 1) := by decide +kernel
theorem dX10_tellsOldest_38 : decode cX10_tellsOldest 38 = .ok (.iconst 1, 1) := by decide +kernel
theorem dX10_tellsOldest_39 : decode cX10_tellsOldest 39 = .ok (.isub, 1) := by decide +kernel
theorem dX10_tellsOldest_40 : decode cX10_tellsOldest 40 = .ok (.iastore, 1) := by decide +kernel
theorem dX10_tellsOldest_41 : decode cX10_tellsOldest 41 = .ok (.iconst 0, 1) := by decide +kernel
theorem dX10_tellsOldest_42 : decode cX10_tellsOldest 42 = .ok (.istore 5, 2) := by decide +kernel
theorem dX10_tellsOldest_44 : decode cX10_tellsOldest 44 = .ok (.iload 5, 2) := by decide +kernel
theorem dX10_tellsOldest_46 : decode cX10_tellsOldest 46 = .ok (.bipush 7, 2) := by decide +kernel
theorem dX10_tellsOldest_48 : decode cX10_tellsOldest 48 = .ok (.aload_n 0, 1) := by decide +kernel
theorem dX10_tellsOldest_49 : decode cX10_tellsOldest 49 = .ok (.getfield 28, 3) := by decide +kernel
theorem dX10_tellsOldest_52 : decode cX10_tellsOldest 52 = .ok (.iload_n 1, 1) := by decide +kernel
theorem dX10_tellsOldest_53 : decode cX10_tellsOldest 53 = .ok (.iaload, 1) := by decide +kernel
theorem dX10_tellsOldest_54 : decode cX10_tellsOldest 54 = .ok (.imul, 1) := by decide +kernel
theorem dX10_tellsOldest_55 : decode cX10_tellsOldest 55 = .ok (.if_icmp .ge 32, 3) := by decide +kernel
theorem dX10_tellsOldest_58 : decode cX10_tellsOldest 58 = .ok (.aload_n 0, 1) := by decide +kernel
theorem dX10_tellsOldest_59 : decode cX10_tellsOldest 59 = .ok (.getfield 31, 3) := by decide +kernel
theorem dX10_tellsOldest_62 : decode cX10_tellsOldest 62 = .ok (.iload 4, 2) := by decide +kernel
theorem dX10_tellsOldest_64 : decode cX10_tellsOldest 64 = .ok (.iload 5, 2) := by decide +kernel
theorem dX10_tellsOldest_66 : decode cX10_tellsOldest 66 = .ok (.iadd, 1) := by decide +kernel
theorem dX10_tellsOldest_67 : decode cX10_tellsOldest 67 = .ok (.aload_n 0, 1) := by decide +kernel
theorem dX10_tellsOldest_68 : decode cX10_tellsOldest 68 = .ok (.getfield 31, 3) := by decide +kernel
theorem dX10_tellsOldest_71 : decode cX10_tellsOldest 71 = .ok (.iload 4, 2) := by decide +kernel
theorem dX10_tellsOldest_73 : decode cX10_tellsOldest 73 = .ok (.bipush 7, 2) := by decide +kernel
theorem dX10_tellsOldest_75 : decode cX10_tellsOldest 75 = .ok (.iadd, 1) := by decide +kernel
theorem dX10_tellsOldest_76 : decode cX10_tellsOldest 76 = .ok (.iload 5, 2) := by decide +kernel
theorem dX10_tellsOldest_78 : decode cX10_tellsOldest 78 = .ok (.iadd, 1) := by decide +kernel
theorem dX10_tellsOldest_79 : decode cX10_tellsOldest 79 = .ok (.iaload, 1) := by decide +kernel
theorem dX10_tellsOldest_80 : decode cX10_tellsOldest 80 = .ok (.iastore, 1) := by decide +kernel
theorem dX10_tellsOldest_81 : decode cX10_tellsOldest 81 = .ok (.iinc 5 1, 3) := by decide +kernel
theorem dX10_tellsOldest_84 : decode cX10_tellsOldest 84 = .ok (.goto (-40), 3) := by decide +kernel
theorem dX10_tellsOldest_87 : decode cX10_tellsOldest 87 = .ok (.aload_n 0, 1) := by decide +kernel
theorem dX10_tellsOldest_88 : decode cX10_tellsOldest 88 = .ok (.getfield 43, 3) := by decide +kernel
theorem dX10_tellsOldest_91 : decode cX10_tellsOldest 91 = .ok (.iload_n 1, 1) := by decide +kernel
theorem dX10_tellsOldest_92 : decode cX10_tellsOldest 92 = .ok (.iconst 0, 1) := by decide +kernel
theorem dX10_tellsOldest_93 : decode cX10_tellsOldest 93 = .ok (.iastore, 1) := by decide +kernel
theorem dX10_tellsOldest_94 : decode cX10_tellsOldest 94 = .ok (.aload_n 0, 1) := by decide +kernel
theorem dX10_tellsOldest_95 : decode cX10_tellsOldest 95 = .ok (.getfield 46, 3) := by decide +kernel
theorem dX10_tellsOldest_98 : decode cX10_tellsOldest 98 = .ok (.iload_n 1, 1) := by decide +kernel
theorem dX10_tellsOldest_99 : decode cX10_tellsOldest 99 = .ok (.iconst 0, 1) := by decide +kernel
theorem dX10_tellsOldest_100 : decode cX10_tellsOldest 100 = .ok (.iastore, 1) := by decide +kernel
theorem dX10_tellsOldest_101 : decode cX10_tellsOldest 101 = .ok (.return_, 1) := by decide +kernel
theorem dX10_breaks_0 : decode cX10_breaks 0 = .ok (.aload_n 0, 1) := by decide +kernel
theorem dX10_breaks_1 : decode cX10_breaks 1 = .ok (.getfield 22, 3) := by decide +kernel
theorem dX10_breaks_4 : decode cX10_breaks 4 = .ok (.iload_n 1, 1) := by decide +kernel
theorem dX10_breaks_5 : decode cX10_breaks 5 = .ok (.iconst 2, 1) := by decide +kernel
theorem dX10_breaks_6 : decode cX10_breaks 6 = .ok (.iastore, 1) := by decide +kernel
theorem dX10_breaks_7 : decode cX10_breaks 7 = .ok (.aload_n 0, 1) := by decide +kernel
theorem dX10_breaks_8 : decode cX10_breaks 8 = .ok (.getfield 28, 3) := by decide +kernel
theorem dX10_breaks_11 : decode cX10_breaks 11 = .ok (.iload_n 1, 1) := by decide +kernel
theorem dX10_breaks_12 : decode cX10_breaks 12 = .ok (.iaload, 1) := by decide +kernel
theorem dX10_breaks_13 : decode cX10_breaks 13 = .ok (.ifCond .le 13, 3) := by decide +kernel
theorem dX10_breaks_16 : decode cX10_breaks 16 = .ok (.aload_n 0, 1) := by decide +kernel
theorem dX10_breaks_17 : decode cX10_breaks 17 = .ok (.iload_n 1, 1) := by decide +kernel
theorem dX10_breaks_18 : decode cX10_breaks 18 = .ok (.iconst 2, 1) := by decide +kernel
theorem dX10_breaks_19 : decode cX10_breaks 19 = .ok (.iconst 0, 1) := by decide +kernel
theorem dX10_breaks_20 : decode cX10_breaks 20 = .ok (.invokevirtual 245, 3) := by decide +kernel
theorem dX10_breaks_23 : decode cX10_breaks 23 = .ok (.goto (-16), 3) := by decide +kernel
theorem dX10_breaks_26 : decode cX10_breaks 26 = .ok (.iconst 0, 1) := by decide +kernel
theorem dX10_breaks_27 : decode cX10_breaks 27 = .ok (.istore_n 2, 1) := by decide +kernel
theorem dX10_breaks_28 : decode cX10_breaks 28 = .ok (.iload_n 2, 1) := by decide +kernel
theorem dX10_breaks_29 : decode cX10_breaks 29 = .ok (.aload_n 0, 1) := by decide +kernel
theorem dX10_breaks_30 : decode cX10_breaks 30 = .ok (.getfield 37, 3) := by decide +kernel
theorem dX10_breaks_33 : decode cX10_breaks 33 = .ok (.iload_n 1, 1) := by decide +kernel
theorem dX10_breaks_34 : decode cX10_breaks 34 = .ok (.iaload, 1) := by decide +kernel
theorem dX10_breaks_35 : decode cX10_breaks 35 = .ok (.if_icmp .ge 27, 3) := by decide +kernel
theorem dX10_breaks_38 : decode cX10_breaks 38 = .ok (.aload_n 0, 1) := by decide +kernel
theorem dX10_breaks_39 : decode cX10_breaks 39 = .ok (.iload_n 1, 1) := by decide +kernel
theorem dX10_breaks_40 : decode cX10_breaks 40 = .ok (.iconst 5, 1) := by decide +kernel
theorem dX10_breaks_41 : decode cX10_breaks 41 = .ok (.iconst (-1), 1) := by decide +kernel
theorem dX10_breaks_42 : decode cX10_breaks 42 = .ok (.iconst 2, 1) := by decide +kernel
theorem dX10_breaks_43 : decode cX10_breaks 43 = .ok (.aload_n 0, 1) := by decide +kernel
theorem dX10_breaks_44 : decode cX10_breaks 44 = .ok (.getfield 40, 3) := by decide +kernel
theorem dX10_breaks_47 : decode cX10_breaks 47 = .ok (.iconst 3, 1) := by decide +kernel
theorem dX10_breaks_48 : decode cX10_breaks 48 = .ok (.iload_n 1, 1) := by decide +kernel
theorem dX10_breaks_49 : decode cX10_breaks 49 = .ok (.imul, 1) := by decide +kernel
theorem dX10_breaks_50 : decode cX10_breaks 50 = .ok (.iload_n 2, 1) := by decide +kernel
theorem dX10_breaks_51 : decode cX10_breaks 51 = .ok (.iadd, 1) := by decide +kernel
theorem dX10_breaks_52 : decode cX10_breaks 52 = .ok (.iaload, 1) := by decide +kernel
theorem dX10_breaks_53 : decode cX10_breaks 53 = .ok (.invokevirtual 241, 3) := by decide +kernel
theorem dX10_breaks_56 : decode cX10_breaks 56 = .ok (.iinc 2 1, 3) := by decide +kernel
theorem dX10_breaks_59 : decode cX10_breaks 59 = .ok (.goto (-31), 3) := by decide +kernel
theorem dX10_breaks_62 : decode cX10_breaks 62 = .ok (.aload_n 0, 1) := by decide +kernel
theorem dX10_breaks_63 : decode cX10_breaks 63 = .ok (.getfield 37, 3) := by decide +kernel
theorem dX10_breaks_66 : decode cX10_breaks 66 = .ok (.iload_n 1, 1) := by decide +kernel
theorem dX10_breaks_67 : decode cX10_breaks 67 = .ok (.iconst 0, 1) := by decide +kernel
theorem dX10_breaks_68 : decode cX10_breaks 68 = .ok (.iastore, 1) := by decide +kernel
theorem dX10_breaks_69 : decode cX10_breaks 69 = .ok (.return_, 1) := by decide +kernel
theorem dX10_sendsWork_0 : decode cX10_sendsWork 0 = .ok (.bipush 7, 2) := by decide +kernel
theorem dX10_sendsWork_2 : decode cX10_sendsWork 2 = .ok (.iconst 4, 1) := by decide +kernel
theorem dX10_sendsWork_3 : decode cX10_sendsWork 3 = .ok (.iload_n 1, 1) := by decide +kernel
theorem dX10_sendsWork_4 : decode cX10_sendsWork 4 = .ok (.imul, 1) := by decide +kernel
theorem dX10_sendsWork_5 : decode cX10_sendsWork 5 = .ok (.iload_n 2, 1) := by decide +kernel
theorem dX10_sendsWork_6 : decode cX10_sendsWork 6 = .ok (.iadd, 1) := by decide +kernel
theorem dX10_sendsWork_7 : decode cX10_sendsWork 7 = .ok (.imul, 1) := by decide +kernel
theorem dX10_sendsWork_8 : decode cX10_sendsWork 8 = .ok (.istore_n 3, 1) := by decide +kernel
theorem dX10_sendsWork_9 : decode cX10_sendsWork 9 = .ok (.aload_n 0, 1) := by decide +kernel
theorem dX10_sendsWork_10 : decode cX10_sendsWork 10 = .ok (.iload_n 1, 1) := by decide +kernel
theorem dX10_sendsWork_11 : decode cX10_sendsWork 11 = .ok (.iconst 0, 1) := by decide +kernel
theorem dX10_sendsWork_12 : decode cX10_sendsWork 12 = .ok (.aload_n 0, 1) := by decide +kernel
theorem dX10_sendsWork_13 : decode cX10_sendsWork 13 = .ok (.getfield 31, 3) := by decide +kernel
theorem dX10_sendsWork_16 : decode cX10_sendsWork 16 = .ok (.iload_n 3, 1) := by decide +kernel
theorem dX10_sendsWork_17 : decode cX10_sendsWork 17 = .ok (.iconst 0, 1) := by decide +kernel
theorem dX10_sendsWork_18 : decode cX10_sendsWork 18 = .ok (.iadd, 1) := by decide +kernel
theorem dX10_sendsWork_19 : decode cX10_sendsWork 19 = .ok (.iaload, 1) := by decide +kernel
theorem dX10_sendsWork_20 : decode cX10_sendsWork 20 = .ok (.iconst 0, 1) := by decide +kernel
theorem dX10_sendsWork_21 : decode cX10_sendsWork 21 = .ok (.iload_n 3, 1) := by decide +kernel
theorem dX10_sendsWork_22 : decode cX10_sendsWork 22 = .ok (.invokevirtual 248, 3) := by decide +kernel
theorem dX10_sendsWork_25 : decode cX10_sendsWork 25 = .ok (.return_, 1) := by decide +kernel
theorem dX10_again_0 : decode cX10_again 0 = .ok (.aload_n 0, 1) := by decide +kernel
theorem dX10_again_1 : decode cX10_again 1 = .ok (.getfield 43, 3) := by decide +kernel
theorem dX10_again_4 : decode cX10_again 4 = .ok (.iload_n 1, 1) := by decide +kernel
theorem dX10_again_5 : decode cX10_again 5 = .ok (.dup2, 1) := by decide +kernel
theorem dX10_again_6 : decode cX10_again 6 = .ok (.iaload, 1) := by decide +kernel
theorem dX10_again_7 : decode cX10_again 7 = .ok (.iconst 1, 1) := by decide +kernel
theorem dX10_again_8 : decode cX10_again 8 = .ok (.iadd, 1) := by decide +kernel
theorem dX10_again_9 : decode cX10_again 9 = .ok (.iastore, 1) := by decide +kernel
theorem dX10_again_10 : decode cX10_again 10 = .ok (.aload_n 0, 1) := by decide +kernel
theorem dX10_again_11 : decode cX10_again 11 = .ok (.getfield 43, 3) := by decide +kernel
theorem dX10_again_14 : decode cX10_again 14 = .ok (.iload_n 1, 1) := by decide +kernel
theorem dX10_again_15 : decode cX10_again 15 = .ok (.iaload, 1) := by decide +kernel
theorem dX10_again_16 : decode cX10_again 16 = .ok (.iconst 4, 1) := by decide +kernel
theorem dX10_again_17 : decode cX10_again 17 = .ok (.if_icmp .ne 16, 3) := by decide +kernel
theorem dX10_again_20 : decode cX10_again 20 = .ok (.aload_n 0, 1) := by decide +kernel
theorem dX10_again_21 : decode cX10_again 21 = .ok (.iload_n 1, 1) := by decide +kernel
theorem dX10_again_22 : decode cX10_again 22 = .ok (.iconst 3, 1) := by decide +kernel
theorem dX10_again_23 : decode cX10_again 23 = .ok (.iconst 0, 1) := by decide +kernel
theorem dX10_again_24 : decode cX10_again 24 = .ok (.invokevirtual 245, 3) := by decide +kernel
theorem dX10_again_27 : decode cX10_again 27 = .ok (.aload_n 0, 1) := by decide +kernel
theorem dX10_again_28 : decode cX10_again 28 = .ok (.iload_n 1, 1) := by decide +kernel
theorem dX10_again_29 : decode cX10_again 29 = .ok (.invokevirtual 223, 3) := by decide +kernel
theorem dX10_again_32 : decode cX10_again 32 = .ok (.return_, 1) := by decide +kernel
theorem dX10_again_33 : decode cX10_again 33 = .ok (.iconst 0, 1) := by decide +kernel
theorem dX10_again_34 : decode cX10_again 34 = .ok (.istore_n 2, 1) := by decide +kernel
theorem dX10_again_35 : decode cX10_again 35 = .ok (.iload_n 2, 1) := by decide +kernel
theorem dX10_again_36 : decode cX10_again 36 = .ok (.aload_n 0, 1) := by decide +kernel
theorem dX10_again_37 : decode cX10_again 37 = .ok (.getfield 28, 3) := by decide +kernel
theorem dX10_again_40 : decode cX10_again 40 = .ok (.iload_n 1, 1) := by decide +kernel
theorem dX10_again_41 : decode cX10_again 41 = .ok (.iaload, 1) := by decide +kernel
theorem dX10_again_42 : decode cX10_again 42 = .ok (.if_icmp .ge 15, 3) := by decide +kernel
theorem dX10_again_45 : decode cX10_again 45 = .ok (.aload_n 0, 1) := by decide +kernel
theorem dX10_again_46 : decode cX10_again 46 = .ok (.iload_n 1, 1) := by decide +kernel
theorem dX10_again_47 : decode cX10_again 47 = .ok (.iload_n 2, 1) := by decide +kernel
theorem dX10_again_48 : decode cX10_again 48 = .ok (.invokevirtual 251, 3) := by decide +kernel
theorem dX10_again_51 : decode cX10_again 51 = .ok (.iinc 2 1, 3) := by decide +kernel
theorem dX10_again_54 : decode cX10_again 54 = .ok (.goto (-19), 3) := by decide +kernel
theorem dX10_again_57 : decode cX10_again 57 = .ok (.return_, 1) := by decide +kernel
theorem dX10_requested_0 : decode cX10_requested 0 = .ok (.iload_n 2, 1) := by decide +kernel
theorem dX10_requested_1 : decode cX10_requested 1 = .ok (.aload_n 0, 1) := by decide +kernel
theorem dX10_requested_2 : decode cX10_requested 2 = .ok (.getfield 34, 3) := by decide +kernel
theorem dX10_requested_5 : decode cX10_requested 5 = .ok (.iload_n 1, 1) := by decide +kernel
theorem dX10_requested_6 : decode cX10_requested 6 = .ok (.iaload, 1) := by decide +kernel
theorem dX10_requested_7 : decode cX10_requested 7 = .ok (.if_icmp .le 36, 3) := by decide +kernel
theorem dX10_requested_10 : decode cX10_requested 10 = .ok (.aload_n 0, 1) := by decide +kernel
theorem dX10_requested_11 : decode cX10_requested 11 = .ok (.getfield 49, 3) := by decide +kernel
theorem dX10_requested_14 : decode cX10_requested 14 = .ok (.iload_n 1, 1) := by decide +kernel
theorem dX10_requested_15 : decode cX10_requested 15 = .ok (.baload, 1) := by decide +kernel
theorem dX10_requested_16 : decode cX10_requested 16 = .ok (.ifCond .ne 98, 3) := by decide +kernel
theorem dX10_requested_19 : decode cX10_requested 19 = .ok (.aload_n 0, 1) := by decide +kernel
theorem dX10_requested_20 : decode cX10_requested 20 = .ok (.iload_n 1, 1) := by decide +kernel
theorem dX10_requested_21 : decode cX10_requested 21 = .ok (.iconst 2, 1) := by decide +kernel
theorem dX10_requested_22 : decode cX10_requested 22 = .ok (.aload_n 0, 1) := by decide +kernel
theorem dX10_requested_23 : decode cX10_requested 23 = .ok (.getfield 34, 3) := by decide +kernel
theorem dX10_requested_26 : decode cX10_requested 26 = .ok (.iload_n 1, 1) := by decide +kernel
theorem dX10_requested_27 : decode cX10_requested 27 = .ok (.iaload, 1) := by decide +kernel
theorem dX10_requested_28 : decode cX10_requested 28 = .ok (.iconst 0, 1) := by decide +kernel
theorem dX10_requested_29 : decode cX10_requested 29 = .ok (.iconst (-1), 1) := by decide +kernel
theorem dX10_requested_30 : decode cX10_requested 30 = .ok (.invokevirtual 248, 3) := by decide +kernel
theorem dX10_requested_33 : decode cX10_requested 33 = .ok (.aload_n 0, 1) := by decide +kernel
theorem dX10_requested_34 : decode cX10_requested 34 = .ok (.getfield 49, 3) := by decide +kernel
theorem dX10_requested_37 : decode cX10_requested 37 = .ok (.iload_n 1, 1) := by decide +kernel
theorem dX10_requested_38 : decode cX10_requested 38 = .ok (.iconst 1, 1) := by decide +kernel
theorem dX10_requested_39 : decode cX10_requested 39 = .ok (.bastore, 1) := by decide +kernel
theorem dX10_requested_40 : decode cX10_requested 40 = .ok (.goto 74, 3) := by decide +kernel
theorem dX10_requested_43 : decode cX10_requested 43 = .ok (.iload_n 3, 1) := by decide +kernel
theorem dX10_requested_44 : decode cX10_requested 44 = .ok (.iconst 2, 1) := by decide +kernel
theorem dX10_requested_45 : decode cX10_requested 45 = .ok (.if_icmp .eq 17, 3) := by decide +kernel
theorem dX10_requested_48 : decode cX10_requested 48 = .ok (.iload_n 2, 1) := by decide +kernel
theorem dX10_requested_49 : decode cX10_requested 49 = .ok (.aload_n 0, 1) := by decide +kernel
theorem dX10_requested_50 : decode cX10_requested 50 = .ok (.getfield 34, 3) := by decide +kernel
theorem dX10_requested_53 : decode cX10_requested 53 = .ok (.iload_n 1, 1) := by decide +kernel
theorem dX10_requested_54 : decode cX10_requested 54 = .ok (.iaload, 1) := by decide +kernel
theorem dX10_requested_55 : decode cX10_requested 55 = .ok (.if_icmp .ne 17, 3) := by decide +kernel
theorem dX10_requested_58 : decode cX10_requested 58 = .ok (.iload_n 3, 1) := by decide +kernel
theorem dX10_requested_59 : decode cX10_requested 59 = .ok (.ifCond .eq 13, 3) := by decide +kernel
theorem dX10_requested_62 : decode cX10_requested 62 = .ok (.aload_n 0, 1) := by decide +kernel
theorem dX10_requested_63 : decode cX10_requested 63 = .ok (.iload_n 1, 1) := by decide +kernel
theorem dX10_requested_64 : decode cX10_requested 64 = .ok (.iload_n 2, 1) := by decide +kernel
theorem dX10_requested_65 : decode cX10_requested 65 = .ok (.iload_n 3, 1) := by decide +kernel
theorem dX10_requested_66 : decode cX10_requested 66 = .ok (.invokevirtual 254, 3) := by decide +kernel
theorem dX10_requested_69 : decode cX10_requested 69 = .ok (.goto 45, 3) := by decide +kernel
theorem dX10_requested_72 : decode cX10_requested 72 = .ok (.iload_n 2, 1) := by decide +kernel
theorem dX10_requested_73 : decode cX10_requested 73 = .ok (.aload_n 0, 1) := by decide +kernel
theorem dX10_requested_74 : decode cX10_requested 74 = .ok (.getfield 34, 3) := by decide +kernel
theorem dX10_requested_77 : decode cX10_requested 77 = .ok (.iload_n 1, 1) := by decide +kernel
theorem dX10_requested_78 : decode cX10_requested 78 = .ok (.iaload, 1) := by decide +kernel
theorem dX10_requested_79 : decode cX10_requested 79 = .ok (.if_icmp .ne 12, 3) := by decide +kernel
theorem dX10_requested_82 : decode cX10_requested 82 = .ok (.aload_n 0, 1) := by decide +kernel
theorem dX10_requested_83 : decode cX10_requested 83 = .ok (.iload_n 1, 1) := by decide +kernel
theorem dX10_requested_84 : decode cX10_requested 84 = .ok (.iload_n 2, 1) := by decide +kernel
theorem dX10_requested_85 : decode cX10_requested 85 = .ok (.invokevirtual 257, 3) := by decide +kernel
theorem dX10_requested_88 : decode cX10_requested 88 = .ok (.goto 26, 3) := by decide +kernel
theorem dX10_requested_91 : decode cX10_requested 91 = .ok (.iload_n 3, 1) := by decide +kernel
theorem dX10_requested_92 : decode cX10_requested 92 = .ok (.iconst 2, 1) := by decide +kernel
theorem dX10_requested_93 : decode cX10_requested 93 = .ok (.if_icmp .ge 15, 3) := by decide +kernel
theorem dX10_requested_96 : decode cX10_requested 96 = .ok (.aload_n 0, 1) := by decide +kernel
theorem dX10_requested_97 : decode cX10_requested 97 = .ok (.iload_n 1, 1) := by decide +kernel
theorem dX10_requested_98 : decode cX10_requested 98 = .ok (.iconst 1, 1) := by decide +kernel
theorem dX10_requested_99 : decode cX10_requested 99 = .ok (.iload_n 2, 1) := by decide +kernel
theorem dX10_requested_100 : decode cX10_requested 100 = .ok (.iconst 0, 1) := by decide +kernel
theorem dX10_requested_101 : decode cX10_requested 101 = .ok (.iconst (-1), 1) := by decide +kernel
theorem dX10_requested_102 : decode cX10_requested 102 = .ok (.invokevirtual 248, 3) := by decide +kernel
theorem dX10_requested_105 : decode cX10_requested 105 = .ok (.goto 9, 3) := by decide +kernel
theorem dX10_requested_108 : decode cX10_requested 108 = .ok (.aload_n 0, 1) := by decide +kernel
theorem dX10_requested_109 : decode cX10_requested 109 = .ok (.iload_n 1, 1) := by decide +kernel
theorem dX10_requested_110 : decode cX10_requested 110 = .ok (.iload_n 2, 1) := by decide +kernel
theorem dX10_requested_111 : decode cX10_requested 111 = .ok (.invokevirtual 259, 3) := by decide +kernel
theorem dX10_requested_114 : decode cX10_requested 114 = .ok (.return_, 1) := by decide +kernel
theorem dX10_tellsAgain_0 : decode cX10_tellsAgain 0 = .ok (.iconst 0, 1) := by decide +kernel
theorem dX10_tellsAgain_1 : decode cX10_tellsAgain 1 = .ok (.istore_n 3, 1) := by decide +kernel
theorem dX10_tellsAgain_2 : decode cX10_tellsAgain 2 = .ok (.iload_n 3, 1) := by decide +kernel
theorem dX10_tellsAgain_3 : decode cX10_tellsAgain 3 = .ok (.aload_n 0, 1) := by decide +kernel
theorem dX10_tellsAgain_4 : decode cX10_tellsAgain 4 = .ok (.getfield 53, 3) := by decide +kernel
theorem dX10_tellsAgain_7 : decode cX10_tellsAgain 7 = .ok (.iload_n 1, 1) := by decide +kernel
theorem dX10_tellsAgain_8 : decode cX10_tellsAgain 8 = .ok (.iaload, 1) := by decide +kernel
theorem dX10_tellsAgain_9 : decode cX10_tellsAgain 9 = .ok (.if_icmp .ge 47, 3) := by decide +kernel
theorem dX10_tellsAgain_12 : decode cX10_tellsAgain 12 = .ok (.aload_n 0, 1) := by decide +kernel
theorem dX10_tellsAgain_13 : decode cX10_tellsAgain 13 = .ok (.getfield 56, 3) := by decide +kernel
theorem dX10_tellsAgain_16 : decode cX10_tellsAgain 16 = .ok (.iconst 4, 1) := by decide +kernel
theorem dX10_tellsAgain_17 : decode cX10_tellsAgain 17 = .ok (.iload_n 1, 1) := by decide +kernel
theorem dX10_tellsAgain_18 : decode cX10_tellsAgain 18 = .ok (.imul, 1) := by decide +kernel
theorem dX10_tellsAgain_19 : decode cX10_tellsAgain 19 = .ok (.iconst 2, 1) := by decide +kernel
theorem dX10_tellsAgain_20 : decode cX10_tellsAgain 20 = .ok (.iload_n 3, 1) := by decide +kernel
theorem dX10_tellsAgain_21 : decode cX10_tellsAgain 21 = .ok (.imul, 1) := by decide +kernel
theorem dX10_tellsAgain_22 : decode cX10_tellsAgain 22 = .ok (.iadd, 1) := by decide +kernel
theorem dX10_tellsAgain_23 : decode cX10_tellsAgain 23 = .ok (.iaload, 1) := by decide +kernel
theorem dX10_tellsAgain_24 : decode cX10_tellsAgain 24 = .ok (.iload_n 2, 1) := by decide +kernel
theorem dX10_tellsAgain_25 : decode cX10_tellsAgain 25 = .ok (.if_icmp .ne 25, 3) := by decide +kernel
theorem dX10_tellsAgain_28 : decode cX10_tellsAgain 28 = .ok (.aload_n 0, 1) := by decide +kernel
theorem dX10_tellsAgain_29 : decode cX10_tellsAgain 29 = .ok (.iload_n 1, 1) := by decide +kernel
theorem dX10_tellsAgain_30 : decode cX10_tellsAgain 30 = .ok (.iconst 1, 1) := by decide +kernel
theorem dX10_tellsAgain_31 : decode cX10_tellsAgain 31 = .ok (.iload_n 2, 1) := by decide +kernel
theorem dX10_tellsAgain_32 : decode cX10_tellsAgain 32 = .ok (.aload_n 0, 1) := by decide +kernel
theorem dX10_tellsAgain_33 : decode cX10_tellsAgain 33 = .ok (.getfield 56, 3) := by decide +kernel
theorem dX10_tellsAgain_36 : decode cX10_tellsAgain 36 = .ok (.iconst 4, 1) := by decide +kernel
theorem dX10_tellsAgain_37 : decode cX10_tellsAgain 37 = .ok (.iload_n 1, 1) := by decide +kernel
theorem dX10_tellsAgain_38 : decode cX10_tellsAgain 38 = .ok (.imul, 1) := by decide +kernel
theorem dX10_tellsAgain_39 : decode cX10_tellsAgain 39 = .ok (.iconst 2, 1) := by decide +kernel
theorem dX10_tellsAgain_40 : decode cX10_tellsAgain 40 = .ok (.iload_n 3, 1) := by decide +kernel
theorem dX10_tellsAgain_41 : decode cX10_tellsAgain 41 = .ok (.imul, 1) := by decide +kernel
theorem dX10_tellsAgain_42 : decode cX10_tellsAgain 42 = .ok (.iadd, 1) := by decide +kernel
theorem dX10_tellsAgain_43 : decode cX10_tellsAgain 43 = .ok (.iconst 1, 1) := by decide +kernel
theorem dX10_tellsAgain_44 : decode cX10_tellsAgain 44 = .ok (.iadd, 1) := by decide +kernel
theorem dX10_tellsAgain_45 : decode cX10_tellsAgain 45 = .ok (.iaload, 1) := by decide +kernel
theorem dX10_tellsAgain_46 : decode cX10_tellsAgain 46 = .ok (.iconst (-1), 1) := by decide +kernel
theorem dX10_tellsAgain_47 : decode cX10_tellsAgain 47 = .ok (.invokevirtual 248, 3) := by decide +kernel
theorem dX10_tellsAgain_50 : decode cX10_tellsAgain 50 = .ok (.iinc 3 1, 3) := by decide +kernel
theorem dX10_tellsAgain_53 : decode cX10_tellsAgain 53 = .ok (.goto (-51), 3) := by decide +kernel
theorem dX10_tellsAgain_56 : decode cX10_tellsAgain 56 = .ok (.return_, 1) := by decide +kernel
theorem dX10_receives_0 : decode cX10_receives 0 = .ok (.aload_n 0, 1) := by decide +kernel
theorem dX10_receives_1 : decode cX10_receives 1 = .ok (.getfield 37, 3) := by decide +kernel
theorem dX10_receives_4 : decode cX10_receives 4 = .ok (.iload_n 1, 1) := by decide +kernel
theorem dX10_receives_5 : decode cX10_receives 5 = .ok (.iaload, 1) := by decide +kernel
theorem dX10_receives_6 : decode cX10_receives 6 = .ok (.ifCond .ne 13, 3) := by decide +kernel
theorem dX10_receives_9 : decode cX10_receives 9 = .ok (.aload_n 0, 1) := by decide +kernel
theorem dX10_receives_10 : decode cX10_receives 10 = .ok (.iload_n 1, 1) := by decide +kernel
theorem dX10_receives_11 : decode cX10_receives 11 = .ok (.iconst 3, 1) := by decide +kernel
theorem dX10_receives_12 : decode cX10_receives 12 = .ok (.iload_n 2, 1) := by decide +kernel
theorem dX10_receives_13 : decode cX10_receives 13 = .ok (.iconst 0, 1) := by decide +kernel
theorem dX10_receives_14 : decode cX10_receives 14 = .ok (.iconst (-1), 1) := by decide +kernel
theorem dX10_receives_15 : decode cX10_receives 15 = .ok (.invokevirtual 248, 3) := by decide +kernel
theorem dX10_receives_18 : decode cX10_receives 18 = .ok (.return_, 1) := by decide +kernel
theorem dX10_receives_19 : decode cX10_receives 19 = .ok (.aload_n 0, 1) := by decide +kernel
theorem dX10_receives_20 : decode cX10_receives 20 = .ok (.getfield 92, 3) := by decide +kernel
theorem dX10_receives_23 : decode cX10_receives 23 = .ok (.bipush 6, 2) := by decide +kernel
theorem dX10_receives_25 : decode cX10_receives 25 = .ok (.iaload, 1) := by decide +kernel
theorem dX10_receives_26 : decode cX10_receives 26 = .ok (.istore_n 3, 1) := by decide +kernel
theorem dX10_receives_27 : decode cX10_receives 27 = .ok (.aload_n 0, 1) := by decide +kernel
theorem dX10_receives_28 : decode cX10_receives 28 = .ok (.getfield 7, 3) := by decide +kernel
theorem dX10_receives_31 : decode cX10_receives 31 = .ok (.bipush 12, 2) := by decide +kernel
theorem dX10_receives_33 : decode cX10_receives 33 = .ok (.iload_n 1, 1) := by decide +kernel
theorem dX10_receives_34 : decode cX10_receives 34 = .ok (.iconst 2, 1) := by decide +kernel
theorem dX10_receives_35 : decode cX10_receives 35 = .ok (.irem, 1) := by decide +kernel
theorem dX10_receives_36 : decode cX10_receives 36 = .ok (.imul, 1) := by decide +kernel
theorem dX10_receives_37 : decode cX10_receives 37 = .ok (.aload_n 0, 1) := by decide +kernel
theorem dX10_receives_38 : decode cX10_receives 38 = .ok (.getfield 40, 3) := by decide +kernel
theorem dX10_receives_41 : decode cX10_receives 41 = .ok (.iconst 3, 1) := by decide +kernel
theorem dX10_receives_42 : decode cX10_receives 42 = .ok (.iload_n 1, 1) := by decide +kernel
theorem dX10_receives_43 : decode cX10_receives 43 = .ok (.imul, 1) := by decide +kernel
theorem dX10_receives_44 : decode cX10_receives 44 = .ok (.iaload, 1) := by decide +kernel
theorem dX10_receives_45 : decode cX10_receives 45 = .ok (.iadd, 1) := by decide +kernel
theorem dX10_receives_46 : decode cX10_receives 46 = .ok (.iload_n 3, 1) := by decide +kernel
theorem dX10_receives_47 : decode cX10_receives 47 = .ok (.iastore, 1) := by decide +kernel
theorem dX10_receives_48 : decode cX10_receives 48 = .ok (.aload_n 0, 1) := by decide +kernel
theorem dX10_receives_49 : decode cX10_receives 49 = .ok (.getfield 37, 3) := by decide +kernel
theorem dX10_receives_52 : decode cX10_receives 52 = .ok (.iload_n 1, 1) := by decide +kernel
theorem dX10_receives_53 : decode cX10_receives 53 = .ok (.dup2, 1) := by decide +kernel
theorem dX10_receives_54 : decode cX10_receives 54 = .ok (.iaload, 1) := by decide +kernel
theorem dX10_receives_55 : decode cX10_receives 55 = .ok (.iconst 1, 1) := by decide +kernel
theorem dX10_receives_56 : decode cX10_receives 56 = .ok (.isub, 1) := by decide +kernel
theorem dX10_receives_57 : decode cX10_receives 57 = .ok (.iastore, 1) := by decide +kernel
theorem dX10_receives_58 : decode cX10_receives 58 = .ok (.iconst 0, 1) := by decide +kernel
theorem dX10_receives_59 : decode cX10_receives 59 = .ok (.istore 4, 2) := by decide +kernel
theorem dX10_receives_61 : decode cX10_receives 61 = .ok (.iload 4, 2) := by decide +kernel
theorem dX10_receives_63 : decode cX10_receives 63 = .ok (.aload_n 0, 1) := by decide +kernel
theorem dX10_receives_64 : decode cX10_receives 64 = .ok (.getfield 37, 3) := by decide +kernel
theorem dX10_receives_67 : decode cX10_receives 67 = .ok (.iload_n 1, 1) := by decide +kernel
theorem dX10_receives_68 : decode cX10_receives 68 = .ok (.iaload, 1) := by decide +kernel
theorem dX10_receives_69 : decode cX10_receives 69 = .ok (.if_icmp .ge 33, 3) := by decide +kernel
theorem dX10_receives_72 : decode cX10_receives 72 = .ok (.aload_n 0, 1) := by decide +kernel
theorem dX10_receives_73 : decode cX10_receives 73 = .ok (.getfield 40, 3) := by decide +kernel
theorem dX10_receives_76 : decode cX10_receives 76 = .ok (.iconst 3, 1) := by decide +kernel
theorem dX10_receives_77 : decode cX10_receives 77 = .ok (.iload_n 1, 1) := by decide +kernel
theorem dX10_receives_78 : decode cX10_receives 78 = .ok (.imul, 1) := by decide +kernel
theorem dX10_receives_79 : decode cX10_receives 79 = .ok (.iload 4, 2) := by decide +kernel
theorem dX10_receives_81 : decode cX10_receives 81 = .ok (.iadd, 1) := by decide +kernel
theorem dX10_receives_82 : decode cX10_receives 82 = .ok (.aload_n 0, 1) := by decide +kernel
theorem dX10_receives_83 : decode cX10_receives 83 = .ok (.getfield 40, 3) := by decide +kernel
theorem dX10_receives_86 : decode cX10_receives 86 = .ok (.iconst 3, 1) := by decide +kernel
theorem dX10_receives_87 : decode cX10_receives 87 = .ok (.iload_n 1, 1) := by decide +kernel
theorem dX10_receives_88 : decode cX10_receives 88 = .ok (.imul, 1) := by decide +kernel
theorem dX10_receives_89 : decode cX10_receives 89 = .ok (.iload 4, 2) := by decide +kernel
theorem dX10_receives_91 : decode cX10_receives 91 = .ok (.iadd, 1) := by decide +kernel
theorem dX10_receives_92 : decode cX10_receives 92 = .ok (.iconst 1, 1) := by decide +kernel
theorem dX10_receives_93 : decode cX10_receives 93 = .ok (.iadd, 1) := by decide +kernel
theorem dX10_receives_94 : decode cX10_receives 94 = .ok (.iaload, 1) := by decide +kernel
theorem dX10_receives_95 : decode cX10_receives 95 = .ok (.iastore, 1) := by decide +kernel
theorem dX10_receives_96 : decode cX10_receives 96 = .ok (.iinc 4 1, 3) := by decide +kernel
theorem dX10_receives_99 : decode cX10_receives 99 = .ok (.goto (-38), 3) := by decide +kernel
theorem dX10_receives_102 : decode cX10_receives 102 = .ok (.aload_n 0, 1) := by decide +kernel
theorem dX10_receives_103 : decode cX10_receives 103 = .ok (.iload_n 1, 1) := by decide +kernel
theorem dX10_receives_104 : decode cX10_receives 104 = .ok (.iconst 5, 1) := by decide +kernel
theorem dX10_receives_105 : decode cX10_receives 105 = .ok (.iload_n 2, 1) := by decide +kernel
theorem dX10_receives_106 : decode cX10_receives 106 = .ok (.iconst 0, 1) := by decide +kernel
theorem dX10_receives_107 : decode cX10_receives 107 = .ok (.iload_n 3, 1) := by decide +kernel
theorem dX10_receives_108 : decode cX10_receives 108 = .ok (.invokevirtual 241, 3) := by decide +kernel
theorem dX10_receives_111 : decode cX10_receives 111 = .ok (.aload_n 0, 1) := by decide +kernel
theorem dX10_receives_112 : decode cX10_receives 112 = .ok (.iload_n 1, 1) := by decide +kernel
theorem dX10_receives_113 : decode cX10_receives 113 = .ok (.iload_n 2, 1) := by decide +kernel
theorem dX10_receives_114 : decode cX10_receives 114 = .ok (.iconst 0, 1) := by decide +kernel
theorem dX10_receives_115 : decode cX10_receives 115 = .ok (.invokevirtual 262, 3) := by decide +kernel
theorem dX10_receives_118 : decode cX10_receives 118 = .ok (.return_, 1) := by decide +kernel
theorem dX10_passes_0 : decode cX10_passes 0 = .ok (.aload_n 0, 1) := by decide +kernel
theorem dX10_passes_1 : decode cX10_passes 1 = .ok (.getfield 34, 3) := by decide +kernel
theorem dX10_passes_4 : decode cX10_passes 4 = .ok (.iload_n 1, 1) := by decide +kernel
theorem dX10_passes_5 : decode cX10_passes 5 = .ok (.iload_n 2, 1) := by decide +kernel
theorem dX10_passes_6 : decode cX10_passes 6 = .ok (.iconst 1, 1) := by decide +kernel
theorem dX10_passes_7 : decode cX10_passes 7 = .ok (.iadd, 1) := by decide +kernel
theorem dX10_passes_8 : decode cX10_passes 8 = .ok (.iastore, 1) := by decide +kernel
theorem dX10_passes_9 : decode cX10_passes 9 = .ok (.aload_n 0, 1) := by decide +kernel
theorem dX10_passes_10 : decode cX10_passes 10 = .ok (.getfield 49, 3) := by decide +kernel
theorem dX10_passes_13 : decode cX10_passes 13 = .ok (.iload_n 1, 1) := by decide +kernel
theorem dX10_passes_14 : decode cX10_passes 14 = .ok (.iconst 0, 1) := by decide +kernel
theorem dX10_passes_15 : decode cX10_passes 15 = .ok (.bastore, 1) := by decide +kernel
theorem dX10_passes_16 : decode cX10_passes 16 = .ok (.aload_n 0, 1) := by decide +kernel
theorem dX10_passes_17 : decode cX10_passes 17 = .ok (.iload_n 1, 1) := by decide +kernel
theorem dX10_passes_18 : decode cX10_passes 18 = .ok (.iconst 1, 1) := by decide +kernel
theorem dX10_passes_19 : decode cX10_passes 19 = .ok (.iload_n 2, 1) := by decide +kernel
theorem dX10_passes_20 : decode cX10_passes 20 = .ok (.iload_n 3, 1) := by decide +kernel
theorem dX10_passes_21 : decode cX10_passes 21 = .ok (.iconst (-1), 1) := by decide +kernel
theorem dX10_passes_22 : decode cX10_passes 22 = .ok (.invokevirtual 248, 3) := by decide +kernel
theorem dX10_passes_25 : decode cX10_passes 25 = .ok (.return_, 1) := by decide +kernel
theorem dX10_reasonOf_0 : decode cX10_reasonOf 0 = .ok (.iload_n 3, 1) := by decide +kernel
theorem dX10_reasonOf_1 : decode cX10_reasonOf 1 = .ok (.iconst 1, 1) := by decide +kernel
theorem dX10_reasonOf_2 : decode cX10_reasonOf 2 = .ok (.if_icmp .ne 7, 3) := by decide +kernel
theorem dX10_reasonOf_5 : decode cX10_reasonOf 5 = .ok (.iconst 2, 1) := by decide +kernel
theorem dX10_reasonOf_6 : decode cX10_reasonOf 6 = .ok (.goto 13, 3) := by decide +kernel
theorem dX10_reasonOf_9 : decode cX10_reasonOf 9 = .ok (.iload_n 3, 1) := by decide +kernel
theorem dX10_reasonOf_10 : decode cX10_reasonOf 10 = .ok (.iconst 2, 1) := by decide +kernel
theorem dX10_reasonOf_11 : decode cX10_reasonOf 11 = .ok (.if_icmp .ne 7, 3) := by decide +kernel
theorem dX10_reasonOf_14 : decode cX10_reasonOf 14 = .ok (.iconst 1, 1) := by decide +kernel
theorem dX10_reasonOf_15 : decode cX10_reasonOf 15 = .ok (.goto 4, 3) := by decide +kernel
theorem dX10_reasonOf_18 : decode cX10_reasonOf 18 = .ok (.iconst 4, 1) := by decide +kernel
theorem dX10_reasonOf_19 : decode cX10_reasonOf 19 = .ok (.istore 4, 2) := by decide +kernel
theorem dX10_reasonOf_21 : decode cX10_reasonOf 21 = .ok (.aload_n 0, 1) := by decide +kernel
theorem dX10_reasonOf_22 : decode cX10_reasonOf 22 = .ok (.getfield 16, 3) := by decide +kernel
theorem dX10_reasonOf_25 : decode cX10_reasonOf 25 = .ok (.iload_n 1, 1) := by decide +kernel
theorem dX10_reasonOf_26 : decode cX10_reasonOf 26 = .ok (.iaload, 1) := by decide +kernel
theorem dX10_reasonOf_27 : decode cX10_reasonOf 27 = .ok (.ifCond .ne 7, 3) := by decide +kernel
theorem dX10_reasonOf_30 : decode cX10_reasonOf 30 = .ok (.iconst 1, 1) := by decide +kernel
theorem dX10_reasonOf_31 : decode cX10_reasonOf 31 = .ok (.goto 34, 3) := by decide +kernel
theorem dX10_reasonOf_34 : decode cX10_reasonOf 34 = .ok (.iload_n 2, 1) := by decide +kernel
theorem dX10_reasonOf_35 : decode cX10_reasonOf 35 = .ok (.aload_n 0, 1) := by decide +kernel
theorem dX10_reasonOf_36 : decode cX10_reasonOf 36 = .ok (.getfield 16, 3) := by decide +kernel
theorem dX10_reasonOf_39 : decode cX10_reasonOf 39 = .ok (.iload_n 1, 1) := by decide +kernel
theorem dX10_reasonOf_40 : decode cX10_reasonOf 40 = .ok (.iaload, 1) := by decide +kernel
theorem dX10_reasonOf_41 : decode cX10_reasonOf 41 = .ok (.if_icmp .lt 7, 3) := by decide +kernel
theorem dX10_reasonOf_44 : decode cX10_reasonOf 44 = .ok (.iconst 2, 1) := by decide +kernel
theorem dX10_reasonOf_45 : decode cX10_reasonOf 45 = .ok (.goto 20, 3) := by decide +kernel
theorem dX10_reasonOf_48 : decode cX10_reasonOf 48 = .ok (.aload_n 0, 1) := by decide +kernel
theorem dX10_reasonOf_49 : decode cX10_reasonOf 49 = .ok (.getfield 19, 3) := by decide +kernel
theorem dX10_reasonOf_52 : decode cX10_reasonOf 52 = .ok (.iload_n 1, 1) := by decide +kernel
theorem dX10_reasonOf_53 : decode cX10_reasonOf 53 = .ok (.iaload, 1) := by decide +kernel
theorem dX10_reasonOf_54 : decode cX10_reasonOf 54 = .ok (.iload 4, 2) := by decide +kernel
theorem dX10_reasonOf_56 : decode cX10_reasonOf 56 = .ok (.iand, 1) := by decide +kernel
theorem dX10_reasonOf_57 : decode cX10_reasonOf 57 = .ok (.ifCond .ne 7, 3) := by decide +kernel
theorem dX10_reasonOf_60 : decode cX10_reasonOf 60 = .ok (.iconst 3, 1) := by decide +kernel
theorem dX10_reasonOf_61 : decode cX10_reasonOf 61 = .ok (.goto 4, 3) := by decide +kernel
theorem dX10_reasonOf_64 : decode cX10_reasonOf 64 = .ok (.iconst 0, 1) := by decide +kernel
theorem dX10_reasonOf_65 : decode cX10_reasonOf 65 = .ok (.ireturn, 1) := by decide +kernel
theorem dX10_accesses_0 : decode cX10_accesses 0 = .ok (.iconst 4, 1) := by decide +kernel
theorem dX10_accesses_1 : decode cX10_accesses 1 = .ok (.iload_n 1, 1) := by decide +kernel
theorem dX10_accesses_2 : decode cX10_accesses 2 = .ok (.iconst 2, 1) := by decide +kernel
theorem dX10_accesses_3 : decode cX10_accesses 3 = .ok (.irem, 1) := by decide +kernel
theorem dX10_accesses_4 : decode cX10_accesses 4 = .ok (.imul, 1) := by decide +kernel
theorem dX10_accesses_5 : decode cX10_accesses 5 = .ok (.aload_n 0, 1) := by decide +kernel
theorem dX10_accesses_6 : decode cX10_accesses 6 = .ok (.getfield 92, 3) := by decide +kernel
theorem dX10_accesses_9 : decode cX10_accesses 9 = .ok (.iconst 4, 1) := by decide +kernel
theorem dX10_accesses_10 : decode cX10_accesses 10 = .ok (.iaload, 1) := by decide +kernel
theorem dX10_accesses_11 : decode cX10_accesses 11 = .ok (.iadd, 1) := by decide +kernel
theorem dX10_accesses_12 : decode cX10_accesses 12 = .ok (.istore 4, 2) := by decide +kernel
theorem dX10_accesses_14 : decode cX10_accesses 14 = .ok (.aload_n 0, 1) := by decide +kernel
theorem dX10_accesses_15 : decode cX10_accesses 15 = .ok (.iload 4, 2) := by decide +kernel
theorem dX10_accesses_17 : decode cX10_accesses 17 = .ok (.aload_n 0, 1) := by decide +kernel
theorem dX10_accesses_18 : decode cX10_accesses 18 = .ok (.getfield 92, 3) := by decide +kernel
theorem dX10_accesses_21 : decode cX10_accesses 21 = .ok (.iconst 5, 1) := by decide +kernel
theorem dX10_accesses_22 : decode cX10_accesses 22 = .ok (.iaload, 1) := by decide +kernel
theorem dX10_accesses_23 : decode cX10_accesses 23 = .ok (.iload_n 3, 1) := by decide +kernel
theorem dX10_accesses_24 : decode cX10_accesses 24 = .ok (.invokevirtual 265, 3) := by decide +kernel
theorem dX10_accesses_27 : decode cX10_accesses 27 = .ok (.istore 5, 2) := by decide +kernel
theorem dX10_accesses_29 : decode cX10_accesses 29 = .ok (.iload 5, 2) := by decide +kernel
theorem dX10_accesses_31 : decode cX10_accesses 31 = .ok (.ifCond .le 19, 3) := by decide +kernel
theorem dX10_accesses_34 : decode cX10_accesses 34 = .ok (.aload_n 0, 1) := by decide +kernel
theorem dX10_accesses_35 : decode cX10_accesses 35 = .ok (.iload_n 1, 1) := by decide +kernel
theorem dX10_accesses_36 : decode cX10_accesses 36 = .ok (.iconst 4, 1) := by decide +kernel
theorem dX10_accesses_37 : decode cX10_accesses 37 = .ok (.iload_n 2, 1) := by decide +kernel
theorem dX10_accesses_38 : decode cX10_accesses 38 = .ok (.iload 5, 2) := by decide +kernel
theorem dX10_accesses_40 : decode cX10_accesses 40 = .ok (.iconst (-1), 1) := by decide +kernel
theorem dX10_accesses_41 : decode cX10_accesses 41 = .ok (.invokevirtual 248, 3) := by decide +kernel
theorem dX10_accesses_44 : decode cX10_accesses 44 = .ok (.aload_n 0, 1) := by decide +kernel
theorem dX10_accesses_45 : decode cX10_accesses 45 = .ok (.iload_n 1, 1) := by decide +kernel
theorem dX10_accesses_46 : decode cX10_accesses 46 = .ok (.invokevirtual 223, 3) := by decide +kernel
theorem dX10_accesses_49 : decode cX10_accesses 49 = .ok (.return_, 1) := by decide +kernel
theorem dX10_accesses_50 : decode cX10_accesses 50 = .ok (.bipush 12, 2) := by decide +kernel
theorem dX10_accesses_52 : decode cX10_accesses 52 = .ok (.iload_n 1, 1) := by decide +kernel
theorem dX10_accesses_53 : decode cX10_accesses 53 = .ok (.iconst 2, 1) := by decide +kernel
theorem dX10_accesses_54 : decode cX10_accesses 54 = .ok (.irem, 1) := by decide +kernel
theorem dX10_accesses_55 : decode cX10_accesses 55 = .ok (.imul, 1) := by decide +kernel
theorem dX10_accesses_56 : decode cX10_accesses 56 = .ok (.aload_n 0, 1) := by decide +kernel
theorem dX10_accesses_57 : decode cX10_accesses 57 = .ok (.getfield 13, 3) := by decide +kernel
theorem dX10_accesses_60 : decode cX10_accesses 60 = .ok (.iload 4, 2) := by decide +kernel
theorem dX10_accesses_62 : decode cX10_accesses 62 = .ok (.iaload, 1) := by decide +kernel
theorem dX10_accesses_63 : decode cX10_accesses 63 = .ok (.iadd, 1) := by decide +kernel
theorem dX10_accesses_64 : decode cX10_accesses 64 = .ok (.aload_n 0, 1) := by decide +kernel
theorem dX10_accesses_65 : decode cX10_accesses 65 = .ok (.getfield 92, 3) := by decide +kernel
theorem dX10_accesses_68 : decode cX10_accesses 68 = .ok (.iconst 5, 1) := by decide +kernel
theorem dX10_accesses_69 : decode cX10_accesses 69 = .ok (.iaload, 1) := by decide +kernel
theorem dX10_accesses_70 : decode cX10_accesses 70 = .ok (.iadd, 1) := by decide +kernel
theorem dX10_accesses_71 : decode cX10_accesses 71 = .ok (.istore 6, 2) := by decide +kernel
theorem dX10_accesses_73 : decode cX10_accesses 73 = .ok (.aload_n 0, 1) := by decide +kernel
theorem dX10_accesses_74 : decode cX10_accesses 74 = .ok (.getfield 7, 3) := by decide +kernel
theorem dX10_accesses_77 : decode cX10_accesses 77 = .ok (.iload 6, 2) := by decide +kernel
theorem dX10_accesses_79 : decode cX10_accesses 79 = .ok (.iaload, 1) := by decide +kernel
theorem dX10_accesses_80 : decode cX10_accesses 80 = .ok (.istore 7, 2) := by decide +kernel
theorem dX10_accesses_82 : decode cX10_accesses 82 = .ok (.iload_n 3, 1) := by decide +kernel
theorem dX10_accesses_83 : decode cX10_accesses 83 = .ok (.iconst 1, 1) := by decide +kernel
theorem dX10_accesses_84 : decode cX10_accesses 84 = .ok (.if_icmp .ne 20, 3) := by decide +kernel
theorem dX10_accesses_87 : decode cX10_accesses 87 = .ok (.aload_n 0, 1) := by decide +kernel
theorem dX10_accesses_88 : decode cX10_accesses 88 = .ok (.getfield 7, 3) := by decide +kernel
theorem dX10_accesses_91 : decode cX10_accesses 91 = .ok (.iload 6, 2) := by decide +kernel
theorem dX10_accesses_93 : decode cX10_accesses 93 = .ok (.aload_n 0, 1) := by decide +kernel
theorem dX10_accesses_94 : decode cX10_accesses 94 = .ok (.getfield 92, 3) := by decide +kernel
theorem dX10_accesses_97 : decode cX10_accesses 97 = .ok (.bipush 6, 2) := by decide +kernel
theorem dX10_accesses_99 : decode cX10_accesses 99 = .ok (.iaload, 1) := by decide +kernel
theorem dX10_accesses_100 : decode cX10_accesses 100 = .ok (.iastore, 1) := by decide +kernel
theorem dX10_accesses_101 : decode cX10_accesses 101 = .ok (.goto 63, 3) := by decide +kernel
theorem dX10_accesses_104 : decode cX10_accesses 104 = .ok (.iload_n 3, 1) := by decide +kernel
theorem dX10_accesses_105 : decode cX10_accesses 105 = .ok (.iconst 3, 1) := by decide +kernel
theorem dX10_accesses_106 : decode cX10_accesses 106 = .ok (.if_icmp .ne 27, 3) := by decide +kernel
theorem dX10_accesses_109 : decode cX10_accesses 109 = .ok (.aload_n 0, 1) := by decide +kernel
theorem dX10_accesses_110 : decode cX10_accesses 110 = .ok (.getfield 7, 3) := by decide +kernel
theorem dX10_accesses_113 : decode cX10_accesses 113 = .ok (.iload 6, 2) := by decide +kernel
theorem dX10_accesses_115 : decode cX10_accesses 115 = .ok (.iload 7, 2) := by decide +kernel
theorem dX10_accesses_117 : decode cX10_accesses 117 = .ok (.aload_n 0, 1) := by decide +kernel
theorem dX10_accesses_118 : decode cX10_accesses 118 = .ok (.getfield 92, 3) := by decide +kernel
theorem dX10_accesses_121 : decode cX10_accesses 121 = .ok (.bipush 6, 2) := by decide +kernel
theorem dX10_accesses_123 : decode cX10_accesses 123 = .ok (.iaload, 1) := by decide +kernel
theorem dX10_accesses_124 : decode cX10_accesses 124 = .ok (.iadd, 1) := by decide +kernel
theorem dX10_accesses_125 : decode cX10_accesses 125 = .ok (.sipush 10000, 3) := by decide +kernel
theorem dX10_accesses_128 : decode cX10_accesses 128 = .ok (.irem, 1) := by decide +kernel
theorem dX10_accesses_129 : decode cX10_accesses 129 = .ok (.iastore, 1) := by decide +kernel
theorem dX10_accesses_130 : decode cX10_accesses 130 = .ok (.goto 34, 3) := by decide +kernel
theorem dX10_accesses_133 : decode cX10_accesses 133 = .ok (.iload_n 3, 1) := by decide +kernel
theorem dX10_accesses_134 : decode cX10_accesses 134 = .ok (.iconst 4, 1) := by decide +kernel
theorem dX10_accesses_135 : decode cX10_accesses 135 = .ok (.if_icmp .ne 29, 3) := by decide +kernel
theorem dX10_accesses_138 : decode cX10_accesses 138 = .ok (.iload 7, 2) := by decide +kernel
theorem dX10_accesses_140 : decode cX10_accesses 140 = .ok (.aload_n 0, 1) := by decide +kernel
theorem dX10_accesses_141 : decode cX10_accesses 141 = .ok (.getfield 92, 3) := by decide +kernel
theorem dX10_accesses_144 : decode cX10_accesses 144 = .ok (.bipush 6, 2) := by decide +kernel
theorem dX10_accesses_146 : decode cX10_accesses 146 = .ok (.iaload, 1) := by decide +kernel
theorem dX10_accesses_147 : decode cX10_accesses 147 = .ok (.if_icmp .ne 17, 3) := by decide +kernel
theorem dX10_accesses_150 : decode cX10_accesses 150 = .ok (.aload_n 0, 1) := by decide +kernel
theorem dX10_accesses_151 : decode cX10_accesses 151 = .ok (.getfield 7, 3) := by decide +kernel
theorem dX10_accesses_154 : decode cX10_accesses 154 = .ok (.iload 6, 2) := by decide +kernel
theorem dX10_accesses_156 : decode cX10_accesses 156 = .ok (.aload_n 0, 1) := by decide +kernel
theorem dX10_accesses_157 : decode cX10_accesses 157 = .ok (.getfield 92, 3) := by decide +kernel
theorem dX10_accesses_160 : decode cX10_accesses 160 = .ok (.bipush 7, 2) := by decide +kernel
theorem dX10_accesses_162 : decode cX10_accesses 162 = .ok (.iaload, 1) := by decide +kernel
theorem dX10_accesses_163 : decode cX10_accesses 163 = .ok (.iastore, 1) := by decide +kernel
theorem dX10_accesses_164 : decode cX10_accesses 164 = .ok (.iload_n 3, 1) := by decide +kernel
theorem dX10_accesses_165 : decode cX10_accesses 165 = .ok (.iconst 2, 1) := by decide +kernel
theorem dX10_accesses_166 : decode cX10_accesses 166 = .ok (.if_icmp .le 11, 3) := by decide +kernel
theorem dX10_accesses_169 : decode cX10_accesses 169 = .ok (.aload_n 0, 1) := by decide +kernel
theorem dX10_accesses_170 : decode cX10_accesses 170 = .ok (.iload_n 1, 1) := by decide +kernel
theorem dX10_accesses_171 : decode cX10_accesses 171 = .ok (.iload_n 2, 1) := by decide +kernel
theorem dX10_accesses_172 : decode cX10_accesses 172 = .ok (.iload 7, 2) := by decide +kernel
theorem dX10_accesses_174 : decode cX10_accesses 174 = .ok (.invokevirtual 269, 3) := by decide +kernel
theorem dX10_accesses_177 : decode cX10_accesses 177 = .ok (.iload_n 2, 1) := by decide +kernel
theorem dX10_accesses_178 : decode cX10_accesses 178 = .ok (.aload_n 0, 1) := by decide +kernel
theorem dX10_accesses_179 : decode cX10_accesses 179 = .ok (.getfield 34, 3) := by decide +kernel
theorem dX10_accesses_182 : decode cX10_accesses 182 = .ok (.iload_n 1, 1) := by decide +kernel
theorem dX10_accesses_183 : decode cX10_accesses 183 = .ok (.iaload, 1) := by decide +kernel
theorem dX10_accesses_184 : decode cX10_accesses 184 = .ok (.if_icmp .ge 16, 3) := by decide +kernel
theorem dX10_accesses_187 : decode cX10_accesses 187 = .ok (.aload_n 0, 1) := by decide +kernel
theorem dX10_accesses_188 : decode cX10_accesses 188 = .ok (.iload_n 1, 1) := by decide +kernel
theorem dX10_accesses_189 : decode cX10_accesses 189 = .ok (.iconst 1, 1) := by decide +kernel
theorem dX10_accesses_190 : decode cX10_accesses 190 = .ok (.iload_n 2, 1) := by decide +kernel
theorem dX10_accesses_191 : decode cX10_accesses 191 = .ok (.iload 7, 2) := by decide +kernel
theorem dX10_accesses_193 : decode cX10_accesses 193 = .ok (.iconst (-1), 1) := by decide +kernel
theorem dX10_accesses_194 : decode cX10_accesses 194 = .ok (.invokevirtual 248, 3) := by decide +kernel
theorem dX10_accesses_197 : decode cX10_accesses 197 = .ok (.goto 20, 3) := by decide +kernel
theorem dX10_accesses_200 : decode cX10_accesses 200 = .ok (.aload_n 0, 1) := by decide +kernel
theorem dX10_accesses_201 : decode cX10_accesses 201 = .ok (.iload_n 1, 1) := by decide +kernel
theorem dX10_accesses_202 : decode cX10_accesses 202 = .ok (.iload_n 2, 1) := by decide +kernel
theorem dX10_accesses_203 : decode cX10_accesses 203 = .ok (.iload_n 3, 1) := by decide +kernel
theorem dX10_accesses_204 : decode cX10_accesses 204 = .ok (.iconst 1, 1) := by decide +kernel
theorem dX10_accesses_205 : decode cX10_accesses 205 = .ok (.if_icmp .ne 7, 3) := by decide +kernel
theorem dX10_accesses_208 : decode cX10_accesses 208 = .ok (.iconst 0, 1) := by decide +kernel
theorem dX10_accesses_209 : decode cX10_accesses 209 = .ok (.goto 5, 3) := by decide +kernel
theorem dX10_accesses_212 : decode cX10_accesses 212 = .ok (.iload 7, 2) := by decide +kernel
theorem dX10_accesses_214 : decode cX10_accesses 214 = .ok (.invokevirtual 262, 3) := by decide +kernel
theorem dX10_accesses_217 : decode cX10_accesses 217 = .ok (.return_, 1) := by decide +kernel
theorem dX10_changesMore_0 : decode cX10_changesMore 0 = .ok (.aload_n 0, 1) := by decide +kernel
theorem dX10_changesMore_1 : decode cX10_changesMore 1 = .ok (.dup, 1) := by decide +kernel
theorem dX10_changesMore_2 : decode cX10_changesMore 2 = .ok (.getfield 120, 3) := by decide +kernel
theorem dX10_changesMore_5 : decode cX10_changesMore 5 = .ok (.iconst 1, 1) := by decide +kernel
theorem dX10_changesMore_6 : decode cX10_changesMore 6 = .ok (.iadd, 1) := by decide +kernel
theorem dX10_changesMore_7 : decode cX10_changesMore 7 = .ok (.putfield 120, 3) := by decide +kernel
theorem dX10_changesMore_10 : decode cX10_changesMore 10 = .ok (.aload_n 0, 1) := by decide +kernel
theorem dX10_changesMore_11 : decode cX10_changesMore 11 = .ok (.getfield 53, 3) := by decide +kernel
theorem dX10_changesMore_14 : decode cX10_changesMore 14 = .ok (.iload_n 1, 1) := by decide +kernel
theorem dX10_changesMore_15 : decode cX10_changesMore 15 = .ok (.iaload, 1) := by decide +kernel
theorem dX10_changesMore_16 : decode cX10_changesMore 16 = .ok (.iconst 2, 1) := by decide +kernel
theorem dX10_changesMore_17 : decode cX10_changesMore 17 = .ok (.if_icmp .ne 48, 3) := by decide +kernel
theorem dX10_changesMore_20 : decode cX10_changesMore 20 = .ok (.aload_n 0, 1) := by decide +kernel
theorem dX10_changesMore_21 : decode cX10_changesMore 21 = .ok (.getfield 56, 3) := by decide +kernel
theorem dX10_changesMore_24 : decode cX10_changesMore 24 = .ok (.iconst 4, 1) := by decide +kernel
theorem dX10_changesMore_25 : decode cX10_changesMore 25 = .ok (.iload_n 1, 1) := by decide +kernel
theorem dX10_changesMore_26 : decode cX10_changesMore 26 = .ok (.imul, 1) := by decide +kernel
theorem dX10_changesMore_27 : decode cX10_changesMore 27 = .ok (.aload_n 0, 1) := by decide +kernel
theorem dX10_changesMore_28 : decode cX10_changesMore 28 = .ok (.getfield 56, 3) := by decide +kernel
theorem dX10_changesMore_31 : decode cX10_changesMore 31 = .ok (.iconst 4, 1) := by decide +kernel
theorem dX10_changesMore_32 : decode cX10_changesMore 32 = .ok (.iload_n 1, 1) := by decide +kernel
theorem dX10_changesMore_33 : decode cX10_changesMore 33 = .ok (.imul, 1) := by decide +kernel
theorem dX10_changesMore_34 : decode cX10_changesMore 34 = .ok (.iconst 2, 1) := by decide +kernel
theorem dX10_changesMore_35 : decode cX10_changesMore 35 = .ok (.iadd, 1) := by decide +kernel
theorem dX10_changesMore_36 : decode cX10_changesMore 36 = .ok (.iaload, 1) := by decide +kernel
theorem dX10_changesMore_37 : decode cX10_changesMore 37 = .ok (.iastore, 1) := by decide +kernel
theorem dX10_changesMore_38 : decode cX10_changesMore 38 = .ok (.aload_n 0, 1) := by decide +kernel
theorem dX10_changesMore_39 : decode cX10_changesMore 39 = .ok (.getfield 56, 3) := by decide +kernel
theorem dX10_changesMore_42 : decode cX10_changesMore 42 = .ok (.iconst 4, 1) := by decide +kernel
theorem dX10_changesMore_43 : decode cX10_changesMore 43 = .ok (.iload_n 1, 1) := by decide +kernel
theorem dX10_changesMore_44 : decode cX10_changesMore 44 = .ok (.imul, 1) := by decide +kernel
theorem dX10_changesMore_45 : decode cX10_changesMore 45 = .ok (.iconst 1, 1) := by decide +kernel
theorem dX10_changesMore_46 : decode cX10_changesMore 46 = .ok (.iadd, 1) := by decide +kernel
theorem dX10_changesMore_47 : decode cX10_changesMore 47 = .ok (.aload_n 0, 1) := by decide +kernel
theorem dX10_changesMore_48 : decode cX10_changesMore 48 = .ok (.getfield 56, 3) := by decide +kernel
theorem dX10_changesMore_51 : decode cX10_changesMore 51 = .ok (.iconst 4, 1) := by decide +kernel
theorem dX10_changesMore_52 : decode cX10_changesMore 52 = .ok (.iload_n 1, 1) := by decide +kernel
theorem dX10_changesMore_53 : decode cX10_changesMore 53 = .ok (.imul, 1) := by decide +kernel
theorem dX10_changesMore_54 : decode cX10_changesMore 54 = .ok (.iconst 3, 1) := by decide +kernel
theorem dX10_changesMore_55 : decode cX10_changesMore 55 = .ok (.iadd, 1) := by decide +kernel
theorem dX10_changesMore_56 : decode cX10_changesMore 56 = .ok (.iaload, 1) := by decide +kernel
theorem dX10_changesMore_57 : decode cX10_changesMore 57 = .ok (.iastore, 1) := by decide +kernel
theorem dX10_changesMore_58 : decode cX10_changesMore 58 = .ok (.aload_n 0, 1) := by decide +kernel
theorem dX10_changesMore_59 : decode cX10_changesMore 59 = .ok (.getfield 53, 3) := by decide +kernel
theorem dX10_changesMore_62 : decode cX10_changesMore 62 = .ok (.iload_n 1, 1) := by decide +kernel
theorem dX10_changesMore_63 : decode cX10_changesMore 63 = .ok (.iconst 1, 1) := by decide +kernel
theorem dX10_changesMore_64 : decode cX10_changesMore 64 = .ok (.iastore, 1) := by decide +kernel
theorem dX10_changesMore_65 : decode cX10_changesMore 65 = .ok (.aload_n 0, 1) := by decide +kernel
theorem dX10_changesMore_66 : decode cX10_changesMore 66 = .ok (.getfield 56, 3) := by decide +kernel
theorem dX10_changesMore_69 : decode cX10_changesMore 69 = .ok (.iconst 4, 1) := by decide +kernel
theorem dX10_changesMore_70 : decode cX10_changesMore 70 = .ok (.iload_n 1, 1) := by decide +kernel
theorem dX10_changesMore_71 : decode cX10_changesMore 71 = .ok (.imul, 1) := by decide +kernel
theorem dX10_changesMore_72 : decode cX10_changesMore 72 = .ok (.iconst 2, 1) := by decide +kernel
theorem dX10_changesMore_73 : decode cX10_changesMore 73 = .ok (.aload_n 0, 1) := by decide +kernel
theorem dX10_changesMore_74 : decode cX10_changesMore 74 = .ok (.getfield 53, 3) := by decide +kernel
theorem dX10_changesMore_77 : decode cX10_changesMore 77 = .ok (.iload_n 1, 1) := by decide +kernel
theorem dX10_changesMore_78 : decode cX10_changesMore 78 = .ok (.iaload, 1) := by decide +kernel
theorem dX10_changesMore_79 : decode cX10_changesMore 79 = .ok (.imul, 1) := by decide +kernel
theorem dX10_changesMore_80 : decode cX10_changesMore 80 = .ok (.iadd, 1) := by decide +kernel
theorem dX10_changesMore_81 : decode cX10_changesMore 81 = .ok (.iload_n 2, 1) := by decide +kernel
theorem dX10_changesMore_82 : decode cX10_changesMore 82 = .ok (.iastore, 1) := by decide +kernel
theorem dX10_changesMore_83 : decode cX10_changesMore 83 = .ok (.aload_n 0, 1) := by decide +kernel
theorem dX10_changesMore_84 : decode cX10_changesMore 84 = .ok (.getfield 56, 3) := by decide +kernel
theorem dX10_changesMore_87 : decode cX10_changesMore 87 = .ok (.iconst 4, 1) := by decide +kernel
theorem dX10_changesMore_88 : decode cX10_changesMore 88 = .ok (.iload_n 1, 1) := by decide +kernel
theorem dX10_changesMore_89 : decode cX10_changesMore 89 = .ok (.imul, 1) := by decide +kernel
theorem dX10_changesMore_90 : decode cX10_changesMore 90 = .ok (.iconst 2, 1) := by decide +kernel
theorem dX10_changesMore_91 : decode cX10_changesMore 91 = .ok (.aload_n 0, 1) := by decide +kernel
theorem dX10_changesMore_92 : decode cX10_changesMore 92 = .ok (.getfield 53, 3) := by decide +kernel
theorem dX10_changesMore_95 : decode cX10_changesMore 95 = .ok (.iload_n 1, 1) := by decide +kernel
theorem dX10_changesMore_96 : decode cX10_changesMore 96 = .ok (.iaload, 1) := by decide +kernel
theorem dX10_changesMore_97 : decode cX10_changesMore 97 = .ok (.imul, 1) := by decide +kernel
theorem dX10_changesMore_98 : decode cX10_changesMore 98 = .ok (.iadd, 1) := by decide +kernel
theorem dX10_changesMore_99 : decode cX10_changesMore 99 = .ok (.iconst 1, 1) := by decide +kernel
theorem dX10_changesMore_100 : decode cX10_changesMore 100 = .ok (.iadd, 1) := by decide +kernel
theorem dX10_changesMore_101 : decode cX10_changesMore 101 = .ok (.iload_n 3, 1) := by decide +kernel
theorem dX10_changesMore_102 : decode cX10_changesMore 102 = .ok (.iastore, 1) := by decide +kernel
theorem dX10_changesMore_103 : decode cX10_changesMore 103 = .ok (.aload_n 0, 1) := by decide +kernel
theorem dX10_changesMore_104 : decode cX10_changesMore 104 = .ok (.getfield 53, 3) := by decide +kernel
theorem dX10_changesMore_107 : decode cX10_changesMore 107 = .ok (.iload_n 1, 1) := by decide +kernel
theorem dX10_changesMore_108 : decode cX10_changesMore 108 = .ok (.dup2, 1) := by decide +kernel
theorem dX10_changesMore_109 : decode cX10_changesMore 109 = .ok (.iaload, 1) := by decide +kernel
theorem dX10_changesMore_110 : decode cX10_changesMore 110 = .ok (.iconst 1, 1) := by decide +kernel
theorem dX10_changesMore_111 : decode cX10_changesMore 111 = .ok (.iadd, 1) := by decide +kernel
theorem dX10_changesMore_112 : decode cX10_changesMore 112 = .ok (.iastore, 1) := by decide +kernel
theorem dX10_changesMore_113 : decode cX10_changesMore 113 = .ok (.return_, 1) := by decide +kernel
theorem dX10_oldest_0 : decode cX10_oldest 0 = .ok (.aload_n 0, 1) := by decide +kernel
theorem dX10_oldest_1 : decode cX10_oldest 1 = .ok (.getfield 31, 3) := by decide +kernel
theorem dX10_oldest_4 : decode cX10_oldest 4 = .ok (.bipush 28, 2) := by decide +kernel
theorem dX10_oldest_6 : decode cX10_oldest 6 = .ok (.iload_n 1, 1) := by decide +kernel
theorem dX10_oldest_7 : decode cX10_oldest 7 = .ok (.imul, 1) := by decide +kernel
theorem dX10_oldest_8 : decode cX10_oldest 8 = .ok (.iconst 0, 1) := by decide +kernel
theorem dX10_oldest_9 : decode cX10_oldest 9 = .ok (.iadd, 1) := by decide +kernel
theorem dX10_oldest_10 : decode cX10_oldest 10 = .ok (.iaload, 1) := by decide +kernel
theorem dX10_oldest_11 : decode cX10_oldest 11 = .ok (.ireturn, 1) := by decide +kernel
theorem dX10_isOpen_0 : decode cX10_isOpen 0 = .ok (.iconst 0, 1) := by decide +kernel
theorem dX10_isOpen_1 : decode cX10_isOpen 1 = .ok (.istore_n 3, 1) := by decide +kernel
theorem dX10_isOpen_2 : decode cX10_isOpen 2 = .ok (.iconst 0, 1) := by decide +kernel
theorem dX10_isOpen_3 : decode cX10_isOpen 3 = .ok (.istore 4, 2) := by decide +kernel
theorem dX10_isOpen_5 : decode cX10_isOpen 5 = .ok (.iload 4, 2) := by decide +kernel
theorem dX10_isOpen_7 : decode cX10_isOpen 7 = .ok (.aload_n 0, 1) := by decide +kernel
theorem dX10_isOpen_8 : decode cX10_isOpen 8 = .ok (.getfield 28, 3) := by decide +kernel
theorem dX10_isOpen_11 : decode cX10_isOpen 11 = .ok (.iload_n 1, 1) := by decide +kernel
theorem dX10_isOpen_12 : decode cX10_isOpen 12 = .ok (.iaload, 1) := by decide +kernel
theorem dX10_isOpen_13 : decode cX10_isOpen 13 = .ok (.if_icmp .ge 39, 3) := by decide +kernel
theorem dX10_isOpen_16 : decode cX10_isOpen 16 = .ok (.iload_n 3, 1) := by decide +kernel
theorem dX10_isOpen_17 : decode cX10_isOpen 17 = .ok (.ifCond .ne 23, 3) := by decide +kernel
theorem dX10_isOpen_20 : decode cX10_isOpen 20 = .ok (.aload_n 0, 1) := by decide +kernel
theorem dX10_isOpen_21 : decode cX10_isOpen 21 = .ok (.getfield 31, 3) := by decide +kernel
theorem dX10_isOpen_24 : decode cX10_isOpen 24 = .ok (.bipush 7, 2) := by decide +kernel
theorem dX10_isOpen_26 : decode cX10_isOpen 26 = .ok (.iconst 4, 1) := by decide +kernel
theorem dX10_isOpen_27 : decode cX10_isOpen 27 = .ok (.iload_n 1, 1) := by decide +kernel
theorem dX10_isOpen_28 : decode cX10_isOpen 28 = .ok (.imul, 1) := by decide +kernel
theorem dX10_isOpen_29 : decode cX10_isOpen 29 = .ok (.iload 4, 2) := by decide +kernel
theorem dX10_isOpen_31 : decode cX10_isOpen 31 = .ok (.iadd, 1) := by decide +kernel
theorem dX10_isOpen_32 : decode cX10_isOpen 32 = .ok (.imul, 1) := by decide +kernel
theorem dX10_isOpen_33 : decode cX10_isOpen 33 = .ok (.iconst 0, 1) := by decide +kernel
theorem dX10_isOpen_34 : decode cX10_isOpen 34 = .ok (.iadd, 1) := by decide +kernel
theorem dX10_isOpen_35 : decode cX10_isOpen 35 = .ok (.iaload, 1) := by decide +kernel
theorem dX10_isOpen_36 : decode cX10_isOpen 36 = .ok (.iload_n 2, 1) := by decide +kernel
theorem dX10_isOpen_37 : decode cX10_isOpen 37 = .ok (.if_icmp .ne 7, 3) := by decide +kernel
theorem dX10_isOpen_40 : decode cX10_isOpen 40 = .ok (.iconst 1, 1) := by decide +kernel
theorem dX10_isOpen_41 : decode cX10_isOpen 41 = .ok (.goto 4, 3) := by decide +kernel
theorem dX10_isOpen_44 : decode cX10_isOpen 44 = .ok (.iconst 0, 1) := by decide +kernel
theorem dX10_isOpen_45 : decode cX10_isOpen 45 = .ok (.istore_n 3, 1) := by decide +kernel
theorem dX10_isOpen_46 : decode cX10_isOpen 46 = .ok (.iinc 4 1, 3) := by decide +kernel
theorem dX10_isOpen_49 : decode cX10_isOpen 49 = .ok (.goto (-44), 3) := by decide +kernel
theorem dX10_isOpen_52 : decode cX10_isOpen 52 = .ok (.iload_n 3, 1) := by decide +kernel
theorem dX10_isOpen_53 : decode cX10_isOpen 53 = .ok (.ireturn, 1) := by decide +kernel
theorem dX10_answered_0 : decode cX10_answered 0 = .ok (.iload_n 3, 1) := by decide +kernel
theorem dX10_answered_1 : decode cX10_answered 1 = .ok (.iconst 2, 1) := by decide +kernel
theorem dX10_answered_2 : decode cX10_answered 2 = .ok (.if_icmp .ne 24, 3) := by decide +kernel
theorem dX10_answered_5 : decode cX10_answered 5 = .ok (.aload_n 0, 1) := by decide +kernel
theorem dX10_answered_6 : decode cX10_answered 6 = .ok (.getfield 28, 3) := by decide +kernel
theorem dX10_answered_9 : decode cX10_answered 9 = .ok (.iload_n 1, 1) := by decide +kernel
theorem dX10_answered_10 : decode cX10_answered 10 = .ok (.iaload, 1) := by decide +kernel
theorem dX10_answered_11 : decode cX10_answered 11 = .ok (.ifCond .eq 24, 3) := by decide +kernel
theorem dX10_answered_14 : decode cX10_answered 14 = .ok (.iload_n 2, 1) := by decide +kernel
theorem dX10_answered_15 : decode cX10_answered 15 = .ok (.aload_n 0, 1) := by decide +kernel
theorem dX10_answered_16 : decode cX10_answered 16 = .ok (.iload_n 1, 1) := by decide +kernel
theorem dX10_answered_17 : decode cX10_answered 17 = .ok (.invokevirtual 272, 3) := by decide +kernel
theorem dX10_answered_20 : decode cX10_answered 20 = .ok (.if_icmp .ge 16, 3) := by decide +kernel
theorem dX10_answered_23 : decode cX10_answered 23 = .ok (.goto 12, 3) := by decide +kernel
theorem dX10_answered_26 : decode cX10_answered 26 = .ok (.aload_n 0, 1) := by decide +kernel
theorem dX10_answered_27 : decode cX10_answered 27 = .ok (.iload_n 1, 1) := by decide +kernel
theorem dX10_answered_28 : decode cX10_answered 28 = .ok (.iload_n 2, 1) := by decide +kernel
theorem dX10_answered_29 : decode cX10_answered 29 = .ok (.invokevirtual 275, 3) := by decide +kernel
theorem dX10_answered_32 : decode cX10_answered 32 = .ok (.ifCond .ne 4, 3) := by decide +kernel
theorem dX10_answered_35 : decode cX10_answered 35 = .ok (.return_, 1) := by decide +kernel
theorem dX10_answered_36 : decode cX10_answered 36 = .ok (.aload_n 0, 1) := by decide +kernel
theorem dX10_answered_37 : decode cX10_answered 37 = .ok (.getfield 28, 3) := by decide +kernel
theorem dX10_answered_40 : decode cX10_answered 40 = .ok (.iload_n 1, 1) := by decide +kernel
theorem dX10_answered_41 : decode cX10_answered 41 = .ok (.iaload, 1) := by decide +kernel
theorem dX10_answered_42 : decode cX10_answered 42 = .ok (.ifCond .le 43, 3) := by decide +kernel
theorem dX10_answered_45 : decode cX10_answered 45 = .ok (.aload_n 0, 1) := by decide +kernel
theorem dX10_answered_46 : decode cX10_answered 46 = .ok (.iload_n 1, 1) := by decide +kernel
theorem dX10_answered_47 : decode cX10_answered 47 = .ok (.invokevirtual 272, 3) := by decide +kernel
theorem dX10_answered_50 : decode cX10_answered 50 = .ok (.iload_n 2, 1) := by decide +kernel
theorem dX10_answered_51 : decode cX10_answered 51 = .ok (.if_icmp .ge 34, 3) := by decide +kernel
theorem dX10_answered_54 : decode cX10_answered 54 = .ok (.aload_n 0, 1) := by decide +kernel
theorem dX10_answered_55 : decode cX10_answered 55 = .ok (.getfield 31, 3) := by decide +kernel
theorem dX10_answered_58 : decode cX10_answered 58 = .ok (.bipush 28, 2) := by decide +kernel
theorem dX10_answered_60 : decode cX10_answered 60 = .ok (.iload_n 1, 1) := by decide +kernel
theorem dX10_answered_61 : decode cX10_answered 61 = .ok (.imul, 1) := by decide +kernel
theorem dX10_answered_62 : decode cX10_answered 62 = .ok (.iconst 1, 1) := by decide +kernel
theorem dX10_answered_63 : decode cX10_answered 63 = .ok (.iadd, 1) := by decide +kernel
theorem dX10_answered_64 : decode cX10_answered 64 = .ok (.iaload, 1) := by decide +kernel
theorem dX10_answered_65 : decode cX10_answered 65 = .ok (.iconst 1, 1) := by decide +kernel
theorem dX10_answered_66 : decode cX10_answered 66 = .ok (.if_icmp .le 9, 3) := by decide +kernel
theorem dX10_answered_69 : decode cX10_answered 69 = .ok (.aload_n 0, 1) := by decide +kernel
theorem dX10_answered_70 : decode cX10_answered 70 = .ok (.iload_n 1, 1) := by decide +kernel
theorem dX10_answered_71 : decode cX10_answered 71 = .ok (.invokevirtual 279, 3) := by decide +kernel
theorem dX10_answered_74 : decode cX10_answered 74 = .ok (.return_, 1) := by decide +kernel
theorem dX10_answered_75 : decode cX10_answered 75 = .ok (.aload_n 0, 1) := by decide +kernel
theorem dX10_answered_76 : decode cX10_answered 76 = .ok (.iload_n 1, 1) := by decide +kernel
theorem dX10_answered_77 : decode cX10_answered 77 = .ok (.iconst 0, 1) := by decide +kernel
theorem dX10_answered_78 : decode cX10_answered 78 = .ok (.iconst 0, 1) := by decide +kernel
theorem dX10_answered_79 : decode cX10_answered 79 = .ok (.invokevirtual 245, 3) := by decide +kernel
theorem dX10_answered_82 : decode cX10_answered 82 = .ok (.goto (-46), 3) := by decide +kernel
theorem dX10_answered_85 : decode cX10_answered 85 = .ok (.iload_n 3, 1) := by decide +kernel
theorem dX10_answered_86 : decode cX10_answered 86 = .ok (.iconst 2, 1) := by decide +kernel
theorem dX10_answered_87 : decode cX10_answered 87 = .ok (.if_icmp .ne 20, 3) := by decide +kernel
theorem dX10_answered_90 : decode cX10_answered 90 = .ok (.aload_n 0, 1) := by decide +kernel
theorem dX10_answered_91 : decode cX10_answered 91 = .ok (.getfield 28, 3) := by decide +kernel
theorem dX10_answered_94 : decode cX10_answered 94 = .ok (.iload_n 1, 1) := by decide +kernel
theorem dX10_answered_95 : decode cX10_answered 95 = .ok (.iaload, 1) := by decide +kernel
theorem dX10_answered_96 : decode cX10_answered 96 = .ok (.ifCond .le 144, 3) := by decide +kernel
theorem dX10_answered_99 : decode cX10_answered 99 = .ok (.aload_n 0, 1) := by decide +kernel
theorem dX10_answered_100 : decode cX10_answered 100 = .ok (.iload_n 1, 1) := by decide +kernel
theorem dX10_answered_101 : decode cX10_answered 101 = .ok (.invokevirtual 279, 3) := by decide +kernel
theorem dX10_answered_104 : decode cX10_answered 104 = .ok (.goto 136, 3) := by decide +kernel
theorem dX10_answered_107 : decode cX10_answered 107 = .ok (.iload_n 3, 1) := by decide +kernel
theorem dX10_answered_108 : decode cX10_answered 108 = .ok (.iconst 1, 1) := by decide +kernel
theorem dX10_answered_109 : decode cX10_answered 109 = .ok (.if_icmp .ne 73, 3) := by decide +kernel
theorem dX10_answered_112 : decode cX10_answered 112 = .ok (.aload_n 0, 1) := by decide +kernel
theorem dX10_answered_113 : decode cX10_answered 113 = .ok (.getfield 31, 3) := by decide +kernel
theorem dX10_answered_116 : decode cX10_answered 116 = .ok (.bipush 28, 2) := by decide +kernel
theorem dX10_answered_118 : decode cX10_answered 118 = .ok (.iload_n 1, 1) := by decide +kernel
theorem dX10_answered_119 : decode cX10_answered 119 = .ok (.imul, 1) := by decide +kernel
theorem dX10_answered_120 : decode cX10_answered 120 = .ok (.iconst 1, 1) := by decide +kernel
theorem dX10_answered_121 : decode cX10_answered 121 = .ok (.iadd, 1) := by decide +kernel
theorem dX10_answered_122 : decode cX10_answered 122 = .ok (.iaload, 1) := by decide +kernel
theorem dX10_answered_123 : decode cX10_answered 123 = .ok (.istore 4, 2) := by decide +kernel
theorem dX10_answered_125 : decode cX10_answered 125 = .ok (.aload_n 0, 1) := by decide +kernel
theorem dX10_answered_126 : decode cX10_answered 126 = .ok (.getfield 31, 3) := by decide +kernel
theorem dX10_answered_129 : decode cX10_answered 129 = .ok (.bipush 28, 2) := by decide +kernel
theorem dX10_answered_131 : decode cX10_answered 131 = .ok (.iload_n 1, 1) := by decide +kernel
theorem dX10_answered_132 : decode cX10_answered 132 = .ok (.imul, 1) := by decide +kernel
theorem dX10_answered_133 : decode cX10_answered 133 = .ok (.bipush 6, 2) := by decide +kernel
theorem dX10_answered_135 : decode cX10_answered 135 = .ok (.iadd, 1) := by decide +kernel
theorem dX10_answered_136 : decode cX10_answered 136 = .ok (.iaload, 1) := by decide +kernel
theorem dX10_answered_137 : decode cX10_answered 137 = .ok (.istore 5, 2) := by decide +kernel
theorem dX10_answered_139 : decode cX10_answered 139 = .ok (.aload_n 0, 1) := by decide +kernel
theorem dX10_answered_140 : decode cX10_answered 140 = .ok (.iload_n 1, 1) := by decide +kernel
theorem dX10_answered_141 : decode cX10_answered 141 = .ok (.iconst 0, 1) := by decide +kernel
theorem dX10_answered_142 : decode cX10_answered 142 = .ok (.aload_n 0, 1) := by decide +kernel
theorem dX10_answered_143 : decode cX10_answered 143 = .ok (.getfield 92, 3) := by decide +kernel
theorem dX10_answered_146 : decode cX10_answered 146 = .ok (.bipush 8, 2) := by decide +kernel
theorem dX10_answered_148 : decode cX10_answered 148 = .ok (.iaload, 1) := by decide +kernel
theorem dX10_answered_149 : decode cX10_answered 149 = .ok (.invokevirtual 245, 3) := by decide +kernel
theorem dX10_answered_152 : decode cX10_answered 152 = .ok (.iload 4, 2) := by decide +kernel
theorem dX10_answered_154 : decode cX10_answered 154 = .ok (.iconst 1, 1) := by decide +kernel
theorem dX10_answered_155 : decode cX10_answered 155 = .ok (.if_icmp .le 24, 3) := by decide +kernel
theorem dX10_answered_158 : decode cX10_answered 158 = .ok (.aload_n 0, 1) := by decide +kernel
theorem dX10_answered_159 : decode cX10_answered 159 = .ok (.getfield 7, 3) := by decide +kernel
theorem dX10_answered_162 : decode cX10_answered 162 = .ok (.bipush 12, 2) := by decide +kernel
theorem dX10_answered_164 : decode cX10_answered 164 = .ok (.iload_n 1, 1) := by decide +kernel
theorem dX10_answered_165 : decode cX10_answered 165 = .ok (.iconst 2, 1) := by decide +kernel
theorem dX10_answered_166 : decode cX10_answered 166 = .ok (.irem, 1) := by decide +kernel
theorem dX10_answered_167 : decode cX10_answered 167 = .ok (.imul, 1) := by decide +kernel
theorem dX10_answered_168 : decode cX10_answered 168 = .ok (.iload 5, 2) := by decide +kernel
theorem dX10_answered_170 : decode cX10_answered 170 = .ok (.iadd, 1) := by decide +kernel
theorem dX10_answered_171 : decode cX10_answered 171 = .ok (.aload_n 0, 1) := by decide +kernel
theorem dX10_answered_172 : decode cX10_answered 172 = .ok (.getfield 92, 3) := by decide +kernel
theorem dX10_answered_175 : decode cX10_answered 175 = .ok (.bipush 8, 2) := by decide +kernel
theorem dX10_answered_177 : decode cX10_answered 177 = .ok (.iaload, 1) := by decide +kernel
theorem dX10_answered_178 : decode cX10_answered 178 = .ok (.iastore, 1) := by decide +kernel
theorem dX10_answered_179 : decode cX10_answered 179 = .ok (.goto 61, 3) := by decide +kernel
theorem dX10_answered_182 : decode cX10_answered 182 = .ok (.iload_n 3, 1) := by decide +kernel
theorem dX10_answered_183 : decode cX10_answered 183 = .ok (.iconst 3, 1) := by decide +kernel
theorem dX10_answered_184 : decode cX10_answered 184 = .ok (.if_icmp .ne 38, 3) := by decide +kernel
theorem dX10_answered_187 : decode cX10_answered 187 = .ok (.aload_n 0, 1) := by decide +kernel
theorem dX10_answered_188 : decode cX10_answered 188 = .ok (.getfield 46, 3) := by decide +kernel
theorem dX10_answered_191 : decode cX10_answered 191 = .ok (.iload_n 1, 1) := by decide +kernel
theorem dX10_answered_192 : decode cX10_answered 192 = .ok (.dup2, 1) := by decide +kernel
theorem dX10_answered_193 : decode cX10_answered 193 = .ok (.iaload, 1) := by decide +kernel
theorem dX10_answered_194 : decode cX10_answered 194 = .ok (.iconst 1, 1) := by decide +kernel
theorem dX10_answered_195 : decode cX10_answered 195 = .ok (.iadd, 1) := by decide +kernel
theorem dX10_answered_196 : decode cX10_answered 196 = .ok (.iastore, 1) := by decide +kernel
theorem dX10_answered_197 : decode cX10_answered 197 = .ok (.aload_n 0, 1) := by decide +kernel
theorem dX10_answered_198 : decode cX10_answered 198 = .ok (.getfield 46, 3) := by decide +kernel
theorem dX10_answered_201 : decode cX10_answered 201 = .ok (.iload_n 1, 1) := by decide +kernel
theorem dX10_answered_202 : decode cX10_answered 202 = .ok (.iaload, 1) := by decide +kernel
theorem dX10_answered_203 : decode cX10_answered 203 = .ok (.iconst 4, 1) := by decide +kernel
theorem dX10_answered_204 : decode cX10_answered 204 = .ok (.if_icmp .ne 36, 3) := by decide +kernel
theorem dX10_answered_207 : decode cX10_answered 207 = .ok (.aload_n 0, 1) := by decide +kernel
theorem dX10_answered_208 : decode cX10_answered 208 = .ok (.iload_n 1, 1) := by decide +kernel
theorem dX10_answered_209 : decode cX10_answered 209 = .ok (.iconst 4, 1) := by decide +kernel
theorem dX10_answered_210 : decode cX10_answered 210 = .ok (.iconst 0, 1) := by decide +kernel
theorem dX10_answered_211 : decode cX10_answered 211 = .ok (.invokevirtual 245, 3) := by decide +kernel
theorem dX10_answered_214 : decode cX10_answered 214 = .ok (.aload_n 0, 1) := by decide +kernel
theorem dX10_answered_215 : decode cX10_answered 215 = .ok (.iload_n 1, 1) := by decide +kernel
theorem dX10_answered_216 : decode cX10_answered 216 = .ok (.invokevirtual 223, 3) := by decide +kernel
theorem dX10_answered_219 : decode cX10_answered 219 = .ok (.goto 21, 3) := by decide +kernel
theorem dX10_answered_222 : decode cX10_answered 222 = .ok (.aload_n 0, 1) := by decide +kernel
theorem dX10_answered_223 : decode cX10_answered 223 = .ok (.iload_n 1, 1) := by decide +kernel
theorem dX10_answered_224 : decode cX10_answered 224 = .ok (.iconst 1, 1) := by decide +kernel
theorem dX10_answered_225 : decode cX10_answered 225 = .ok (.aload_n 0, 1) := by decide +kernel
theorem dX10_answered_226 : decode cX10_answered 226 = .ok (.getfield 92, 3) := by decide +kernel
theorem dX10_answered_229 : decode cX10_answered 229 = .ok (.bipush 8, 2) := by decide +kernel
theorem dX10_answered_231 : decode cX10_answered 231 = .ok (.iaload, 1) := by decide +kernel
theorem dX10_answered_232 : decode cX10_answered 232 = .ok (.invokevirtual 245, 3) := by decide +kernel
theorem dX10_answered_235 : decode cX10_answered 235 = .ok (.aload_n 0, 1) := by decide +kernel
theorem dX10_answered_236 : decode cX10_answered 236 = .ok (.iload_n 1, 1) := by decide +kernel
theorem dX10_answered_237 : decode cX10_answered 237 = .ok (.invokevirtual 223, 3) := by decide +kernel
theorem dX10_answered_240 : decode cX10_answered 240 = .ok (.return_, 1) := by decide +kernel
theorem dX10_post_0 : decode cX10_post 0 = .ok (.aload_n 0, 1) := by decide +kernel
theorem dX10_post_1 : decode cX10_post 1 = .ok (.getfield 22, 3) := by decide +kernel
theorem dX10_post_4 : decode cX10_post 4 = .ok (.iload_n 1, 1) := by decide +kernel
theorem dX10_post_5 : decode cX10_post 5 = .ok (.iaload, 1) := by decide +kernel
theorem dX10_post_6 : decode cX10_post 6 = .ok (.iconst 1, 1) := by decide +kernel
theorem dX10_post_7 : decode cX10_post 7 = .ok (.if_icmp .eq 7, 3) := by decide +kernel
theorem dX10_post_10 : decode cX10_post 10 = .ok (.sipush (-1003), 3) := by decide +kernel
theorem dX10_post_13 : decode cX10_post 13 = .ok (.ireturn, 1) := by decide +kernel
theorem dX10_post_14 : decode cX10_post 14 = .ok (.iconst 0, 1) := by decide +kernel
theorem dX10_post_15 : decode cX10_post 15 = .ok (.istore 6, 2) := by decide +kernel
theorem dX10_post_17 : decode cX10_post 17 = .ok (.iconst 0, 1) := by decide +kernel
theorem dX10_post_18 : decode cX10_post 18 = .ok (.istore 7, 2) := by decide +kernel
theorem dX10_post_20 : decode cX10_post 20 = .ok (.iload 7, 2) := by decide +kernel
theorem dX10_post_22 : decode cX10_post 22 = .ok (.aload_n 0, 1) := by decide +kernel
theorem dX10_post_23 : decode cX10_post 23 = .ok (.getfield 28, 3) := by decide +kernel
theorem dX10_post_26 : decode cX10_post 26 = .ok (.iload_n 1, 1) := by decide +kernel
theorem dX10_post_27 : decode cX10_post 27 = .ok (.iaload, 1) := by decide +kernel
theorem dX10_post_28 : decode cX10_post 28 = .ok (.if_icmp .ge 39, 3) := by decide +kernel
theorem dX10_post_31 : decode cX10_post 31 = .ok (.iload 6, 2) := by decide +kernel
theorem dX10_post_33 : decode cX10_post 33 = .ok (.aload_n 0, 1) := by decide +kernel
theorem dX10_post_34 : decode cX10_post 34 = .ok (.getfield 31, 3) := by decide +kernel
theorem dX10_post_37 : decode cX10_post 37 = .ok (.bipush 7, 2) := by decide +kernel
theorem dX10_post_39 : decode cX10_post 39 = .ok (.iconst 4, 1) := by decide +kernel
theorem dX10_post_40 : decode cX10_post 40 = .ok (.iload_n 1, 1) := by decide +kernel
theorem dX10_post_41 : decode cX10_post 41 = .ok (.imul, 1) := by decide +kernel
theorem dX10_post_42 : decode cX10_post 42 = .ok (.iload 7, 2) := by decide +kernel
theorem dX10_post_44 : decode cX10_post 44 = .ok (.iadd, 1) := by decide +kernel
theorem dX10_post_45 : decode cX10_post 45 = .ok (.imul, 1) := by decide +kernel
theorem dX10_post_46 : decode cX10_post 46 = .ok (.iconst 1, 1) := by decide +kernel
theorem dX10_post_47 : decode cX10_post 47 = .ok (.iadd, 1) := by decide +kernel
theorem dX10_post_48 : decode cX10_post 48 = .ok (.iaload, 1) := by decide +kernel
theorem dX10_post_49 : decode cX10_post 49 = .ok (.iconst 1, 1) := by decide +kernel
theorem dX10_post_50 : decode cX10_post 50 = .ok (.if_icmp .le 7, 3) := by decide +kernel
theorem dX10_post_53 : decode cX10_post 53 = .ok (.iconst 1, 1) := by decide +kernel
theorem dX10_post_54 : decode cX10_post 54 = .ok (.goto 4, 3) := by decide +kernel
theorem dX10_post_57 : decode cX10_post 57 = .ok (.iconst 0, 1) := by decide +kernel
theorem dX10_post_58 : decode cX10_post 58 = .ok (.iadd, 1) := by decide +kernel
theorem dX10_post_59 : decode cX10_post 59 = .ok (.istore 6, 2) := by decide +kernel
theorem dX10_post_61 : decode cX10_post 61 = .ok (.iinc 7 1, 3) := by decide +kernel
theorem dX10_post_64 : decode cX10_post 64 = .ok (.goto (-44), 3) := by decide +kernel
theorem dX10_post_67 : decode cX10_post 67 = .ok (.aload_n 0, 1) := by decide +kernel
theorem dX10_post_68 : decode cX10_post 68 = .ok (.getfield 28, 3) := by decide +kernel
theorem dX10_post_71 : decode cX10_post 71 = .ok (.iload_n 1, 1) := by decide +kernel
theorem dX10_post_72 : decode cX10_post 72 = .ok (.iaload, 1) := by decide +kernel
theorem dX10_post_73 : decode cX10_post 73 = .ok (.iconst 4, 1) := by decide +kernel
theorem dX10_post_74 : decode cX10_post 74 = .ok (.if_icmp .eq 14, 3) := by decide +kernel
theorem dX10_post_77 : decode cX10_post 77 = .ok (.iload_n 2, 1) := by decide +kernel
theorem dX10_post_78 : decode cX10_post 78 = .ok (.iconst 1, 1) := by decide +kernel
theorem dX10_post_79 : decode cX10_post 79 = .ok (.if_icmp .le 13, 3) := by decide +kernel
theorem dX10_post_82 : decode cX10_post 82 = .ok (.iload 6, 2) := by decide +kernel
theorem dX10_post_84 : decode cX10_post 84 = .ok (.iconst 2, 1) := by decide +kernel
theorem dX10_post_85 : decode cX10_post 85 = .ok (.if_icmp .ne 7, 3) := by decide +kernel
theorem dX10_post_88 : decode cX10_post 88 = .ok (.sipush (-1004), 3) := by decide +kernel
theorem dX10_post_91 : decode cX10_post 91 = .ok (.ireturn, 1) := by decide +kernel
theorem dX10_post_92 : decode cX10_post 92 = .ok (.bipush 7, 2) := by decide +kernel
theorem dX10_post_94 : decode cX10_post 94 = .ok (.iconst 4, 1) := by decide +kernel
theorem dX10_post_95 : decode cX10_post 95 = .ok (.iload_n 1, 1) := by decide +kernel
theorem dX10_post_96 : decode cX10_post 96 = .ok (.imul, 1) := by decide +kernel
theorem dX10_post_97 : decode cX10_post 97 = .ok (.aload_n 0, 1) := by decide +kernel
theorem dX10_post_98 : decode cX10_post 98 = .ok (.getfield 28, 3) := by decide +kernel
theorem dX10_post_101 : decode cX10_post 101 = .ok (.iload_n 1, 1) := by decide +kernel
theorem dX10_post_102 : decode cX10_post 102 = .ok (.iaload, 1) := by decide +kernel
theorem dX10_post_103 : decode cX10_post 103 = .ok (.iadd, 1) := by decide +kernel
theorem dX10_post_104 : decode cX10_post 104 = .ok (.imul, 1) := by decide +kernel
theorem dX10_post_105 : decode cX10_post 105 = .ok (.istore 7, 2) := by decide +kernel
theorem dX10_post_107 : decode cX10_post 107 = .ok (.aload_n 0, 1) := by decide +kernel
theorem dX10_post_108 : decode cX10_post 108 = .ok (.getfield 31, 3) := by decide +kernel
theorem dX10_post_111 : decode cX10_post 111 = .ok (.iload 7, 2) := by decide +kernel
theorem dX10_post_113 : decode cX10_post 113 = .ok (.iconst 0, 1) := by decide +kernel
theorem dX10_post_114 : decode cX10_post 114 = .ok (.iadd, 1) := by decide +kernel
theorem dX10_post_115 : decode cX10_post 115 = .ok (.aload_n 0, 1) := by decide +kernel
theorem dX10_post_116 : decode cX10_post 116 = .ok (.getfield 25, 3) := by decide +kernel
theorem dX10_post_119 : decode cX10_post 119 = .ok (.iload_n 1, 1) := by decide +kernel
theorem dX10_post_120 : decode cX10_post 120 = .ok (.iaload, 1) := by decide +kernel
theorem dX10_post_121 : decode cX10_post 121 = .ok (.iastore, 1) := by decide +kernel
theorem dX10_post_122 : decode cX10_post 122 = .ok (.aload_n 0, 1) := by decide +kernel
theorem dX10_post_123 : decode cX10_post 123 = .ok (.getfield 31, 3) := by decide +kernel
theorem dX10_post_126 : decode cX10_post 126 = .ok (.iload 7, 2) := by decide +kernel
theorem dX10_post_128 : decode cX10_post 128 = .ok (.iconst 1, 1) := by decide +kernel
theorem dX10_post_129 : decode cX10_post 129 = .ok (.iadd, 1) := by decide +kernel
theorem dX10_post_130 : decode cX10_post 130 = .ok (.iload_n 2, 1) := by decide +kernel
theorem dX10_post_131 : decode cX10_post 131 = .ok (.iastore, 1) := by decide +kernel
theorem dX10_post_132 : decode cX10_post 132 = .ok (.aload_n 0, 1) := by decide +kernel
theorem dX10_post_133 : decode cX10_post 133 = .ok (.getfield 31, 3) := by decide +kernel
theorem dX10_post_136 : decode cX10_post 136 = .ok (.iload 7, 2) := by decide +kernel
theorem dX10_post_138 : decode cX10_post 138 = .ok (.iconst 2, 1) := by decide +kernel
theorem dX10_post_139 : decode cX10_post 139 = .ok (.iadd, 1) := by decide +kernel
theorem dX10_post_140 : decode cX10_post 140 = .ok (.aload_n 0, 1) := by decide +kernel
theorem dX10_post_141 : decode cX10_post 141 = .ok (.getfield 59, 3) := by decide +kernel
theorem dX10_post_144 : decode cX10_post 144 = .ok (.iload_n 1, 1) := by decide +kernel
theorem dX10_post_145 : decode cX10_post 145 = .ok (.iaload, 1) := by decide +kernel
theorem dX10_post_146 : decode cX10_post 146 = .ok (.iastore, 1) := by decide +kernel
theorem dX10_post_147 : decode cX10_post 147 = .ok (.aload_n 0, 1) := by decide +kernel
theorem dX10_post_148 : decode cX10_post 148 = .ok (.getfield 31, 3) := by decide +kernel
theorem dX10_post_151 : decode cX10_post 151 = .ok (.iload 7, 2) := by decide +kernel
theorem dX10_post_153 : decode cX10_post 153 = .ok (.iconst 3, 1) := by decide +kernel
theorem dX10_post_154 : decode cX10_post 154 = .ok (.iadd, 1) := by decide +kernel
theorem dX10_post_155 : decode cX10_post 155 = .ok (.aload_n 0, 1) := by decide +kernel
theorem dX10_post_156 : decode cX10_post 156 = .ok (.getfield 62, 3) := by decide +kernel
theorem dX10_post_159 : decode cX10_post 159 = .ok (.iload_n 1, 1) := by decide +kernel
theorem dX10_post_160 : decode cX10_post 160 = .ok (.iaload, 1) := by decide +kernel
theorem dX10_post_161 : decode cX10_post 161 = .ok (.iastore, 1) := by decide +kernel
theorem dX10_post_162 : decode cX10_post 162 = .ok (.aload_n 0, 1) := by decide +kernel
theorem dX10_post_163 : decode cX10_post 163 = .ok (.getfield 31, 3) := by decide +kernel
theorem dX10_post_166 : decode cX10_post 166 = .ok (.iload 7, 2) := by decide +kernel
theorem dX10_post_168 : decode cX10_post 168 = .ok (.iconst 4, 1) := by decide +kernel
theorem dX10_post_169 : decode cX10_post 169 = .ok (.iadd, 1) := by decide +kernel
theorem dX10_post_170 : decode cX10_post 170 = .ok (.iload_n 3, 1) := by decide +kernel
theorem dX10_post_171 : decode cX10_post 171 = .ok (.iastore, 1) := by decide +kernel
theorem dX10_post_172 : decode cX10_post 172 = .ok (.aload_n 0, 1) := by decide +kernel
theorem dX10_post_173 : decode cX10_post 173 = .ok (.getfield 31, 3) := by decide +kernel
theorem dX10_post_176 : decode cX10_post 176 = .ok (.iload 7, 2) := by decide +kernel
theorem dX10_post_178 : decode cX10_post 178 = .ok (.iconst 5, 1) := by decide +kernel
theorem dX10_post_179 : decode cX10_post 179 = .ok (.iadd, 1) := by decide +kernel
theorem dX10_post_180 : decode cX10_post 180 = .ok (.iload 4, 2) := by decide +kernel
theorem dX10_post_182 : decode cX10_post 182 = .ok (.iastore, 1) := by decide +kernel
theorem dX10_post_183 : decode cX10_post 183 = .ok (.aload_n 0, 1) := by decide +kernel
theorem dX10_post_184 : decode cX10_post 184 = .ok (.getfield 31, 3) := by decide +kernel
theorem dX10_post_187 : decode cX10_post 187 = .ok (.iload 7, 2) := by decide +kernel
theorem dX10_post_189 : decode cX10_post 189 = .ok (.bipush 6, 2) := by decide +kernel
theorem dX10_post_191 : decode cX10_post 191 = .ok (.iadd, 1) := by decide +kernel
theorem dX10_post_192 : decode cX10_post 192 = .ok (.iload 5, 2) := by decide +kernel
theorem dX10_post_194 : decode cX10_post 194 = .ok (.iastore, 1) := by decide +kernel
theorem dX10_post_195 : decode cX10_post 195 = .ok (.aload_n 0, 1) := by decide +kernel
theorem dX10_post_196 : decode cX10_post 196 = .ok (.getfield 28, 3) := by decide +kernel
theorem dX10_post_199 : decode cX10_post 199 = .ok (.iload_n 1, 1) := by decide +kernel
theorem dX10_post_200 : decode cX10_post 200 = .ok (.dup2, 1) := by decide +kernel
theorem dX10_post_201 : decode cX10_post 201 = .ok (.iaload, 1) := by decide +kernel
theorem dX10_post_202 : decode cX10_post 202 = .ok (.iconst 1, 1) := by decide +kernel
theorem dX10_post_203 : decode cX10_post 203 = .ok (.iadd, 1) := by decide +kernel
theorem dX10_post_204 : decode cX10_post 204 = .ok (.iastore, 1) := by decide +kernel
theorem dX10_post_205 : decode cX10_post 205 = .ok (.aload_n 0, 1) := by decide +kernel
theorem dX10_post_206 : decode cX10_post 206 = .ok (.getfield 25, 3) := by decide +kernel
theorem dX10_post_209 : decode cX10_post 209 = .ok (.iload_n 1, 1) := by decide +kernel
theorem dX10_post_210 : decode cX10_post 210 = .ok (.dup2, 1) := by decide +kernel
theorem dX10_post_211 : decode cX10_post 211 = .ok (.iaload, 1) := by decide +kernel
theorem dX10_post_212 : decode cX10_post 212 = .ok (.iconst 1, 1) := by decide +kernel
theorem dX10_post_213 : decode cX10_post 213 = .ok (.iadd, 1) := by decide +kernel
theorem dX10_post_214 : decode cX10_post 214 = .ok (.iastore, 1) := by decide +kernel
theorem dX10_post_215 : decode cX10_post 215 = .ok (.aload_n 0, 1) := by decide +kernel
theorem dX10_post_216 : decode cX10_post 216 = .ok (.iload_n 1, 1) := by decide +kernel
theorem dX10_post_217 : decode cX10_post 217 = .ok (.aload_n 0, 1) := by decide +kernel
theorem dX10_post_218 : decode cX10_post 218 = .ok (.getfield 28, 3) := by decide +kernel
theorem dX10_post_221 : decode cX10_post 221 = .ok (.iload_n 1, 1) := by decide +kernel
theorem dX10_post_222 : decode cX10_post 222 = .ok (.iaload, 1) := by decide +kernel
theorem dX10_post_223 : decode cX10_post 223 = .ok (.iconst 1, 1) := by decide +kernel
theorem dX10_post_224 : decode cX10_post 224 = .ok (.isub, 1) := by decide +kernel
theorem dX10_post_225 : decode cX10_post 225 = .ok (.invokevirtual 251, 3) := by decide +kernel
theorem dX10_post_228 : decode cX10_post 228 = .ok (.aload_n 0, 1) := by decide +kernel
theorem dX10_post_229 : decode cX10_post 229 = .ok (.getfield 25, 3) := by decide +kernel
theorem dX10_post_232 : decode cX10_post 232 = .ok (.iload_n 1, 1) := by decide +kernel
theorem dX10_post_233 : decode cX10_post 233 = .ok (.iaload, 1) := by decide +kernel
theorem dX10_post_234 : decode cX10_post 234 = .ok (.iconst 1, 1) := by decide +kernel
theorem dX10_post_235 : decode cX10_post 235 = .ok (.isub, 1) := by decide +kernel
theorem dX10_post_236 : decode cX10_post 236 = .ok (.ireturn, 1) := by decide +kernel
theorem dX10_send_0 : decode cX10_send 0 = .ok (.iload_n 1, 1) := by decide +kernel
theorem dX10_send_1 : decode cX10_send 1 = .ok (.invokestatic 220, 3) := by decide +kernel
theorem dX10_send_4 : decode cX10_send 4 = .ok (.ifCond .ne 9, 3) := by decide +kernel
theorem dX10_send_7 : decode cX10_send 7 = .ok (.sipush (-1001), 3) := by decide +kernel
theorem dX10_send_10 : decode cX10_send 10 = .ok (.goto 25, 3) := by decide +kernel
theorem dX10_send_13 : decode cX10_send 13 = .ok (.iload_n 2, 1) := by decide +kernel
theorem dX10_send_14 : decode cX10_send 14 = .ok (.invokestatic 200, 3) := by decide +kernel
theorem dX10_send_17 : decode cX10_send 17 = .ok (.ifCond .ne 9, 3) := by decide +kernel
theorem dX10_send_20 : decode cX10_send 20 = .ok (.sipush (-1002), 3) := by decide +kernel
theorem dX10_send_23 : decode cX10_send 23 = .ok (.goto 12, 3) := by decide +kernel
theorem dX10_send_26 : decode cX10_send 26 = .ok (.aload_n 0, 1) := by decide +kernel
theorem dX10_send_27 : decode cX10_send 27 = .ok (.iload_n 1, 1) := by decide +kernel
theorem dX10_send_28 : decode cX10_send 28 = .ok (.iconst 0, 1) := by decide +kernel
theorem dX10_send_29 : decode cX10_send 29 = .ok (.iload_n 2, 1) := by decide +kernel
theorem dX10_send_30 : decode cX10_send 30 = .ok (.iconst 0, 1) := by decide +kernel
theorem dX10_send_31 : decode cX10_send 31 = .ok (.iconst 0, 1) := by decide +kernel
theorem dX10_send_32 : decode cX10_send 32 = .ok (.invokevirtual 282, 3) := by decide +kernel
theorem dX10_send_35 : decode cX10_send 35 = .ok (.ireturn, 1) := by decide +kernel
theorem dX10_store_0 : decode cX10_store 0 = .ok (.iload_n 1, 1) := by decide +kernel
theorem dX10_store_1 : decode cX10_store 1 = .ok (.invokestatic 220, 3) := by decide +kernel
theorem dX10_store_4 : decode cX10_store 4 = .ok (.ifCond .ne 9, 3) := by decide +kernel
theorem dX10_store_7 : decode cX10_store 7 = .ok (.sipush (-1001), 3) := by decide +kernel
theorem dX10_store_10 : decode cX10_store 10 = .ok (.goto 25, 3) := by decide +kernel
theorem dX10_store_13 : decode cX10_store 13 = .ok (.iload_n 2, 1) := by decide +kernel
theorem dX10_store_14 : decode cX10_store 14 = .ok (.invokestatic 200, 3) := by decide +kernel
theorem dX10_store_17 : decode cX10_store 17 = .ok (.ifCond .ne 9, 3) := by decide +kernel
theorem dX10_store_20 : decode cX10_store 20 = .ok (.sipush (-1002), 3) := by decide +kernel
theorem dX10_store_23 : decode cX10_store 23 = .ok (.goto 12, 3) := by decide +kernel
theorem dX10_store_26 : decode cX10_store 26 = .ok (.aload_n 0, 1) := by decide +kernel
theorem dX10_store_27 : decode cX10_store 27 = .ok (.iload_n 1, 1) := by decide +kernel
theorem dX10_store_28 : decode cX10_store 28 = .ok (.iconst 1, 1) := by decide +kernel
theorem dX10_store_29 : decode cX10_store 29 = .ok (.iload_n 2, 1) := by decide +kernel
theorem dX10_store_30 : decode cX10_store 30 = .ok (.iconst 0, 1) := by decide +kernel
theorem dX10_store_31 : decode cX10_store 31 = .ok (.iconst 0, 1) := by decide +kernel
theorem dX10_store_32 : decode cX10_store 32 = .ok (.invokevirtual 282, 3) := by decide +kernel
theorem dX10_store_35 : decode cX10_store 35 = .ok (.ireturn, 1) := by decide +kernel
theorem dX10_read_0 : decode cX10_read 0 = .ok (.iload_n 1, 1) := by decide +kernel
theorem dX10_read_1 : decode cX10_read 1 = .ok (.invokestatic 220, 3) := by decide +kernel
theorem dX10_read_4 : decode cX10_read 4 = .ok (.ifCond .eq 10, 3) := by decide +kernel
theorem dX10_read_7 : decode cX10_read 7 = .ok (.iload_n 2, 1) := by decide +kernel
theorem dX10_read_8 : decode cX10_read 8 = .ok (.invokestatic 197, 3) := by decide +kernel
theorem dX10_read_11 : decode cX10_read 11 = .ok (.ifCond .ne 9, 3) := by decide +kernel
theorem dX10_read_14 : decode cX10_read 14 = .ok (.sipush (-1001), 3) := by decide +kernel
theorem dX10_read_17 : decode cX10_read 17 = .ok (.goto 12, 3) := by decide +kernel
theorem dX10_read_20 : decode cX10_read 20 = .ok (.aload_n 0, 1) := by decide +kernel
theorem dX10_read_21 : decode cX10_read 21 = .ok (.iload_n 1, 1) := by decide +kernel
theorem dX10_read_22 : decode cX10_read 22 = .ok (.iconst 2, 1) := by decide +kernel
theorem dX10_read_23 : decode cX10_read 23 = .ok (.iconst 0, 1) := by decide +kernel
theorem dX10_read_24 : decode cX10_read 24 = .ok (.iconst 0, 1) := by decide +kernel
theorem dX10_read_25 : decode cX10_read 25 = .ok (.iload_n 2, 1) := by decide +kernel
theorem dX10_read_26 : decode cX10_read 26 = .ok (.invokevirtual 282, 3) := by decide +kernel
theorem dX10_read_29 : decode cX10_read 29 = .ok (.ireturn, 1) := by decide +kernel
theorem dX10_add_0 : decode cX10_add 0 = .ok (.iload_n 1, 1) := by decide +kernel
theorem dX10_add_1 : decode cX10_add 1 = .ok (.invokestatic 220, 3) := by decide +kernel
theorem dX10_add_4 : decode cX10_add 4 = .ok (.ifCond .eq 10, 3) := by decide +kernel
theorem dX10_add_7 : decode cX10_add 7 = .ok (.iload_n 3, 1) := by decide +kernel
theorem dX10_add_8 : decode cX10_add 8 = .ok (.invokestatic 197, 3) := by decide +kernel
end
section
theorem dX10_add_11 : decode cX10_add 11 = .ok (.ifCond .ne 9, 3) := by decide +kernel
theorem dX10_add_14 : decode cX10_add 14 = .ok (.sipush (-1001), 3) := by decide +kernel
theorem dX10_add_17 : decode cX10_add 17 = .ok (.goto 25, 3) := by decide +kernel
theorem dX10_add_20 : decode cX10_add 20 = .ok (.iload_n 2, 1) := by decide +kernel
theorem dX10_add_21 : decode cX10_add 21 = .ok (.invokestatic 200, 3) := by decide +kernel
theorem dX10_add_24 : decode cX10_add 24 = .ok (.ifCond .ne 9, 3) := by decide +kernel
theorem dX10_add_27 : decode cX10_add 27 = .ok (.sipush (-1002), 3) := by decide +kernel
theorem dX10_add_30 : decode cX10_add 30 = .ok (.goto 12, 3) := by decide +kernel
theorem dX10_add_33 : decode cX10_add 33 = .ok (.aload_n 0, 1) := by decide +kernel
theorem dX10_add_34 : decode cX10_add 34 = .ok (.iload_n 1, 1) := by decide +kernel
theorem dX10_add_35 : decode cX10_add 35 = .ok (.iconst 3, 1) := by decide +kernel
theorem dX10_add_36 : decode cX10_add 36 = .ok (.iload_n 2, 1) := by decide +kernel
theorem dX10_add_37 : decode cX10_add 37 = .ok (.iconst 0, 1) := by decide +kernel
theorem dX10_add_38 : decode cX10_add 38 = .ok (.iload_n 3, 1) := by decide +kernel
theorem dX10_add_39 : decode cX10_add 39 = .ok (.invokevirtual 282, 3) := by decide +kernel
theorem dX10_add_42 : decode cX10_add 42 = .ok (.ireturn, 1) := by decide +kernel
theorem dX10_swap_0 : decode cX10_swap 0 = .ok (.iload_n 1, 1) := by decide +kernel
theorem dX10_swap_1 : decode cX10_swap 1 = .ok (.invokestatic 220, 3) := by decide +kernel
theorem dX10_swap_4 : decode cX10_swap 4 = .ok (.ifCond .eq 11, 3) := by decide +kernel
theorem dX10_swap_7 : decode cX10_swap 7 = .ok (.iload 4, 2) := by decide +kernel
theorem dX10_swap_9 : decode cX10_swap 9 = .ok (.invokestatic 197, 3) := by decide +kernel
theorem dX10_swap_12 : decode cX10_swap 12 = .ok (.ifCond .ne 9, 3) := by decide +kernel
theorem dX10_swap_15 : decode cX10_swap 15 = .ok (.sipush (-1001), 3) := by decide +kernel
theorem dX10_swap_18 : decode cX10_swap 18 = .ok (.goto 33, 3) := by decide +kernel
theorem dX10_swap_21 : decode cX10_swap 21 = .ok (.iload_n 2, 1) := by decide +kernel
theorem dX10_swap_22 : decode cX10_swap 22 = .ok (.invokestatic 200, 3) := by decide +kernel
theorem dX10_swap_25 : decode cX10_swap 25 = .ok (.ifCond .eq 10, 3) := by decide +kernel
theorem dX10_swap_28 : decode cX10_swap 28 = .ok (.iload_n 3, 1) := by decide +kernel
theorem dX10_swap_29 : decode cX10_swap 29 = .ok (.invokestatic 200, 3) := by decide +kernel
theorem dX10_swap_32 : decode cX10_swap 32 = .ok (.ifCond .ne 9, 3) := by decide +kernel
theorem dX10_swap_35 : decode cX10_swap 35 = .ok (.sipush (-1002), 3) := by decide +kernel
theorem dX10_swap_38 : decode cX10_swap 38 = .ok (.goto 13, 3) := by decide +kernel
theorem dX10_swap_41 : decode cX10_swap 41 = .ok (.aload_n 0, 1) := by decide +kernel
theorem dX10_swap_42 : decode cX10_swap 42 = .ok (.iload_n 1, 1) := by decide +kernel
theorem dX10_swap_43 : decode cX10_swap 43 = .ok (.iconst 4, 1) := by decide +kernel
theorem dX10_swap_44 : decode cX10_swap 44 = .ok (.iload_n 2, 1) := by decide +kernel
theorem dX10_swap_45 : decode cX10_swap 45 = .ok (.iload_n 3, 1) := by decide +kernel
theorem dX10_swap_46 : decode cX10_swap 46 = .ok (.iload 4, 2) := by decide +kernel
theorem dX10_swap_48 : decode cX10_swap 48 = .ok (.invokevirtual 282, 3) := by decide +kernel
theorem dX10_swap_51 : decode cX10_swap 51 = .ok (.ireturn, 1) := by decide +kernel
theorem dX10_receive_0 : decode cX10_receive 0 = .ok (.iload_n 1, 1) := by decide +kernel
theorem dX10_receive_1 : decode cX10_receive 1 = .ok (.invokestatic 220, 3) := by decide +kernel
theorem dX10_receive_4 : decode cX10_receive 4 = .ok (.ifCond .eq 10, 3) := by decide +kernel
theorem dX10_receive_7 : decode cX10_receive 7 = .ok (.iload_n 2, 1) := by decide +kernel
theorem dX10_receive_8 : decode cX10_receive 8 = .ok (.invokestatic 197, 3) := by decide +kernel
theorem dX10_receive_11 : decode cX10_receive 11 = .ok (.ifCond .ne 7, 3) := by decide +kernel
theorem dX10_receive_14 : decode cX10_receive 14 = .ok (.sipush (-1001), 3) := by decide +kernel
theorem dX10_receive_17 : decode cX10_receive 17 = .ok (.ireturn, 1) := by decide +kernel
theorem dX10_receive_18 : decode cX10_receive 18 = .ok (.aload_n 0, 1) := by decide +kernel
theorem dX10_receive_19 : decode cX10_receive 19 = .ok (.getfield 22, 3) := by decide +kernel
theorem dX10_receive_22 : decode cX10_receive 22 = .ok (.iload_n 1, 1) := by decide +kernel
theorem dX10_receive_23 : decode cX10_receive 23 = .ok (.iaload, 1) := by decide +kernel
theorem dX10_receive_24 : decode cX10_receive 24 = .ok (.iconst 1, 1) := by decide +kernel
theorem dX10_receive_25 : decode cX10_receive 25 = .ok (.if_icmp .eq 7, 3) := by decide +kernel
theorem dX10_receive_28 : decode cX10_receive 28 = .ok (.sipush (-1003), 3) := by decide +kernel
theorem dX10_receive_31 : decode cX10_receive 31 = .ok (.ireturn, 1) := by decide +kernel
theorem dX10_receive_32 : decode cX10_receive 32 = .ok (.aload_n 0, 1) := by decide +kernel
theorem dX10_receive_33 : decode cX10_receive 33 = .ok (.getfield 37, 3) := by decide +kernel
theorem dX10_receive_36 : decode cX10_receive 36 = .ok (.iload_n 1, 1) := by decide +kernel
theorem dX10_receive_37 : decode cX10_receive 37 = .ok (.iaload, 1) := by decide +kernel
theorem dX10_receive_38 : decode cX10_receive 38 = .ok (.iconst 3, 1) := by decide +kernel
theorem dX10_receive_39 : decode cX10_receive 39 = .ok (.if_icmp .ne 7, 3) := by decide +kernel
theorem dX10_receive_42 : decode cX10_receive 42 = .ok (.sipush (-1004), 3) := by decide +kernel
theorem dX10_receive_45 : decode cX10_receive 45 = .ok (.ireturn, 1) := by decide +kernel
theorem dX10_receive_46 : decode cX10_receive 46 = .ok (.aload_n 0, 1) := by decide +kernel
theorem dX10_receive_47 : decode cX10_receive 47 = .ok (.getfield 40, 3) := by decide +kernel
theorem dX10_receive_50 : decode cX10_receive 50 = .ok (.iconst 3, 1) := by decide +kernel
theorem dX10_receive_51 : decode cX10_receive 51 = .ok (.iload_n 1, 1) := by decide +kernel
theorem dX10_receive_52 : decode cX10_receive 52 = .ok (.imul, 1) := by decide +kernel
theorem dX10_receive_53 : decode cX10_receive 53 = .ok (.aload_n 0, 1) := by decide +kernel
theorem dX10_receive_54 : decode cX10_receive 54 = .ok (.getfield 37, 3) := by decide +kernel
theorem dX10_receive_57 : decode cX10_receive 57 = .ok (.iload_n 1, 1) := by decide +kernel
theorem dX10_receive_58 : decode cX10_receive 58 = .ok (.iaload, 1) := by decide +kernel
theorem dX10_receive_59 : decode cX10_receive 59 = .ok (.iadd, 1) := by decide +kernel
theorem dX10_receive_60 : decode cX10_receive 60 = .ok (.iload_n 2, 1) := by decide +kernel
theorem dX10_receive_61 : decode cX10_receive 61 = .ok (.iastore, 1) := by decide +kernel
theorem dX10_receive_62 : decode cX10_receive 62 = .ok (.aload_n 0, 1) := by decide +kernel
theorem dX10_receive_63 : decode cX10_receive 63 = .ok (.getfield 37, 3) := by decide +kernel
theorem dX10_receive_66 : decode cX10_receive 66 = .ok (.iload_n 1, 1) := by decide +kernel
theorem dX10_receive_67 : decode cX10_receive 67 = .ok (.dup2, 1) := by decide +kernel
theorem dX10_receive_68 : decode cX10_receive 68 = .ok (.iaload, 1) := by decide +kernel
theorem dX10_receive_69 : decode cX10_receive 69 = .ok (.iconst 1, 1) := by decide +kernel
theorem dX10_receive_70 : decode cX10_receive 70 = .ok (.iadd, 1) := by decide +kernel
theorem dX10_receive_71 : decode cX10_receive 71 = .ok (.iastore, 1) := by decide +kernel
theorem dX10_receive_72 : decode cX10_receive 72 = .ok (.aload_n 0, 1) := by decide +kernel
theorem dX10_receive_73 : decode cX10_receive 73 = .ok (.getfield 37, 3) := by decide +kernel
theorem dX10_receive_76 : decode cX10_receive 76 = .ok (.iload_n 1, 1) := by decide +kernel
theorem dX10_receive_77 : decode cX10_receive 77 = .ok (.iaload, 1) := by decide +kernel
theorem dX10_receive_78 : decode cX10_receive 78 = .ok (.ireturn, 1) := by decide +kernel
theorem dX10_tick_0 : decode cX10_tick 0 = .ok (.iload_n 1, 1) := by decide +kernel
theorem dX10_tick_1 : decode cX10_tick 1 = .ok (.invokestatic 220, 3) := by decide +kernel
theorem dX10_tick_4 : decode cX10_tick 4 = .ok (.ifCond .ne 7, 3) := by decide +kernel
theorem dX10_tick_7 : decode cX10_tick 7 = .ok (.sipush (-1001), 3) := by decide +kernel
theorem dX10_tick_10 : decode cX10_tick 10 = .ok (.ireturn, 1) := by decide +kernel
theorem dX10_tick_11 : decode cX10_tick 11 = .ok (.aload_n 0, 1) := by decide +kernel
theorem dX10_tick_12 : decode cX10_tick 12 = .ok (.getfield 22, 3) := by decide +kernel
theorem dX10_tick_15 : decode cX10_tick 15 = .ok (.iload_n 1, 1) := by decide +kernel
theorem dX10_tick_16 : decode cX10_tick 16 = .ok (.iaload, 1) := by decide +kernel
theorem dX10_tick_17 : decode cX10_tick 17 = .ok (.iconst 1, 1) := by decide +kernel
theorem dX10_tick_18 : decode cX10_tick 18 = .ok (.if_icmp .ne 12, 3) := by decide +kernel
theorem dX10_tick_21 : decode cX10_tick 21 = .ok (.aload_n 0, 1) := by decide +kernel
theorem dX10_tick_22 : decode cX10_tick 22 = .ok (.getfield 28, 3) := by decide +kernel
theorem dX10_tick_25 : decode cX10_tick 25 = .ok (.iload_n 1, 1) := by decide +kernel
theorem dX10_tick_26 : decode cX10_tick 26 = .ok (.iaload, 1) := by decide +kernel
theorem dX10_tick_27 : decode cX10_tick 27 = .ok (.ifCond .ne 7, 3) := by decide +kernel
theorem dX10_tick_30 : decode cX10_tick 30 = .ok (.sipush (-1003), 3) := by decide +kernel
theorem dX10_tick_33 : decode cX10_tick 33 = .ok (.ireturn, 1) := by decide +kernel
theorem dX10_tick_34 : decode cX10_tick 34 = .ok (.aload_n 0, 1) := by decide +kernel
theorem dX10_tick_35 : decode cX10_tick 35 = .ok (.iload_n 1, 1) := by decide +kernel
theorem dX10_tick_36 : decode cX10_tick 36 = .ok (.invokevirtual 279, 3) := by decide +kernel
theorem dX10_tick_39 : decode cX10_tick 39 = .ok (.aload_n 0, 1) := by decide +kernel
theorem dX10_tick_40 : decode cX10_tick 40 = .ok (.getfield 22, 3) := by decide +kernel
theorem dX10_tick_43 : decode cX10_tick 43 = .ok (.iload_n 1, 1) := by decide +kernel
theorem dX10_tick_44 : decode cX10_tick 44 = .ok (.iaload, 1) := by decide +kernel
theorem dX10_tick_45 : decode cX10_tick 45 = .ok (.iconst 1, 1) := by decide +kernel
theorem dX10_tick_46 : decode cX10_tick 46 = .ok (.if_icmp .ne 12, 3) := by decide +kernel
theorem dX10_tick_49 : decode cX10_tick 49 = .ok (.aload_n 0, 1) := by decide +kernel
theorem dX10_tick_50 : decode cX10_tick 50 = .ok (.getfield 43, 3) := by decide +kernel
theorem dX10_tick_53 : decode cX10_tick 53 = .ok (.iload_n 1, 1) := by decide +kernel
theorem dX10_tick_54 : decode cX10_tick 54 = .ok (.iaload, 1) := by decide +kernel
theorem dX10_tick_55 : decode cX10_tick 55 = .ok (.goto 4, 3) := by decide +kernel
theorem dX10_tick_58 : decode cX10_tick 58 = .ok (.iconst 0, 1) := by decide +kernel
theorem dX10_tick_59 : decode cX10_tick 59 = .ok (.ireturn, 1) := by decide +kernel
theorem dX10_take_0 : decode cX10_take 0 = .ok (.iload_n 1, 1) := by decide +kernel
theorem dX10_take_1 : decode cX10_take 1 = .ok (.invokestatic 194, 3) := by decide +kernel
theorem dX10_take_4 : decode cX10_take 4 = .ok (.ifCond .ne 7, 3) := by decide +kernel
theorem dX10_take_7 : decode cX10_take 7 = .ok (.sipush (-1001), 3) := by decide +kernel
theorem dX10_take_10 : decode cX10_take 10 = .ok (.ireturn, 1) := by decide +kernel
theorem dX10_take_11 : decode cX10_take 11 = .ok (.aload_n 0, 1) := by decide +kernel
theorem dX10_take_12 : decode cX10_take 12 = .ok (.getfield 74, 3) := by decide +kernel
theorem dX10_take_15 : decode cX10_take 15 = .ok (.iload_n 1, 1) := by decide +kernel
theorem dX10_take_16 : decode cX10_take 16 = .ok (.iaload, 1) := by decide +kernel
theorem dX10_take_17 : decode cX10_take 17 = .ok (.aload_n 0, 1) := by decide +kernel
theorem dX10_take_18 : decode cX10_take 18 = .ok (.getfield 77, 3) := by decide +kernel
theorem dX10_take_21 : decode cX10_take 21 = .ok (.iload_n 1, 1) := by decide +kernel
theorem dX10_take_22 : decode cX10_take 22 = .ok (.iaload, 1) := by decide +kernel
theorem dX10_take_23 : decode cX10_take 23 = .ok (.if_icmp .ne 5, 3) := by decide +kernel
theorem dX10_take_26 : decode cX10_take 26 = .ok (.iconst (-1), 1) := by decide +kernel
theorem dX10_take_27 : decode cX10_take 27 = .ok (.ireturn, 1) := by decide +kernel
theorem dX10_take_28 : decode cX10_take 28 = .ok (.aload_n 0, 1) := by decide +kernel
theorem dX10_take_29 : decode cX10_take 29 = .ok (.getfield 80, 3) := by decide +kernel
theorem dX10_take_32 : decode cX10_take 32 = .ok (.iconst 0, 1) := by decide +kernel
theorem dX10_take_33 : decode cX10_take 33 = .ok (.iload_n 1, 1) := by decide +kernel
theorem dX10_take_34 : decode cX10_take 34 = .ok (.iastore, 1) := by decide +kernel
theorem dX10_take_35 : decode cX10_take 35 = .ok (.iconst 0, 1) := by decide +kernel
theorem dX10_take_36 : decode cX10_take 36 = .ok (.istore_n 2, 1) := by decide +kernel
theorem dX10_take_37 : decode cX10_take 37 = .ok (.iload_n 2, 1) := by decide +kernel
theorem dX10_take_38 : decode cX10_take 38 = .ok (.iconst 5, 1) := by decide +kernel
theorem dX10_take_39 : decode cX10_take 39 = .ok (.if_icmp .ge 38, 3) := by decide +kernel
theorem dX10_take_42 : decode cX10_take 42 = .ok (.aload_n 0, 1) := by decide +kernel
theorem dX10_take_43 : decode cX10_take 43 = .ok (.getfield 80, 3) := by decide +kernel
theorem dX10_take_46 : decode cX10_take 46 = .ok (.iconst 1, 1) := by decide +kernel
theorem dX10_take_47 : decode cX10_take 47 = .ok (.iload_n 2, 1) := by decide +kernel
theorem dX10_take_48 : decode cX10_take 48 = .ok (.iadd, 1) := by decide +kernel
theorem dX10_take_49 : decode cX10_take 49 = .ok (.aload_n 0, 1) := by decide +kernel
theorem dX10_take_50 : decode cX10_take 50 = .ok (.getfield 71, 3) := by decide +kernel
theorem dX10_take_53 : decode cX10_take 53 = .ok (.iconst 5, 1) := by decide +kernel
theorem dX10_take_54 : decode cX10_take 54 = .ok (.sipush 600, 3) := by decide +kernel
theorem dX10_take_57 : decode cX10_take 57 = .ok (.iload_n 1, 1) := by decide +kernel
theorem dX10_take_58 : decode cX10_take 58 = .ok (.imul, 1) := by decide +kernel
theorem dX10_take_59 : decode cX10_take 59 = .ok (.aload_n 0, 1) := by decide +kernel
theorem dX10_take_60 : decode cX10_take 60 = .ok (.getfield 74, 3) := by decide +kernel
theorem dX10_take_63 : decode cX10_take 63 = .ok (.iload_n 1, 1) := by decide +kernel
theorem dX10_take_64 : decode cX10_take 64 = .ok (.iaload, 1) := by decide +kernel
theorem dX10_take_65 : decode cX10_take 65 = .ok (.iadd, 1) := by decide +kernel
theorem dX10_take_66 : decode cX10_take 66 = .ok (.imul, 1) := by decide +kernel
theorem dX10_take_67 : decode cX10_take 67 = .ok (.iload_n 2, 1) := by decide +kernel
theorem dX10_take_68 : decode cX10_take 68 = .ok (.iadd, 1) := by decide +kernel
theorem dX10_take_69 : decode cX10_take 69 = .ok (.iaload, 1) := by decide +kernel
theorem dX10_take_70 : decode cX10_take 70 = .ok (.iastore, 1) := by decide +kernel
theorem dX10_take_71 : decode cX10_take 71 = .ok (.iinc 2 1, 3) := by decide +kernel
theorem dX10_take_74 : decode cX10_take 74 = .ok (.goto (-37), 3) := by decide +kernel
theorem dX10_take_77 : decode cX10_take 77 = .ok (.aload_n 0, 1) := by decide +kernel
theorem dX10_take_78 : decode cX10_take 78 = .ok (.getfield 74, 3) := by decide +kernel
theorem dX10_take_81 : decode cX10_take 81 = .ok (.iload_n 1, 1) := by decide +kernel
theorem dX10_take_82 : decode cX10_take 82 = .ok (.dup2, 1) := by decide +kernel
theorem dX10_take_83 : decode cX10_take 83 = .ok (.iaload, 1) := by decide +kernel
theorem dX10_take_84 : decode cX10_take 84 = .ok (.iconst 1, 1) := by decide +kernel
theorem dX10_take_85 : decode cX10_take 85 = .ok (.iadd, 1) := by decide +kernel
theorem dX10_take_86 : decode cX10_take 86 = .ok (.iastore, 1) := by decide +kernel
theorem dX10_take_87 : decode cX10_take 87 = .ok (.aload_n 0, 1) := by decide +kernel
theorem dX10_take_88 : decode cX10_take 88 = .ok (.iconst 1, 1) := by decide +kernel
theorem dX10_take_89 : decode cX10_take 89 = .ok (.putfield 116, 3) := by decide +kernel
theorem dX10_take_92 : decode cX10_take 92 = .ok (.aload_n 0, 1) := by decide +kernel
theorem dX10_take_93 : decode cX10_take 93 = .ok (.getfield 80, 3) := by decide +kernel
theorem dX10_take_96 : decode cX10_take 96 = .ok (.iconst 4, 1) := by decide +kernel
theorem dX10_take_97 : decode cX10_take 97 = .ok (.iaload, 1) := by decide +kernel
theorem dX10_take_98 : decode cX10_take 98 = .ok (.ireturn, 1) := by decide +kernel
theorem dX10_taken_0 : decode cX10_taken 0 = .ok (.iload_n 1, 1) := by decide +kernel
theorem dX10_taken_1 : decode cX10_taken 1 = .ok (.i2l, 1) := by decide +kernel
theorem dX10_taken_2 : decode cX10_taken 2 = .ok (.lconst 0, 1) := by decide +kernel
theorem dX10_taken_3 : decode cX10_taken 3 = .ok (.ldc2_w 286, 3) := by decide +kernel
theorem dX10_taken_6 : decode cX10_taken 6 = .ok (.invokestatic 95, 3) := by decide +kernel
theorem dX10_taken_9 : decode cX10_taken 9 = .ok (.ifCond .ne 9, 3) := by decide +kernel
theorem dX10_taken_12 : decode cX10_taken 12 = .ok (.sipush (-1002), 3) := by decide +kernel
theorem dX10_taken_15 : decode cX10_taken 15 = .ok (.goto 20, 3) := by decide +kernel
theorem dX10_taken_18 : decode cX10_taken 18 = .ok (.aload_n 0, 1) := by decide +kernel
theorem dX10_taken_19 : decode cX10_taken 19 = .ok (.getfield 116, 3) := by decide +kernel
theorem dX10_taken_22 : decode cX10_taken 22 = .ok (.ifCond .eq 12, 3) := by decide +kernel
theorem dX10_taken_25 : decode cX10_taken 25 = .ok (.aload_n 0, 1) := by decide +kernel
theorem dX10_taken_26 : decode cX10_taken 26 = .ok (.getfield 80, 3) := by decide +kernel
theorem dX10_taken_29 : decode cX10_taken 29 = .ok (.iload_n 1, 1) := by decide +kernel
theorem dX10_taken_30 : decode cX10_taken 30 = .ok (.iaload, 1) := by decide +kernel
theorem dX10_taken_31 : decode cX10_taken 31 = .ok (.goto 4, 3) := by decide +kernel
theorem dX10_taken_34 : decode cX10_taken 34 = .ok (.iconst (-1), 1) := by decide +kernel
theorem dX10_taken_35 : decode cX10_taken 35 = .ok (.ireturn, 1) := by decide +kernel
theorem dX10_end_0 : decode cX10_end 0 = .ok (.iload_n 1, 1) := by decide +kernel
theorem dX10_end_1 : decode cX10_end 1 = .ok (.invokestatic 220, 3) := by decide +kernel
theorem dX10_end_4 : decode cX10_end 4 = .ok (.ifCond .ne 7, 3) := by decide +kernel
theorem dX10_end_7 : decode cX10_end 7 = .ok (.sipush (-1001), 3) := by decide +kernel
theorem dX10_end_10 : decode cX10_end 10 = .ok (.ireturn, 1) := by decide +kernel
theorem dX10_end_11 : decode cX10_end 11 = .ok (.iload_n 2, 1) := by decide +kernel
theorem dX10_end_12 : decode cX10_end 12 = .ok (.tableswitch 145 0 10 #[60, 67, 74, 81, 88, 95, 102, 109, 124, 131, 138], 60) := by decide +kernel
theorem dX10_end_72 : decode cX10_end 72 = .ok (.aload_n 0, 1) := by decide +kernel
theorem dX10_end_73 : decode cX10_end 73 = .ok (.getfield 22, 3) := by decide +kernel
theorem dX10_end_76 : decode cX10_end 76 = .ok (.iload_n 1, 1) := by decide +kernel
theorem dX10_end_77 : decode cX10_end 77 = .ok (.iaload, 1) := by decide +kernel
theorem dX10_end_78 : decode cX10_end 78 = .ok (.ireturn, 1) := by decide +kernel
theorem dX10_end_79 : decode cX10_end 79 = .ok (.aload_n 0, 1) := by decide +kernel
theorem dX10_end_80 : decode cX10_end 80 = .ok (.getfield 25, 3) := by decide +kernel
theorem dX10_end_83 : decode cX10_end 83 = .ok (.iload_n 1, 1) := by decide +kernel
theorem dX10_end_84 : decode cX10_end 84 = .ok (.iaload, 1) := by decide +kernel
theorem dX10_end_85 : decode cX10_end 85 = .ok (.ireturn, 1) := by decide +kernel
theorem dX10_end_86 : decode cX10_end 86 = .ok (.aload_n 0, 1) := by decide +kernel
theorem dX10_end_87 : decode cX10_end 87 = .ok (.getfield 28, 3) := by decide +kernel
theorem dX10_end_90 : decode cX10_end 90 = .ok (.iload_n 1, 1) := by decide +kernel
theorem dX10_end_91 : decode cX10_end 91 = .ok (.iaload, 1) := by decide +kernel
theorem dX10_end_92 : decode cX10_end 92 = .ok (.ireturn, 1) := by decide +kernel
theorem dX10_end_93 : decode cX10_end 93 = .ok (.aload_n 0, 1) := by decide +kernel
theorem dX10_end_94 : decode cX10_end 94 = .ok (.getfield 34, 3) := by decide +kernel
theorem dX10_end_97 : decode cX10_end 97 = .ok (.iload_n 1, 1) := by decide +kernel
theorem dX10_end_98 : decode cX10_end 98 = .ok (.iaload, 1) := by decide +kernel
theorem dX10_end_99 : decode cX10_end 99 = .ok (.ireturn, 1) := by decide +kernel
theorem dX10_end_100 : decode cX10_end 100 = .ok (.aload_n 0, 1) := by decide +kernel
theorem dX10_end_101 : decode cX10_end 101 = .ok (.getfield 37, 3) := by decide +kernel
theorem dX10_end_104 : decode cX10_end 104 = .ok (.iload_n 1, 1) := by decide +kernel
theorem dX10_end_105 : decode cX10_end 105 = .ok (.iaload, 1) := by decide +kernel
theorem dX10_end_106 : decode cX10_end 106 = .ok (.ireturn, 1) := by decide +kernel
theorem dX10_end_107 : decode cX10_end 107 = .ok (.aload_n 0, 1) := by decide +kernel
theorem dX10_end_108 : decode cX10_end 108 = .ok (.getfield 43, 3) := by decide +kernel
theorem dX10_end_111 : decode cX10_end 111 = .ok (.iload_n 1, 1) := by decide +kernel
theorem dX10_end_112 : decode cX10_end 112 = .ok (.iaload, 1) := by decide +kernel
theorem dX10_end_113 : decode cX10_end 113 = .ok (.ireturn, 1) := by decide +kernel
theorem dX10_end_114 : decode cX10_end 114 = .ok (.aload_n 0, 1) := by decide +kernel
theorem dX10_end_115 : decode cX10_end 115 = .ok (.getfield 46, 3) := by decide +kernel
theorem dX10_end_118 : decode cX10_end 118 = .ok (.iload_n 1, 1) := by decide +kernel
theorem dX10_end_119 : decode cX10_end 119 = .ok (.iaload, 1) := by decide +kernel
theorem dX10_end_120 : decode cX10_end 120 = .ok (.ireturn, 1) := by decide +kernel
theorem dX10_end_121 : decode cX10_end 121 = .ok (.aload_n 0, 1) := by decide +kernel
theorem dX10_end_122 : decode cX10_end 122 = .ok (.getfield 49, 3) := by decide +kernel
theorem dX10_end_125 : decode cX10_end 125 = .ok (.iload_n 1, 1) := by decide +kernel
theorem dX10_end_126 : decode cX10_end 126 = .ok (.baload, 1) := by decide +kernel
theorem dX10_end_127 : decode cX10_end 127 = .ok (.ifCond .eq 7, 3) := by decide +kernel
theorem dX10_end_130 : decode cX10_end 130 = .ok (.iconst 1, 1) := by decide +kernel
theorem dX10_end_131 : decode cX10_end 131 = .ok (.goto 4, 3) := by decide +kernel
theorem dX10_end_134 : decode cX10_end 134 = .ok (.iconst 0, 1) := by decide +kernel
theorem dX10_end_135 : decode cX10_end 135 = .ok (.ireturn, 1) := by decide +kernel
theorem dX10_end_136 : decode cX10_end 136 = .ok (.aload_n 0, 1) := by decide +kernel
theorem dX10_end_137 : decode cX10_end 137 = .ok (.getfield 53, 3) := by decide +kernel
theorem dX10_end_140 : decode cX10_end 140 = .ok (.iload_n 1, 1) := by decide +kernel
theorem dX10_end_141 : decode cX10_end 141 = .ok (.iaload, 1) := by decide +kernel
theorem dX10_end_142 : decode cX10_end 142 = .ok (.ireturn, 1) := by decide +kernel
theorem dX10_end_143 : decode cX10_end 143 = .ok (.aload_n 0, 1) := by decide +kernel
theorem dX10_end_144 : decode cX10_end 144 = .ok (.getfield 59, 3) := by decide +kernel
theorem dX10_end_147 : decode cX10_end 147 = .ok (.iload_n 1, 1) := by decide +kernel
theorem dX10_end_148 : decode cX10_end 148 = .ok (.iaload, 1) := by decide +kernel
theorem dX10_end_149 : decode cX10_end 149 = .ok (.ireturn, 1) := by decide +kernel
theorem dX10_end_150 : decode cX10_end 150 = .ok (.aload_n 0, 1) := by decide +kernel
theorem dX10_end_151 : decode cX10_end 151 = .ok (.getfield 62, 3) := by decide +kernel
theorem dX10_end_154 : decode cX10_end 154 = .ok (.iload_n 1, 1) := by decide +kernel
theorem dX10_end_155 : decode cX10_end 155 = .ok (.iaload, 1) := by decide +kernel
theorem dX10_end_156 : decode cX10_end 156 = .ok (.ireturn, 1) := by decide +kernel
theorem dX10_end_157 : decode cX10_end 157 = .ok (.sipush (-1002), 3) := by decide +kernel
theorem dX10_end_160 : decode cX10_end 160 = .ok (.ireturn, 1) := by decide +kernel
theorem dX10_open_0 : decode cX10_open 0 = .ok (.iload_n 1, 1) := by decide +kernel
theorem dX10_open_1 : decode cX10_open 1 = .ok (.invokestatic 220, 3) := by decide +kernel
theorem dX10_open_4 : decode cX10_open 4 = .ok (.ifCond .eq 21, 3) := by decide +kernel
theorem dX10_open_7 : decode cX10_open 7 = .ok (.iload_n 2, 1) := by decide +kernel
theorem dX10_open_8 : decode cX10_open 8 = .ok (.i2l, 1) := by decide +kernel
theorem dX10_open_9 : decode cX10_open 9 = .ok (.lconst 0, 1) := by decide +kernel
theorem dX10_open_10 : decode cX10_open 10 = .ok (.aload_n 0, 1) := by decide +kernel
theorem dX10_open_11 : decode cX10_open 11 = .ok (.getfield 28, 3) := by decide +kernel
theorem dX10_open_14 : decode cX10_open 14 = .ok (.iload_n 1, 1) := by decide +kernel
theorem dX10_open_15 : decode cX10_open 15 = .ok (.iaload, 1) := by decide +kernel
theorem dX10_open_16 : decode cX10_open 16 = .ok (.iconst 1, 1) := by decide +kernel
theorem dX10_open_17 : decode cX10_open 17 = .ok (.isub, 1) := by decide +kernel
theorem dX10_open_18 : decode cX10_open 18 = .ok (.i2l, 1) := by decide +kernel
theorem dX10_open_19 : decode cX10_open 19 = .ok (.invokestatic 95, 3) := by decide +kernel
theorem dX10_open_22 : decode cX10_open 22 = .ok (.ifCond .ne 7, 3) := by decide +kernel
theorem dX10_open_25 : decode cX10_open 25 = .ok (.sipush (-1001), 3) := by decide +kernel
theorem dX10_open_28 : decode cX10_open 28 = .ok (.ireturn, 1) := by decide +kernel
theorem dX10_open_29 : decode cX10_open 29 = .ok (.iload_n 3, 1) := by decide +kernel
theorem dX10_open_30 : decode cX10_open 30 = .ok (.i2l, 1) := by decide +kernel
theorem dX10_open_31 : decode cX10_open 31 = .ok (.lconst 0, 1) := by decide +kernel
theorem dX10_open_32 : decode cX10_open 32 = .ok (.ldc2_w 288, 3) := by decide +kernel
theorem dX10_open_35 : decode cX10_open 35 = .ok (.invokestatic 95, 3) := by decide +kernel
theorem dX10_open_38 : decode cX10_open 38 = .ok (.ifCond .eq 21, 3) := by decide +kernel
theorem dX10_open_41 : decode cX10_open 41 = .ok (.aload_n 0, 1) := by decide +kernel
theorem dX10_open_42 : decode cX10_open 42 = .ok (.getfield 31, 3) := by decide +kernel
theorem dX10_open_45 : decode cX10_open 45 = .ok (.bipush 7, 2) := by decide +kernel
theorem dX10_open_47 : decode cX10_open 47 = .ok (.iconst 4, 1) := by decide +kernel
theorem dX10_open_48 : decode cX10_open 48 = .ok (.iload_n 1, 1) := by decide +kernel
theorem dX10_open_49 : decode cX10_open 49 = .ok (.imul, 1) := by decide +kernel
theorem dX10_open_50 : decode cX10_open 50 = .ok (.iload_n 2, 1) := by decide +kernel
theorem dX10_open_51 : decode cX10_open 51 = .ok (.iadd, 1) := by decide +kernel
theorem dX10_open_52 : decode cX10_open 52 = .ok (.imul, 1) := by decide +kernel
theorem dX10_open_53 : decode cX10_open 53 = .ok (.iload_n 3, 1) := by decide +kernel
theorem dX10_open_54 : decode cX10_open 54 = .ok (.iadd, 1) := by decide +kernel
theorem dX10_open_55 : decode cX10_open 55 = .ok (.iaload, 1) := by decide +kernel
theorem dX10_open_56 : decode cX10_open 56 = .ok (.goto 6, 3) := by decide +kernel
theorem dX10_open_59 : decode cX10_open 59 = .ok (.sipush (-1002), 3) := by decide +kernel
theorem dX10_open_62 : decode cX10_open 62 = .ok (.ireturn, 1) := by decide +kernel
theorem dX10_packet_0 : decode cX10_packet 0 = .ok (.iload_n 1, 1) := by decide +kernel
theorem dX10_packet_1 : decode cX10_packet 1 = .ok (.i2l, 1) := by decide +kernel
theorem dX10_packet_2 : decode cX10_packet 2 = .ok (.lconst 0, 1) := by decide +kernel
theorem dX10_packet_3 : decode cX10_packet 3 = .ok (.ldc2_w 288, 3) := by decide +kernel
theorem dX10_packet_6 : decode cX10_packet 6 = .ok (.invokestatic 95, 3) := by decide +kernel
theorem dX10_packet_9 : decode cX10_packet 9 = .ok (.ifCond .ne 7, 3) := by decide +kernel
theorem dX10_packet_12 : decode cX10_packet 12 = .ok (.sipush (-1002), 3) := by decide +kernel
theorem dX10_packet_15 : decode cX10_packet 15 = .ok (.ireturn, 1) := by decide +kernel
theorem dX10_packet_16 : decode cX10_packet 16 = .ok (.aload_n 0, 1) := by decide +kernel
theorem dX10_packet_17 : decode cX10_packet 17 = .ok (.getfield 113, 3) := by decide +kernel
theorem dX10_packet_20 : decode cX10_packet 20 = .ok (.ifCond .ne 7, 3) := by decide +kernel
theorem dX10_packet_23 : decode cX10_packet 23 = .ok (.sipush (-1003), 3) := by decide +kernel
theorem dX10_packet_26 : decode cX10_packet 26 = .ok (.ireturn, 1) := by decide +kernel
theorem dX10_packet_27 : decode cX10_packet 27 = .ok (.bipush 11, 2) := by decide +kernel
theorem dX10_packet_29 : decode cX10_packet 29 = .ok (.aload_n 0, 1) := by decide +kernel
theorem dX10_packet_30 : decode cX10_packet 30 = .ok (.invokevirtual 231, 3) := by decide +kernel
theorem dX10_packet_33 : decode cX10_packet 33 = .ok (.imul, 1) := by decide +kernel
theorem dX10_packet_34 : decode cX10_packet 34 = .ok (.istore_n 2, 1) := by decide +kernel
theorem dX10_packet_35 : decode cX10_packet 35 = .ok (.iload_n 1, 1) := by decide +kernel
theorem dX10_packet_36 : decode cX10_packet 36 = .ok (.ifCond .ne 14, 3) := by decide +kernel
theorem dX10_packet_39 : decode cX10_packet 39 = .ok (.aload_n 0, 1) := by decide +kernel
theorem dX10_packet_40 : decode cX10_packet 40 = .ok (.getfield 68, 3) := by decide +kernel
theorem dX10_packet_43 : decode cX10_packet 43 = .ok (.iload_n 2, 1) := by decide +kernel
theorem dX10_packet_44 : decode cX10_packet 44 = .ok (.iconst 0, 1) := by decide +kernel
theorem dX10_packet_45 : decode cX10_packet 45 = .ok (.iadd, 1) := by decide +kernel
theorem dX10_packet_46 : decode cX10_packet 46 = .ok (.iaload, 1) := by decide +kernel
theorem dX10_packet_47 : decode cX10_packet 47 = .ok (.goto 61, 3) := by decide +kernel
theorem dX10_packet_50 : decode cX10_packet 50 = .ok (.iload_n 1, 1) := by decide +kernel
theorem dX10_packet_51 : decode cX10_packet 51 = .ok (.iconst 1, 1) := by decide +kernel
theorem dX10_packet_52 : decode cX10_packet 52 = .ok (.if_icmp .ne 14, 3) := by decide +kernel
theorem dX10_packet_55 : decode cX10_packet 55 = .ok (.aload_n 0, 1) := by decide +kernel
theorem dX10_packet_56 : decode cX10_packet 56 = .ok (.getfield 68, 3) := by decide +kernel
theorem dX10_packet_59 : decode cX10_packet 59 = .ok (.iload_n 2, 1) := by decide +kernel
theorem dX10_packet_60 : decode cX10_packet 60 = .ok (.iconst 1, 1) := by decide +kernel
theorem dX10_packet_61 : decode cX10_packet 61 = .ok (.iadd, 1) := by decide +kernel
theorem dX10_packet_62 : decode cX10_packet 62 = .ok (.iaload, 1) := by decide +kernel
theorem dX10_packet_63 : decode cX10_packet 63 = .ok (.goto 45, 3) := by decide +kernel
theorem dX10_packet_66 : decode cX10_packet 66 = .ok (.iload_n 1, 1) := by decide +kernel
theorem dX10_packet_67 : decode cX10_packet 67 = .ok (.iconst 2, 1) := by decide +kernel
theorem dX10_packet_68 : decode cX10_packet 68 = .ok (.if_icmp .ne 14, 3) := by decide +kernel
theorem dX10_packet_71 : decode cX10_packet 71 = .ok (.aload_n 0, 1) := by decide +kernel
theorem dX10_packet_72 : decode cX10_packet 72 = .ok (.getfield 68, 3) := by decide +kernel
theorem dX10_packet_75 : decode cX10_packet 75 = .ok (.iload_n 2, 1) := by decide +kernel
theorem dX10_packet_76 : decode cX10_packet 76 = .ok (.iconst 2, 1) := by decide +kernel
theorem dX10_packet_77 : decode cX10_packet 77 = .ok (.iadd, 1) := by decide +kernel
theorem dX10_packet_78 : decode cX10_packet 78 = .ok (.iaload, 1) := by decide +kernel
theorem dX10_packet_79 : decode cX10_packet 79 = .ok (.goto 29, 3) := by decide +kernel
theorem dX10_packet_82 : decode cX10_packet 82 = .ok (.iload_n 1, 1) := by decide +kernel
theorem dX10_packet_83 : decode cX10_packet 83 = .ok (.iconst 3, 1) := by decide +kernel
theorem dX10_packet_84 : decode cX10_packet 84 = .ok (.if_icmp .ne 15, 3) := by decide +kernel
theorem dX10_packet_87 : decode cX10_packet 87 = .ok (.aload_n 0, 1) := by decide +kernel
theorem dX10_packet_88 : decode cX10_packet 88 = .ok (.getfield 68, 3) := by decide +kernel
theorem dX10_packet_91 : decode cX10_packet 91 = .ok (.iload_n 2, 1) := by decide +kernel
theorem dX10_packet_92 : decode cX10_packet 92 = .ok (.bipush 9, 2) := by decide +kernel
theorem dX10_packet_94 : decode cX10_packet 94 = .ok (.iadd, 1) := by decide +kernel
theorem dX10_packet_95 : decode cX10_packet 95 = .ok (.iaload, 1) := by decide +kernel
theorem dX10_packet_96 : decode cX10_packet 96 = .ok (.goto 12, 3) := by decide +kernel
theorem dX10_packet_99 : decode cX10_packet 99 = .ok (.aload_n 0, 1) := by decide +kernel
theorem dX10_packet_100 : decode cX10_packet 100 = .ok (.getfield 68, 3) := by decide +kernel
theorem dX10_packet_103 : decode cX10_packet 103 = .ok (.iload_n 2, 1) := by decide +kernel
theorem dX10_packet_104 : decode cX10_packet 104 = .ok (.bipush 8, 2) := by decide +kernel
theorem dX10_packet_106 : decode cX10_packet 106 = .ok (.iadd, 1) := by decide +kernel
theorem dX10_packet_107 : decode cX10_packet 107 = .ok (.iaload, 1) := by decide +kernel
theorem dX10_packet_108 : decode cX10_packet 108 = .ok (.ireturn, 1) := by decide +kernel
theorem dX10_allCells_0 : decode cX10_allCells 0 = .ok (.iconst 0, 1) := by decide +kernel
theorem dX10_allCells_1 : decode cX10_allCells 1 = .ok (.istore_n 1, 1) := by decide +kernel
theorem dX10_allCells_2 : decode cX10_allCells 2 = .ok (.iconst 0, 1) := by decide +kernel
theorem dX10_allCells_3 : decode cX10_allCells 3 = .ok (.istore_n 2, 1) := by decide +kernel
theorem dX10_allCells_4 : decode cX10_allCells 4 = .ok (.iload_n 2, 1) := by decide +kernel
theorem dX10_allCells_5 : decode cX10_allCells 5 = .ok (.bipush 24, 2) := by decide +kernel
theorem dX10_allCells_7 : decode cX10_allCells 7 = .ok (.if_icmp .ge 18, 3) := by decide +kernel
theorem dX10_allCells_10 : decode cX10_allCells 10 = .ok (.iload_n 1, 1) := by decide +kernel
theorem dX10_allCells_11 : decode cX10_allCells 11 = .ok (.aload_n 0, 1) := by decide +kernel
theorem dX10_allCells_12 : decode cX10_allCells 12 = .ok (.getfield 7, 3) := by decide +kernel
theorem dX10_allCells_15 : decode cX10_allCells 15 = .ok (.iload_n 2, 1) := by decide +kernel
theorem dX10_allCells_16 : decode cX10_allCells 16 = .ok (.iaload, 1) := by decide +kernel
theorem dX10_allCells_17 : decode cX10_allCells 17 = .ok (.iadd, 1) := by decide +kernel
theorem dX10_allCells_18 : decode cX10_allCells 18 = .ok (.istore_n 1, 1) := by decide +kernel
theorem dX10_allCells_19 : decode cX10_allCells 19 = .ok (.iinc 2 1, 3) := by decide +kernel
theorem dX10_allCells_22 : decode cX10_allCells 22 = .ok (.goto (-18), 3) := by decide +kernel
theorem dX10_allCells_25 : decode cX10_allCells 25 = .ok (.iload_n 1, 1) := by decide +kernel
theorem dX10_allCells_26 : decode cX10_allCells 26 = .ok (.ireturn, 1) := by decide +kernel
theorem dX10_count_0 : decode cX10_count 0 = .ok (.iload_n 1, 1) := by decide +kernel
theorem dX10_count_1 : decode cX10_count 1 = .ok (.tableswitch 104 0 8 #[51, 56, 61, 61, 79, 84, 89, 94, 99], 51) := by decide +kernel
theorem dX10_count_52 : decode cX10_count 52 = .ok (.aload_n 0, 1) := by decide +kernel
theorem dX10_count_53 : decode cX10_count 53 = .ok (.getfield 113, 3) := by decide +kernel
theorem dX10_count_56 : decode cX10_count 56 = .ok (.ireturn, 1) := by decide +kernel
theorem dX10_count_57 : decode cX10_count 57 = .ok (.aload_n 0, 1) := by decide +kernel
theorem dX10_count_58 : decode cX10_count 58 = .ok (.getfield 109, 3) := by decide +kernel
theorem dX10_count_61 : decode cX10_count 61 = .ok (.ireturn, 1) := by decide +kernel
theorem dX10_count_62 : decode cX10_count 62 = .ok (.aload_n 0, 1) := by decide +kernel
theorem dX10_count_63 : decode cX10_count 63 = .ok (.getfield 77, 3) := by decide +kernel
theorem dX10_count_66 : decode cX10_count 66 = .ok (.iload_n 1, 1) := by decide +kernel
theorem dX10_count_67 : decode cX10_count 67 = .ok (.iconst 2, 1) := by decide +kernel
theorem dX10_count_68 : decode cX10_count 68 = .ok (.isub, 1) := by decide +kernel
theorem dX10_count_69 : decode cX10_count 69 = .ok (.iaload, 1) := by decide +kernel
theorem dX10_count_70 : decode cX10_count 70 = .ok (.aload_n 0, 1) := by decide +kernel
theorem dX10_count_71 : decode cX10_count 71 = .ok (.getfield 74, 3) := by decide +kernel
theorem dX10_count_74 : decode cX10_count 74 = .ok (.iload_n 1, 1) := by decide +kernel
theorem dX10_count_75 : decode cX10_count 75 = .ok (.iconst 2, 1) := by decide +kernel
theorem dX10_count_76 : decode cX10_count 76 = .ok (.isub, 1) := by decide +kernel
theorem dX10_count_77 : decode cX10_count 77 = .ok (.iaload, 1) := by decide +kernel
theorem dX10_count_78 : decode cX10_count 78 = .ok (.isub, 1) := by decide +kernel
theorem dX10_count_79 : decode cX10_count 79 = .ok (.ireturn, 1) := by decide +kernel
theorem dX10_count_80 : decode cX10_count 80 = .ok (.aload_n 0, 1) := by decide +kernel
theorem dX10_count_81 : decode cX10_count 81 = .ok (.invokevirtual 217, 3) := by decide +kernel
theorem dX10_count_84 : decode cX10_count 84 = .ok (.ireturn, 1) := by decide +kernel
theorem dX10_count_85 : decode cX10_count 85 = .ok (.aload_n 0, 1) := by decide +kernel
theorem dX10_count_86 : decode cX10_count 86 = .ok (.invokevirtual 290, 3) := by decide +kernel
theorem dX10_count_89 : decode cX10_count 89 = .ok (.ireturn, 1) := by decide +kernel
theorem dX10_count_90 : decode cX10_count 90 = .ok (.aload_n 0, 1) := by decide +kernel
theorem dX10_count_91 : decode cX10_count 91 = .ok (.getfield 120, 3) := by decide +kernel
theorem dX10_count_94 : decode cX10_count 94 = .ok (.ireturn, 1) := by decide +kernel
theorem dX10_count_95 : decode cX10_count 95 = .ok (.aload_n 0, 1) := by decide +kernel
theorem dX10_count_96 : decode cX10_count 96 = .ok (.getfield 128, 3) := by decide +kernel
theorem dX10_count_99 : decode cX10_count 99 = .ok (.ireturn, 1) := by decide +kernel
theorem dX10_count_100 : decode cX10_count 100 = .ok (.aload_n 0, 1) := by decide +kernel
theorem dX10_count_101 : decode cX10_count 101 = .ok (.getfield 123, 3) := by decide +kernel
theorem dX10_count_104 : decode cX10_count 104 = .ok (.ireturn, 1) := by decide +kernel
theorem dX10_count_105 : decode cX10_count 105 = .ok (.sipush (-1002), 3) := by decide +kernel
theorem dX10_count_108 : decode cX10_count 108 = .ok (.ireturn, 1) := by decide +kernel
theorem dJ0_length_8abf5_0 : decode cJ0_length_8abf5 0 = .ok (.aload_n 0, 1) := by decide +kernel
theorem dJ0_length_8abf5_1 : decode cJ0_length_8abf5 1 = .ok (.getfield 9, 3) := by decide +kernel
theorem dJ0_length_8abf5_4 : decode cJ0_length_8abf5 4 = .ok (.arraylength, 1) := by decide +kernel
theorem dJ0_length_8abf5_5 : decode cJ0_length_8abf5 5 = .ok (.aload_n 0, 1) := by decide +kernel
theorem dJ0_length_8abf5_6 : decode cJ0_length_8abf5 6 = .ok (.invokevirtual 335, 3) := by decide +kernel
theorem dJ0_length_8abf5_9 : decode cJ0_length_8abf5 9 = .ok (.ishr, 1) := by decide +kernel
theorem dJ0_length_8abf5_10 : decode cJ0_length_8abf5 10 = .ok (.ireturn, 1) := by decide +kernel
theorem dJ0_charAt_5068e_0 : decode cJ0_charAt_5068e 0 = .ok (.aload_n 0, 1) := by decide +kernel
theorem dJ0_charAt_5068e_1 : decode cJ0_charAt_5068e 1 = .ok (.invokevirtual 492, 3) := by decide +kernel
theorem dJ0_charAt_5068e_4 : decode cJ0_charAt_5068e 4 = .ok (.ifCond .eq 12, 3) := by decide +kernel
theorem dJ0_charAt_5068e_7 : decode cJ0_charAt_5068e 7 = .ok (.aload_n 0, 1) := by decide +kernel
theorem dJ0_charAt_5068e_8 : decode cJ0_charAt_5068e 8 = .ok (.getfield 9, 3) := by decide +kernel
theorem dJ0_charAt_5068e_11 : decode cJ0_charAt_5068e 11 = .ok (.iload_n 1, 1) := by decide +kernel
theorem dJ0_charAt_5068e_12 : decode cJ0_charAt_5068e 12 = .ok (.invokestatic 495, 3) := by decide +kernel
theorem dJ0_charAt_5068e_15 : decode cJ0_charAt_5068e 15 = .ok (.ireturn, 1) := by decide +kernel
theorem dJ0_charAt_5068e_16 : decode cJ0_charAt_5068e 16 = .ok (.aload_n 0, 1) := by decide +kernel
theorem dJ0_charAt_5068e_17 : decode cJ0_charAt_5068e 17 = .ok (.getfield 9, 3) := by decide +kernel
theorem dJ0_charAt_5068e_20 : decode cJ0_charAt_5068e 20 = .ok (.iload_n 1, 1) := by decide +kernel
theorem dJ0_charAt_5068e_21 : decode cJ0_charAt_5068e 21 = .ok (.invokestatic 498, 3) := by decide +kernel
theorem dJ0_charAt_5068e_24 : decode cJ0_charAt_5068e 24 = .ok (.ireturn, 1) := by decide +kernel
theorem dJ0_coder_7d493_0 : decode cJ0_coder_7d493 0 = .ok (.getstatic 38, 3) := by decide +kernel
theorem dJ0_coder_7d493_3 : decode cJ0_coder_7d493 3 = .ok (.ifCond .eq 10, 3) := by decide +kernel
theorem dJ0_coder_7d493_6 : decode cJ0_coder_7d493 6 = .ok (.aload_n 0, 1) := by decide +kernel
theorem dJ0_coder_7d493_7 : decode cJ0_coder_7d493 7 = .ok (.getfield 15, 3) := by decide +kernel
theorem dJ0_coder_7d493_10 : decode cJ0_coder_7d493 10 = .ok (.goto 4, 3) := by decide +kernel
theorem dJ0_coder_7d493_13 : decode cJ0_coder_7d493 13 = .ok (.iconst 1, 1) := by decide +kernel
theorem dJ0_coder_7d493_14 : decode cJ0_coder_7d493 14 = .ok (.ireturn, 1) := by decide +kernel
theorem dJ0_isLatin1_aae02_0 : decode cJ0_isLatin1_aae02 0 = .ok (.getstatic 38, 3) := by decide +kernel
theorem dJ0_isLatin1_aae02_3 : decode cJ0_isLatin1_aae02 3 = .ok (.ifCond .eq 14, 3) := by decide +kernel
theorem dJ0_isLatin1_aae02_6 : decode cJ0_isLatin1_aae02 6 = .ok (.aload_n 0, 1) := by decide +kernel
theorem dJ0_isLatin1_aae02_7 : decode cJ0_isLatin1_aae02 7 = .ok (.getfield 15, 3) := by decide +kernel
theorem dJ0_isLatin1_aae02_10 : decode cJ0_isLatin1_aae02 10 = .ok (.ifCond .ne 7, 3) := by decide +kernel
theorem dJ0_isLatin1_aae02_13 : decode cJ0_isLatin1_aae02 13 = .ok (.iconst 1, 1) := by decide +kernel
theorem dJ0_isLatin1_aae02_14 : decode cJ0_isLatin1_aae02 14 = .ok (.goto 4, 3) := by decide +kernel
theorem dJ0_isLatin1_aae02_17 : decode cJ0_isLatin1_aae02 17 = .ok (.iconst 0, 1) := by decide +kernel
theorem dJ0_isLatin1_aae02_18 : decode cJ0_isLatin1_aae02 18 = .ok (.ireturn, 1) := by decide +kernel
theorem dJ0_checkIndex_df160_0 : decode cJ0_checkIndex_df160 0 = .ok (.iload_n 0, 1) := by decide +kernel
theorem dJ0_checkIndex_df160_1 : decode cJ0_checkIndex_df160 1 = .ok (.iload_n 1, 1) := by decide +kernel
theorem dJ0_checkIndex_df160_2 : decode cJ0_checkIndex_df160 2 = .ok (.getstatic 1053, 3) := by decide +kernel
theorem dJ0_checkIndex_df160_5 : decode cJ0_checkIndex_df160 5 = .ok (.invokestatic 1059, 3) := by decide +kernel
theorem dJ0_checkIndex_df160_8 : decode cJ0_checkIndex_df160 8 = .ok (.pop, 1) := by decide +kernel
theorem dJ0_checkIndex_df160_9 : decode cJ0_checkIndex_df160 9 = .ok (.return_, 1) := by decide +kernel
theorem dJ1_charAt_3b067_0 : decode cJ1_charAt_3b067 0 = .ok (.iload_n 1, 1) := by decide +kernel
theorem dJ1_charAt_3b067_1 : decode cJ1_charAt_3b067 1 = .ok (.aload_n 0, 1) := by decide +kernel
theorem dJ1_charAt_3b067_2 : decode cJ1_charAt_3b067 2 = .ok (.arraylength, 1) := by decide +kernel
theorem dJ1_charAt_3b067_3 : decode cJ1_charAt_3b067 3 = .ok (.invokestatic 9, 3) := by decide +kernel
theorem dJ1_charAt_3b067_6 : decode cJ1_charAt_3b067 6 = .ok (.aload_n 0, 1) := by decide +kernel
theorem dJ1_charAt_3b067_7 : decode cJ1_charAt_3b067 7 = .ok (.iload_n 1, 1) := by decide +kernel
theorem dJ1_charAt_3b067_8 : decode cJ1_charAt_3b067 8 = .ok (.baload, 1) := by decide +kernel
theorem dJ1_charAt_3b067_9 : decode cJ1_charAt_3b067 9 = .ok (.sipush 255, 3) := by decide +kernel
theorem dJ1_charAt_3b067_12 : decode cJ1_charAt_3b067 12 = .ok (.iand, 1) := by decide +kernel
theorem dJ1_charAt_3b067_13 : decode cJ1_charAt_3b067 13 = .ok (.i2c, 1) := by decide +kernel
theorem dJ1_charAt_3b067_14 : decode cJ1_charAt_3b067 14 = .ok (.ireturn, 1) := by decide +kernel
theorem dJ2_getChar_3b067_0 : decode cJ2_getChar_3b067 0 = .ok (.getstatic 44, 3) := by decide +kernel
theorem dJ2_getChar_3b067_3 : decode cJ2_getChar_3b067 3 = .ok (.ifCond .ne 25, 3) := by decide +kernel
theorem dJ2_getChar_3b067_6 : decode cJ2_getChar_3b067 6 = .ok (.iload_n 1, 1) := by decide +kernel
theorem dJ2_getChar_3b067_7 : decode cJ2_getChar_3b067 7 = .ok (.ifCond .lt 11, 3) := by decide +kernel
theorem dJ2_getChar_3b067_10 : decode cJ2_getChar_3b067 10 = .ok (.iload_n 1, 1) := by decide +kernel
theorem dJ2_getChar_3b067_11 : decode cJ2_getChar_3b067 11 = .ok (.aload_n 0, 1) := by decide +kernel
theorem dJ2_getChar_3b067_12 : decode cJ2_getChar_3b067 12 = .ok (.invokestatic 48, 3) := by decide +kernel
theorem dJ2_getChar_3b067_15 : decode cJ2_getChar_3b067 15 = .ok (.if_icmp .lt 13, 3) := by decide +kernel
theorem dJ2_getChar_3b067_18 : decode cJ2_getChar_3b067 18 = .ok (.new 52, 3) := by decide +kernel
theorem dJ2_getChar_3b067_21 : decode cJ2_getChar_3b067 21 = .ok (.dup, 1) := by decide +kernel
theorem dJ2_getChar_3b067_22 : decode cJ2_getChar_3b067 22 = .ok (.ldc 54, 2) := by decide +kernel
theorem dJ2_getChar_3b067_24 : decode cJ2_getChar_3b067 24 = .ok (.invokespecial 56, 3) := by decide +kernel
theorem dJ2_getChar_3b067_27 : decode cJ2_getChar_3b067 27 = .ok (.athrow, 1) := by decide +kernel
theorem dJ2_getChar_3b067_28 : decode cJ2_getChar_3b067 28 = .ok (.iload_n 1, 1) := by decide +kernel
theorem dJ2_getChar_3b067_29 : decode cJ2_getChar_3b067 29 = .ok (.iconst 1, 1) := by decide +kernel
theorem dJ2_getChar_3b067_30 : decode cJ2_getChar_3b067 30 = .ok (.ishl, 1) := by decide +kernel
theorem dJ2_getChar_3b067_31 : decode cJ2_getChar_3b067 31 = .ok (.istore_n 1, 1) := by decide +kernel
theorem dJ2_getChar_3b067_32 : decode cJ2_getChar_3b067 32 = .ok (.aload_n 0, 1) := by decide +kernel
theorem dJ2_getChar_3b067_33 : decode cJ2_getChar_3b067 33 = .ok (.iload_n 1, 1) := by decide +kernel
theorem dJ2_getChar_3b067_34 : decode cJ2_getChar_3b067 34 = .ok (.iinc 1 1, 3) := by decide +kernel
theorem dJ2_getChar_3b067_37 : decode cJ2_getChar_3b067 37 = .ok (.baload, 1) := by decide +kernel
theorem dJ2_getChar_3b067_38 : decode cJ2_getChar_3b067 38 = .ok (.sipush 255, 3) := by decide +kernel
theorem dJ2_getChar_3b067_41 : decode cJ2_getChar_3b067 41 = .ok (.iand, 1) := by decide +kernel
theorem dJ2_getChar_3b067_42 : decode cJ2_getChar_3b067 42 = .ok (.getstatic 59, 3) := by decide +kernel
theorem dJ2_getChar_3b067_45 : decode cJ2_getChar_3b067 45 = .ok (.ishl, 1) := by decide +kernel
theorem dJ2_getChar_3b067_46 : decode cJ2_getChar_3b067 46 = .ok (.aload_n 0, 1) := by decide +kernel
theorem dJ2_getChar_3b067_47 : decode cJ2_getChar_3b067 47 = .ok (.iload_n 1, 1) := by decide +kernel
theorem dJ2_getChar_3b067_48 : decode cJ2_getChar_3b067 48 = .ok (.baload, 1) := by decide +kernel
theorem dJ2_getChar_3b067_49 : decode cJ2_getChar_3b067 49 = .ok (.sipush 255, 3) := by decide +kernel
theorem dJ2_getChar_3b067_52 : decode cJ2_getChar_3b067 52 = .ok (.iand, 1) := by decide +kernel
theorem dJ2_getChar_3b067_53 : decode cJ2_getChar_3b067 53 = .ok (.getstatic 63, 3) := by decide +kernel
theorem dJ2_getChar_3b067_56 : decode cJ2_getChar_3b067 56 = .ok (.ishl, 1) := by decide +kernel
theorem dJ2_getChar_3b067_57 : decode cJ2_getChar_3b067 57 = .ok (.ior, 1) := by decide +kernel
theorem dJ2_getChar_3b067_58 : decode cJ2_getChar_3b067 58 = .ok (.i2c, 1) := by decide +kernel
theorem dJ2_getChar_3b067_59 : decode cJ2_getChar_3b067 59 = .ok (.ireturn, 1) := by decide +kernel
theorem dJ2_length_9d52b_0 : decode cJ2_length_9d52b 0 = .ok (.aload_n 0, 1) := by decide +kernel
theorem dJ2_length_9d52b_1 : decode cJ2_length_9d52b 1 = .ok (.arraylength, 1) := by decide +kernel
theorem dJ2_length_9d52b_2 : decode cJ2_length_9d52b 2 = .ok (.iconst 1, 1) := by decide +kernel
theorem dJ2_length_9d52b_3 : decode cJ2_length_9d52b 3 = .ok (.ishr, 1) := by decide +kernel
theorem dJ2_length_9d52b_4 : decode cJ2_length_9d52b 4 = .ok (.ireturn, 1) := by decide +kernel
theorem dJ2_charAt_3b067_0 : decode cJ2_charAt_3b067 0 = .ok (.iload_n 1, 1) := by decide +kernel
theorem dJ2_charAt_3b067_1 : decode cJ2_charAt_3b067 1 = .ok (.aload_n 0, 1) := by decide +kernel
theorem dJ2_charAt_3b067_2 : decode cJ2_charAt_3b067 2 = .ok (.invokestatic 67, 3) := by decide +kernel
theorem dJ2_charAt_3b067_5 : decode cJ2_charAt_3b067 5 = .ok (.aload_n 0, 1) := by decide +kernel
theorem dJ2_charAt_3b067_6 : decode cJ2_charAt_3b067 6 = .ok (.iload_n 1, 1) := by decide +kernel
theorem dJ2_charAt_3b067_7 : decode cJ2_charAt_3b067 7 = .ok (.invokestatic 71, 3) := by decide +kernel
theorem dJ2_charAt_3b067_10 : decode cJ2_charAt_3b067 10 = .ok (.ireturn, 1) := by decide +kernel
theorem dJ2_checkIndex_2214a_0 : decode cJ2_checkIndex_2214a 0 = .ok (.iload_n 0, 1) := by decide +kernel
theorem dJ2_checkIndex_2214a_1 : decode cJ2_checkIndex_2214a 1 = .ok (.aload_n 1, 1) := by decide +kernel
theorem dJ2_checkIndex_2214a_2 : decode cJ2_checkIndex_2214a 2 = .ok (.invokestatic 48, 3) := by decide +kernel
theorem dJ2_checkIndex_2214a_5 : decode cJ2_checkIndex_2214a 5 = .ok (.invokestatic 414, 3) := by decide +kernel
theorem dJ2_checkIndex_2214a_8 : decode cJ2_checkIndex_2214a 8 = .ok (.return_, 1) := by decide +kernel
theorem dJ3_checkIndex_8e157_0 : decode cJ3_checkIndex_8e157 0 = .ok (.iload_n 0, 1) := by decide +kernel
theorem dJ3_checkIndex_8e157_1 : decode cJ3_checkIndex_8e157 1 = .ok (.ifCond .lt 8, 3) := by decide +kernel
theorem dJ3_checkIndex_8e157_4 : decode cJ3_checkIndex_8e157 4 = .ok (.iload_n 0, 1) := by decide +kernel
theorem dJ3_checkIndex_8e157_5 : decode cJ3_checkIndex_8e157 5 = .ok (.iload_n 1, 1) := by decide +kernel
theorem dJ3_checkIndex_8e157_6 : decode cJ3_checkIndex_8e157 6 = .ok (.if_icmp .lt 10, 3) := by decide +kernel
theorem dJ3_checkIndex_8e157_9 : decode cJ3_checkIndex_8e157 9 = .ok (.aload_n 2, 1) := by decide +kernel
theorem dJ3_checkIndex_8e157_10 : decode cJ3_checkIndex_8e157 10 = .ok (.iload_n 0, 1) := by decide +kernel
theorem dJ3_checkIndex_8e157_11 : decode cJ3_checkIndex_8e157 11 = .ok (.iload_n 1, 1) := by decide +kernel
theorem dJ3_checkIndex_8e157_12 : decode cJ3_checkIndex_8e157 12 = .ok (.invokestatic 95, 3) := by decide +kernel
theorem dJ3_checkIndex_8e157_15 : decode cJ3_checkIndex_8e157 15 = .ok (.athrow, 1) := by decide +kernel
theorem dJ3_checkIndex_8e157_16 : decode cJ3_checkIndex_8e157 16 = .ok (.iload_n 0, 1) := by decide +kernel
theorem dJ3_checkIndex_8e157_17 : decode cJ3_checkIndex_8e157 17 = .ok (.ireturn, 1) := by decide +kernel
theorem dL_law_0 : decode cL_law 0 = .ok (.new 7, 3) := by decide +kernel
theorem dL_law_3 : decode cL_law 3 = .ok (.dup, 1) := by decide +kernel
theorem dL_law_4 : decode cL_law 4 = .ok (.invokespecial 9, 3) := by decide +kernel
theorem dL_law_7 : decode cL_law 7 = .ok (.astore_n 1, 1) := by decide +kernel
theorem dL_law_8 : decode cL_law 8 = .ok (.new 10, 3) := by decide +kernel
theorem dL_law_11 : decode cL_law 11 = .ok (.dup, 1) := by decide +kernel
theorem dL_law_12 : decode cL_law 12 = .ok (.invokespecial 12, 3) := by decide +kernel
theorem dL_law_15 : decode cL_law 15 = .ok (.astore_n 2, 1) := by decide +kernel
theorem dL_law_16 : decode cL_law 16 = .ok (.iconst 0, 1) := by decide +kernel
theorem dL_law_17 : decode cL_law 17 = .ok (.istore_n 3, 1) := by decide +kernel
theorem dL_law_18 : decode cL_law 18 = .ok (.iload_n 3, 1) := by decide +kernel
theorem dL_law_19 : decode cL_law 19 = .ok (.aload_n 0, 1) := by decide +kernel
theorem dL_law_20 : decode cL_law 20 = .ok (.arraylength, 1) := by decide +kernel
theorem dL_law_21 : decode cL_law 21 = .ok (.bipush 6, 2) := by decide +kernel
theorem dL_law_23 : decode cL_law 23 = .ok (.isub, 1) := by decide +kernel
theorem dL_law_24 : decode cL_law 24 = .ok (.if_icmp .gt 979, 3) := by decide +kernel
theorem dL_law_27 : decode cL_law 27 = .ok (.aload_n 0, 1) := by decide +kernel
theorem dL_law_28 : decode cL_law 28 = .ok (.iload_n 3, 1) := by decide +kernel
theorem dL_law_29 : decode cL_law 29 = .ok (.iaload, 1) := by decide +kernel
theorem dL_law_30 : decode cL_law 30 = .ok (.bipush 31, 2) := by decide +kernel
theorem dL_law_32 : decode cL_law 32 = .ok (.iand, 1) := by decide +kernel
theorem dL_law_33 : decode cL_law 33 = .ok (.tableswitch 964 0 26 #[123, 146, 159, 172, 185, 218, 261, 324, 357, 400, 423, 446, 479, 522, 555, 588, 621, 664, 717, 750, 773, 796, 819, 842, 875, 918, 941], 123) := by decide +kernel
theorem dL_law_156 : decode cL_law 156 = .ok (.aload_n 1, 1) := by decide +kernel
theorem dL_law_157 : decode cL_law 157 = .ok (.aload_n 0, 1) := by decide +kernel
theorem dL_law_158 : decode cL_law 158 = .ok (.iload_n 3, 1) := by decide +kernel
theorem dL_law_159 : decode cL_law 159 = .ok (.iconst 1, 1) := by decide +kernel
theorem dL_law_160 : decode cL_law 160 = .ok (.iadd, 1) := by decide +kernel
theorem dL_law_161 : decode cL_law 161 = .ok (.iaload, 1) := by decide +kernel
theorem dL_law_162 : decode cL_law 162 = .ok (.invokevirtual 13, 3) := by decide +kernel
theorem dL_law_165 : decode cL_law 165 = .ok (.aload_n 2, 1) := by decide +kernel
theorem dL_law_166 : decode cL_law 166 = .ok (.aload_n 0, 1) := by decide +kernel
theorem dL_law_167 : decode cL_law 167 = .ok (.iload_n 3, 1) := by decide +kernel
theorem dL_law_168 : decode cL_law 168 = .ok (.iconst 1, 1) := by decide +kernel
theorem dL_law_169 : decode cL_law 169 = .ok (.iadd, 1) := by decide +kernel
theorem dL_law_170 : decode cL_law 170 = .ok (.iaload, 1) := by decide +kernel
theorem dL_law_171 : decode cL_law 171 = .ok (.invokevirtual 17, 3) := by decide +kernel
theorem dL_law_174 : decode cL_law 174 = .ok (.if_icmp .eq 823, 3) := by decide +kernel
theorem dL_law_177 : decode cL_law 177 = .ok (.iconst 0, 1) := by decide +kernel
theorem dL_law_178 : decode cL_law 178 = .ok (.ireturn, 1) := by decide +kernel
theorem dL_law_179 : decode cL_law 179 = .ok (.aload_n 1, 1) := by decide +kernel
theorem dL_law_180 : decode cL_law 180 = .ok (.invokevirtual 18, 3) := by decide +kernel
theorem dL_law_183 : decode cL_law 183 = .ok (.aload_n 2, 1) := by decide +kernel
theorem dL_law_184 : decode cL_law 184 = .ok (.invokevirtual 22, 3) := by decide +kernel
theorem dL_law_187 : decode cL_law 187 = .ok (.if_icmp .eq 810, 3) := by decide +kernel
theorem dL_law_190 : decode cL_law 190 = .ok (.iconst 0, 1) := by decide +kernel
theorem dL_law_191 : decode cL_law 191 = .ok (.ireturn, 1) := by decide +kernel
theorem dL_law_192 : decode cL_law 192 = .ok (.aload_n 1, 1) := by decide +kernel
theorem dL_law_193 : decode cL_law 193 = .ok (.invokevirtual 23, 3) := by decide +kernel
theorem dL_law_196 : decode cL_law 196 = .ok (.aload_n 2, 1) := by decide +kernel
theorem dL_law_197 : decode cL_law 197 = .ok (.invokevirtual 26, 3) := by decide +kernel
theorem dL_law_200 : decode cL_law 200 = .ok (.if_icmp .eq 797, 3) := by decide +kernel
theorem dL_law_203 : decode cL_law 203 = .ok (.iconst 0, 1) := by decide +kernel
theorem dL_law_204 : decode cL_law 204 = .ok (.ireturn, 1) := by decide +kernel
theorem dL_law_205 : decode cL_law 205 = .ok (.aload_n 1, 1) := by decide +kernel
theorem dL_law_206 : decode cL_law 206 = .ok (.invokevirtual 27, 3) := by decide +kernel
theorem dL_law_209 : decode cL_law 209 = .ok (.aload_n 2, 1) := by decide +kernel
theorem dL_law_210 : decode cL_law 210 = .ok (.invokevirtual 30, 3) := by decide +kernel
theorem dL_law_213 : decode cL_law 213 = .ok (.if_icmp .eq 784, 3) := by decide +kernel
theorem dL_law_216 : decode cL_law 216 = .ok (.iconst 0, 1) := by decide +kernel
theorem dL_law_217 : decode cL_law 217 = .ok (.ireturn, 1) := by decide +kernel
theorem dL_law_218 : decode cL_law 218 = .ok (.aload_n 1, 1) := by decide +kernel
theorem dL_law_219 : decode cL_law 219 = .ok (.aload_n 0, 1) := by decide +kernel
theorem dL_law_220 : decode cL_law 220 = .ok (.iload_n 3, 1) := by decide +kernel
theorem dL_law_221 : decode cL_law 221 = .ok (.iconst 1, 1) := by decide +kernel
theorem dL_law_222 : decode cL_law 222 = .ok (.iadd, 1) := by decide +kernel
theorem dL_law_223 : decode cL_law 223 = .ok (.iaload, 1) := by decide +kernel
theorem dL_law_224 : decode cL_law 224 = .ok (.aload_n 0, 1) := by decide +kernel
theorem dL_law_225 : decode cL_law 225 = .ok (.iload_n 3, 1) := by decide +kernel
theorem dL_law_226 : decode cL_law 226 = .ok (.iconst 2, 1) := by decide +kernel
theorem dL_law_227 : decode cL_law 227 = .ok (.iadd, 1) := by decide +kernel
theorem dL_law_228 : decode cL_law 228 = .ok (.iaload, 1) := by decide +kernel
theorem dL_law_229 : decode cL_law 229 = .ok (.invokevirtual 31, 3) := by decide +kernel
theorem dL_law_232 : decode cL_law 232 = .ok (.aload_n 2, 1) := by decide +kernel
theorem dL_law_233 : decode cL_law 233 = .ok (.aload_n 0, 1) := by decide +kernel
theorem dL_law_234 : decode cL_law 234 = .ok (.iload_n 3, 1) := by decide +kernel
theorem dL_law_235 : decode cL_law 235 = .ok (.iconst 1, 1) := by decide +kernel
theorem dL_law_236 : decode cL_law 236 = .ok (.iadd, 1) := by decide +kernel
theorem dL_law_237 : decode cL_law 237 = .ok (.iaload, 1) := by decide +kernel
theorem dL_law_238 : decode cL_law 238 = .ok (.aload_n 0, 1) := by decide +kernel
theorem dL_law_239 : decode cL_law 239 = .ok (.iload_n 3, 1) := by decide +kernel
theorem dL_law_240 : decode cL_law 240 = .ok (.iconst 2, 1) := by decide +kernel
theorem dL_law_241 : decode cL_law 241 = .ok (.iadd, 1) := by decide +kernel
theorem dL_law_242 : decode cL_law 242 = .ok (.iaload, 1) := by decide +kernel
theorem dL_law_243 : decode cL_law 243 = .ok (.invokevirtual 35, 3) := by decide +kernel
theorem dL_law_246 : decode cL_law 246 = .ok (.if_icmp .eq 751, 3) := by decide +kernel
theorem dL_law_249 : decode cL_law 249 = .ok (.iconst 0, 1) := by decide +kernel
theorem dL_law_250 : decode cL_law 250 = .ok (.ireturn, 1) := by decide +kernel
theorem dL_law_251 : decode cL_law 251 = .ok (.aload_n 1, 1) := by decide +kernel
theorem dL_law_252 : decode cL_law 252 = .ok (.aload_n 0, 1) := by decide +kernel
theorem dL_law_253 : decode cL_law 253 = .ok (.iload_n 3, 1) := by decide +kernel
theorem dL_law_254 : decode cL_law 254 = .ok (.iconst 1, 1) := by decide +kernel
theorem dL_law_255 : decode cL_law 255 = .ok (.iadd, 1) := by decide +kernel
theorem dL_law_256 : decode cL_law 256 = .ok (.iaload, 1) := by decide +kernel
theorem dL_law_257 : decode cL_law 257 = .ok (.aload_n 0, 1) := by decide +kernel
theorem dL_law_258 : decode cL_law 258 = .ok (.iload_n 3, 1) := by decide +kernel
theorem dL_law_259 : decode cL_law 259 = .ok (.iconst 2, 1) := by decide +kernel
theorem dL_law_260 : decode cL_law 260 = .ok (.iadd, 1) := by decide +kernel
theorem dL_law_261 : decode cL_law 261 = .ok (.iaload, 1) := by decide +kernel
theorem dL_law_262 : decode cL_law 262 = .ok (.aload_n 0, 1) := by decide +kernel
theorem dL_law_263 : decode cL_law 263 = .ok (.iload_n 3, 1) := by decide +kernel
theorem dL_law_264 : decode cL_law 264 = .ok (.iconst 3, 1) := by decide +kernel
theorem dL_law_265 : decode cL_law 265 = .ok (.iadd, 1) := by decide +kernel
theorem dL_law_266 : decode cL_law 266 = .ok (.iaload, 1) := by decide +kernel
theorem dL_law_267 : decode cL_law 267 = .ok (.invokevirtual 36, 3) := by decide +kernel
theorem dL_law_270 : decode cL_law 270 = .ok (.aload_n 2, 1) := by decide +kernel
theorem dL_law_271 : decode cL_law 271 = .ok (.aload_n 0, 1) := by decide +kernel
theorem dL_law_272 : decode cL_law 272 = .ok (.iload_n 3, 1) := by decide +kernel
theorem dL_law_273 : decode cL_law 273 = .ok (.iconst 1, 1) := by decide +kernel
theorem dL_law_274 : decode cL_law 274 = .ok (.iadd, 1) := by decide +kernel
theorem dL_law_275 : decode cL_law 275 = .ok (.iaload, 1) := by decide +kernel
theorem dL_law_276 : decode cL_law 276 = .ok (.aload_n 0, 1) := by decide +kernel
theorem dL_law_277 : decode cL_law 277 = .ok (.iload_n 3, 1) := by decide +kernel
theorem dL_law_278 : decode cL_law 278 = .ok (.iconst 2, 1) := by decide +kernel
theorem dL_law_279 : decode cL_law 279 = .ok (.iadd, 1) := by decide +kernel
theorem dL_law_280 : decode cL_law 280 = .ok (.iaload, 1) := by decide +kernel
theorem dL_law_281 : decode cL_law 281 = .ok (.aload_n 0, 1) := by decide +kernel
theorem dL_law_282 : decode cL_law 282 = .ok (.iload_n 3, 1) := by decide +kernel
theorem dL_law_283 : decode cL_law 283 = .ok (.iconst 3, 1) := by decide +kernel
theorem dL_law_284 : decode cL_law 284 = .ok (.iadd, 1) := by decide +kernel
theorem dL_law_285 : decode cL_law 285 = .ok (.iaload, 1) := by decide +kernel
theorem dL_law_286 : decode cL_law 286 = .ok (.invokevirtual 40, 3) := by decide +kernel
theorem dL_law_289 : decode cL_law 289 = .ok (.if_icmp .eq 708, 3) := by decide +kernel
theorem dL_law_292 : decode cL_law 292 = .ok (.iconst 0, 1) := by decide +kernel
theorem dL_law_293 : decode cL_law 293 = .ok (.ireturn, 1) := by decide +kernel
theorem dL_law_294 : decode cL_law 294 = .ok (.aload_n 1, 1) := by decide +kernel
theorem dL_law_295 : decode cL_law 295 = .ok (.aload_n 0, 1) := by decide +kernel
theorem dL_law_296 : decode cL_law 296 = .ok (.iload_n 3, 1) := by decide +kernel
theorem dL_law_297 : decode cL_law 297 = .ok (.iconst 1, 1) := by decide +kernel
theorem dL_law_298 : decode cL_law 298 = .ok (.iadd, 1) := by decide +kernel
theorem dL_law_299 : decode cL_law 299 = .ok (.iaload, 1) := by decide +kernel
theorem dL_law_300 : decode cL_law 300 = .ok (.aload_n 0, 1) := by decide +kernel
theorem dL_law_301 : decode cL_law 301 = .ok (.iload_n 3, 1) := by decide +kernel
theorem dL_law_302 : decode cL_law 302 = .ok (.iconst 2, 1) := by decide +kernel
theorem dL_law_303 : decode cL_law 303 = .ok (.iadd, 1) := by decide +kernel
theorem dL_law_304 : decode cL_law 304 = .ok (.iaload, 1) := by decide +kernel
theorem dL_law_305 : decode cL_law 305 = .ok (.aload_n 0, 1) := by decide +kernel
theorem dL_law_306 : decode cL_law 306 = .ok (.iload_n 3, 1) := by decide +kernel
theorem dL_law_307 : decode cL_law 307 = .ok (.iconst 3, 1) := by decide +kernel
theorem dL_law_308 : decode cL_law 308 = .ok (.iadd, 1) := by decide +kernel
theorem dL_law_309 : decode cL_law 309 = .ok (.iaload, 1) := by decide +kernel
theorem dL_law_310 : decode cL_law 310 = .ok (.aload_n 0, 1) := by decide +kernel
theorem dL_law_311 : decode cL_law 311 = .ok (.iload_n 3, 1) := by decide +kernel
theorem dL_law_312 : decode cL_law 312 = .ok (.iconst 4, 1) := by decide +kernel
theorem dL_law_313 : decode cL_law 313 = .ok (.iadd, 1) := by decide +kernel
theorem dL_law_314 : decode cL_law 314 = .ok (.iaload, 1) := by decide +kernel
theorem dL_law_315 : decode cL_law 315 = .ok (.aload_n 0, 1) := by decide +kernel
theorem dL_law_316 : decode cL_law 316 = .ok (.iload_n 3, 1) := by decide +kernel
theorem dL_law_317 : decode cL_law 317 = .ok (.iconst 5, 1) := by decide +kernel
theorem dL_law_318 : decode cL_law 318 = .ok (.iadd, 1) := by decide +kernel
theorem dL_law_319 : decode cL_law 319 = .ok (.iaload, 1) := by decide +kernel
theorem dL_law_320 : decode cL_law 320 = .ok (.invokevirtual 41, 3) := by decide +kernel
theorem dL_law_323 : decode cL_law 323 = .ok (.aload_n 2, 1) := by decide +kernel
theorem dL_law_324 : decode cL_law 324 = .ok (.aload_n 0, 1) := by decide +kernel
theorem dL_law_325 : decode cL_law 325 = .ok (.iload_n 3, 1) := by decide +kernel
theorem dL_law_326 : decode cL_law 326 = .ok (.iconst 1, 1) := by decide +kernel
theorem dL_law_327 : decode cL_law 327 = .ok (.iadd, 1) := by decide +kernel
theorem dL_law_328 : decode cL_law 328 = .ok (.iaload, 1) := by decide +kernel
theorem dL_law_329 : decode cL_law 329 = .ok (.aload_n 0, 1) := by decide +kernel
theorem dL_law_330 : decode cL_law 330 = .ok (.iload_n 3, 1) := by decide +kernel
theorem dL_law_331 : decode cL_law 331 = .ok (.iconst 2, 1) := by decide +kernel
theorem dL_law_332 : decode cL_law 332 = .ok (.iadd, 1) := by decide +kernel
theorem dL_law_333 : decode cL_law 333 = .ok (.iaload, 1) := by decide +kernel
theorem dL_law_334 : decode cL_law 334 = .ok (.aload_n 0, 1) := by decide +kernel
theorem dL_law_335 : decode cL_law 335 = .ok (.iload_n 3, 1) := by decide +kernel
theorem dL_law_336 : decode cL_law 336 = .ok (.iconst 3, 1) := by decide +kernel
theorem dL_law_337 : decode cL_law 337 = .ok (.iadd, 1) := by decide +kernel
theorem dL_law_338 : decode cL_law 338 = .ok (.iaload, 1) := by decide +kernel
theorem dL_law_339 : decode cL_law 339 = .ok (.aload_n 0, 1) := by decide +kernel
theorem dL_law_340 : decode cL_law 340 = .ok (.iload_n 3, 1) := by decide +kernel
theorem dL_law_341 : decode cL_law 341 = .ok (.iconst 4, 1) := by decide +kernel
theorem dL_law_342 : decode cL_law 342 = .ok (.iadd, 1) := by decide +kernel
theorem dL_law_343 : decode cL_law 343 = .ok (.iaload, 1) := by decide +kernel
theorem dL_law_344 : decode cL_law 344 = .ok (.aload_n 0, 1) := by decide +kernel
theorem dL_law_345 : decode cL_law 345 = .ok (.iload_n 3, 1) := by decide +kernel
theorem dL_law_346 : decode cL_law 346 = .ok (.iconst 5, 1) := by decide +kernel
theorem dL_law_347 : decode cL_law 347 = .ok (.iadd, 1) := by decide +kernel
theorem dL_law_348 : decode cL_law 348 = .ok (.iaload, 1) := by decide +kernel
theorem dL_law_349 : decode cL_law 349 = .ok (.invokevirtual 45, 3) := by decide +kernel
theorem dL_law_352 : decode cL_law 352 = .ok (.if_icmp .eq 645, 3) := by decide +kernel
theorem dL_law_355 : decode cL_law 355 = .ok (.iconst 0, 1) := by decide +kernel
theorem dL_law_356 : decode cL_law 356 = .ok (.ireturn, 1) := by decide +kernel
theorem dL_law_357 : decode cL_law 357 = .ok (.aload_n 1, 1) := by decide +kernel
theorem dL_law_358 : decode cL_law 358 = .ok (.aload_n 0, 1) := by decide +kernel
theorem dL_law_359 : decode cL_law 359 = .ok (.iload_n 3, 1) := by decide +kernel
theorem dL_law_360 : decode cL_law 360 = .ok (.iconst 1, 1) := by decide +kernel
theorem dL_law_361 : decode cL_law 361 = .ok (.iadd, 1) := by decide +kernel
theorem dL_law_362 : decode cL_law 362 = .ok (.iaload, 1) := by decide +kernel
theorem dL_law_363 : decode cL_law 363 = .ok (.aload_n 0, 1) := by decide +kernel
theorem dL_law_364 : decode cL_law 364 = .ok (.iload_n 3, 1) := by decide +kernel
theorem dL_law_365 : decode cL_law 365 = .ok (.iconst 2, 1) := by decide +kernel
theorem dL_law_366 : decode cL_law 366 = .ok (.iadd, 1) := by decide +kernel
theorem dL_law_367 : decode cL_law 367 = .ok (.iaload, 1) := by decide +kernel
theorem dL_law_368 : decode cL_law 368 = .ok (.invokevirtual 46, 3) := by decide +kernel
theorem dL_law_371 : decode cL_law 371 = .ok (.aload_n 2, 1) := by decide +kernel
theorem dL_law_372 : decode cL_law 372 = .ok (.aload_n 0, 1) := by decide +kernel
theorem dL_law_373 : decode cL_law 373 = .ok (.iload_n 3, 1) := by decide +kernel
theorem dL_law_374 : decode cL_law 374 = .ok (.iconst 1, 1) := by decide +kernel
theorem dL_law_375 : decode cL_law 375 = .ok (.iadd, 1) := by decide +kernel
theorem dL_law_376 : decode cL_law 376 = .ok (.iaload, 1) := by decide +kernel
theorem dL_law_377 : decode cL_law 377 = .ok (.aload_n 0, 1) := by decide +kernel
theorem dL_law_378 : decode cL_law 378 = .ok (.iload_n 3, 1) := by decide +kernel
theorem dL_law_379 : decode cL_law 379 = .ok (.iconst 2, 1) := by decide +kernel
theorem dL_law_380 : decode cL_law 380 = .ok (.iadd, 1) := by decide +kernel
theorem dL_law_381 : decode cL_law 381 = .ok (.iaload, 1) := by decide +kernel
theorem dL_law_382 : decode cL_law 382 = .ok (.invokevirtual 49, 3) := by decide +kernel
theorem dL_law_385 : decode cL_law 385 = .ok (.if_icmp .eq 612, 3) := by decide +kernel
theorem dL_law_388 : decode cL_law 388 = .ok (.iconst 0, 1) := by decide +kernel
theorem dL_law_389 : decode cL_law 389 = .ok (.ireturn, 1) := by decide +kernel
theorem dL_law_390 : decode cL_law 390 = .ok (.aload_n 1, 1) := by decide +kernel
theorem dL_law_391 : decode cL_law 391 = .ok (.aload_n 0, 1) := by decide +kernel
theorem dL_law_392 : decode cL_law 392 = .ok (.iload_n 3, 1) := by decide +kernel
theorem dL_law_393 : decode cL_law 393 = .ok (.iconst 1, 1) := by decide +kernel
theorem dL_law_394 : decode cL_law 394 = .ok (.iadd, 1) := by decide +kernel
theorem dL_law_395 : decode cL_law 395 = .ok (.iaload, 1) := by decide +kernel
theorem dL_law_396 : decode cL_law 396 = .ok (.aload_n 0, 1) := by decide +kernel
theorem dL_law_397 : decode cL_law 397 = .ok (.iload_n 3, 1) := by decide +kernel
theorem dL_law_398 : decode cL_law 398 = .ok (.iconst 2, 1) := by decide +kernel
theorem dL_law_399 : decode cL_law 399 = .ok (.iadd, 1) := by decide +kernel
theorem dL_law_400 : decode cL_law 400 = .ok (.iaload, 1) := by decide +kernel
theorem dL_law_401 : decode cL_law 401 = .ok (.aload_n 0, 1) := by decide +kernel
theorem dL_law_402 : decode cL_law 402 = .ok (.iload_n 3, 1) := by decide +kernel
theorem dL_law_403 : decode cL_law 403 = .ok (.iconst 3, 1) := by decide +kernel
theorem dL_law_404 : decode cL_law 404 = .ok (.iadd, 1) := by decide +kernel
theorem dL_law_405 : decode cL_law 405 = .ok (.iaload, 1) := by decide +kernel
theorem dL_law_406 : decode cL_law 406 = .ok (.invokevirtual 50, 3) := by decide +kernel
theorem dL_law_409 : decode cL_law 409 = .ok (.aload_n 2, 1) := by decide +kernel
theorem dL_law_410 : decode cL_law 410 = .ok (.aload_n 0, 1) := by decide +kernel
theorem dL_law_411 : decode cL_law 411 = .ok (.iload_n 3, 1) := by decide +kernel
theorem dL_law_412 : decode cL_law 412 = .ok (.iconst 1, 1) := by decide +kernel
theorem dL_law_413 : decode cL_law 413 = .ok (.iadd, 1) := by decide +kernel
theorem dL_law_414 : decode cL_law 414 = .ok (.iaload, 1) := by decide +kernel
theorem dL_law_415 : decode cL_law 415 = .ok (.aload_n 0, 1) := by decide +kernel
theorem dL_law_416 : decode cL_law 416 = .ok (.iload_n 3, 1) := by decide +kernel
theorem dL_law_417 : decode cL_law 417 = .ok (.iconst 2, 1) := by decide +kernel
theorem dL_law_418 : decode cL_law 418 = .ok (.iadd, 1) := by decide +kernel
theorem dL_law_419 : decode cL_law 419 = .ok (.iaload, 1) := by decide +kernel
theorem dL_law_420 : decode cL_law 420 = .ok (.aload_n 0, 1) := by decide +kernel
theorem dL_law_421 : decode cL_law 421 = .ok (.iload_n 3, 1) := by decide +kernel
theorem dL_law_422 : decode cL_law 422 = .ok (.iconst 3, 1) := by decide +kernel
theorem dL_law_423 : decode cL_law 423 = .ok (.iadd, 1) := by decide +kernel
theorem dL_law_424 : decode cL_law 424 = .ok (.iaload, 1) := by decide +kernel
theorem dL_law_425 : decode cL_law 425 = .ok (.invokevirtual 53, 3) := by decide +kernel
theorem dL_law_428 : decode cL_law 428 = .ok (.if_icmp .eq 569, 3) := by decide +kernel
theorem dL_law_431 : decode cL_law 431 = .ok (.iconst 0, 1) := by decide +kernel
theorem dL_law_432 : decode cL_law 432 = .ok (.ireturn, 1) := by decide +kernel
theorem dL_law_433 : decode cL_law 433 = .ok (.aload_n 1, 1) := by decide +kernel
theorem dL_law_434 : decode cL_law 434 = .ok (.aload_n 0, 1) := by decide +kernel
theorem dL_law_435 : decode cL_law 435 = .ok (.iload_n 3, 1) := by decide +kernel
theorem dL_law_436 : decode cL_law 436 = .ok (.iconst 1, 1) := by decide +kernel
theorem dL_law_437 : decode cL_law 437 = .ok (.iadd, 1) := by decide +kernel
theorem dL_law_438 : decode cL_law 438 = .ok (.iaload, 1) := by decide +kernel
theorem dL_law_439 : decode cL_law 439 = .ok (.invokevirtual 54, 3) := by decide +kernel
theorem dL_law_442 : decode cL_law 442 = .ok (.aload_n 2, 1) := by decide +kernel
theorem dL_law_443 : decode cL_law 443 = .ok (.aload_n 0, 1) := by decide +kernel
theorem dL_law_444 : decode cL_law 444 = .ok (.iload_n 3, 1) := by decide +kernel
theorem dL_law_445 : decode cL_law 445 = .ok (.iconst 1, 1) := by decide +kernel
theorem dL_law_446 : decode cL_law 446 = .ok (.iadd, 1) := by decide +kernel
theorem dL_law_447 : decode cL_law 447 = .ok (.iaload, 1) := by decide +kernel
theorem dL_law_448 : decode cL_law 448 = .ok (.invokevirtual 57, 3) := by decide +kernel
theorem dL_law_451 : decode cL_law 451 = .ok (.if_icmp .eq 546, 3) := by decide +kernel
theorem dL_law_454 : decode cL_law 454 = .ok (.iconst 0, 1) := by decide +kernel
theorem dL_law_455 : decode cL_law 455 = .ok (.ireturn, 1) := by decide +kernel
theorem dL_law_456 : decode cL_law 456 = .ok (.aload_n 1, 1) := by decide +kernel
theorem dL_law_457 : decode cL_law 457 = .ok (.aload_n 0, 1) := by decide +kernel
theorem dL_law_458 : decode cL_law 458 = .ok (.iload_n 3, 1) := by decide +kernel
theorem dL_law_459 : decode cL_law 459 = .ok (.iconst 1, 1) := by decide +kernel
theorem dL_law_460 : decode cL_law 460 = .ok (.iadd, 1) := by decide +kernel
theorem dL_law_461 : decode cL_law 461 = .ok (.iaload, 1) := by decide +kernel
theorem dL_law_462 : decode cL_law 462 = .ok (.invokevirtual 58, 3) := by decide +kernel
theorem dL_law_465 : decode cL_law 465 = .ok (.aload_n 2, 1) := by decide +kernel
theorem dL_law_466 : decode cL_law 466 = .ok (.aload_n 0, 1) := by decide +kernel
theorem dL_law_467 : decode cL_law 467 = .ok (.iload_n 3, 1) := by decide +kernel
theorem dL_law_468 : decode cL_law 468 = .ok (.iconst 1, 1) := by decide +kernel
theorem dL_law_469 : decode cL_law 469 = .ok (.iadd, 1) := by decide +kernel
theorem dL_law_470 : decode cL_law 470 = .ok (.iaload, 1) := by decide +kernel
theorem dL_law_471 : decode cL_law 471 = .ok (.invokevirtual 61, 3) := by decide +kernel
theorem dL_law_474 : decode cL_law 474 = .ok (.if_icmp .eq 523, 3) := by decide +kernel
theorem dL_law_477 : decode cL_law 477 = .ok (.iconst 0, 1) := by decide +kernel
theorem dL_law_478 : decode cL_law 478 = .ok (.ireturn, 1) := by decide +kernel
theorem dL_law_479 : decode cL_law 479 = .ok (.aload_n 1, 1) := by decide +kernel
theorem dL_law_480 : decode cL_law 480 = .ok (.aload_n 0, 1) := by decide +kernel
theorem dL_law_481 : decode cL_law 481 = .ok (.iload_n 3, 1) := by decide +kernel
theorem dL_law_482 : decode cL_law 482 = .ok (.iconst 1, 1) := by decide +kernel
theorem dL_law_483 : decode cL_law 483 = .ok (.iadd, 1) := by decide +kernel
theorem dL_law_484 : decode cL_law 484 = .ok (.iaload, 1) := by decide +kernel
theorem dL_law_485 : decode cL_law 485 = .ok (.aload_n 0, 1) := by decide +kernel
theorem dL_law_486 : decode cL_law 486 = .ok (.iload_n 3, 1) := by decide +kernel
theorem dL_law_487 : decode cL_law 487 = .ok (.iconst 2, 1) := by decide +kernel
theorem dL_law_488 : decode cL_law 488 = .ok (.iadd, 1) := by decide +kernel
theorem dL_law_489 : decode cL_law 489 = .ok (.iaload, 1) := by decide +kernel
theorem dL_law_490 : decode cL_law 490 = .ok (.invokevirtual 62, 3) := by decide +kernel
theorem dL_law_493 : decode cL_law 493 = .ok (.aload_n 2, 1) := by decide +kernel
theorem dL_law_494 : decode cL_law 494 = .ok (.aload_n 0, 1) := by decide +kernel
theorem dL_law_495 : decode cL_law 495 = .ok (.iload_n 3, 1) := by decide +kernel
theorem dL_law_496 : decode cL_law 496 = .ok (.iconst 1, 1) := by decide +kernel
theorem dL_law_497 : decode cL_law 497 = .ok (.iadd, 1) := by decide +kernel
theorem dL_law_498 : decode cL_law 498 = .ok (.iaload, 1) := by decide +kernel
theorem dL_law_499 : decode cL_law 499 = .ok (.aload_n 0, 1) := by decide +kernel
theorem dL_law_500 : decode cL_law 500 = .ok (.iload_n 3, 1) := by decide +kernel
theorem dL_law_501 : decode cL_law 501 = .ok (.iconst 2, 1) := by decide +kernel
theorem dL_law_502 : decode cL_law 502 = .ok (.iadd, 1) := by decide +kernel
theorem dL_law_503 : decode cL_law 503 = .ok (.iaload, 1) := by decide +kernel
theorem dL_law_504 : decode cL_law 504 = .ok (.invokevirtual 65, 3) := by decide +kernel
theorem dL_law_507 : decode cL_law 507 = .ok (.if_icmp .eq 490, 3) := by decide +kernel
theorem dL_law_510 : decode cL_law 510 = .ok (.iconst 0, 1) := by decide +kernel
theorem dL_law_511 : decode cL_law 511 = .ok (.ireturn, 1) := by decide +kernel
theorem dL_law_512 : decode cL_law 512 = .ok (.aload_n 1, 1) := by decide +kernel
theorem dL_law_513 : decode cL_law 513 = .ok (.aload_n 0, 1) := by decide +kernel
theorem dL_law_514 : decode cL_law 514 = .ok (.iload_n 3, 1) := by decide +kernel
theorem dL_law_515 : decode cL_law 515 = .ok (.iconst 1, 1) := by decide +kernel
theorem dL_law_516 : decode cL_law 516 = .ok (.iadd, 1) := by decide +kernel
theorem dL_law_517 : decode cL_law 517 = .ok (.iaload, 1) := by decide +kernel
theorem dL_law_518 : decode cL_law 518 = .ok (.aload_n 0, 1) := by decide +kernel
theorem dL_law_519 : decode cL_law 519 = .ok (.iload_n 3, 1) := by decide +kernel
theorem dL_law_520 : decode cL_law 520 = .ok (.iconst 2, 1) := by decide +kernel
theorem dL_law_521 : decode cL_law 521 = .ok (.iadd, 1) := by decide +kernel
theorem dL_law_522 : decode cL_law 522 = .ok (.iaload, 1) := by decide +kernel
theorem dL_law_523 : decode cL_law 523 = .ok (.aload_n 0, 1) := by decide +kernel
theorem dL_law_524 : decode cL_law 524 = .ok (.iload_n 3, 1) := by decide +kernel
theorem dL_law_525 : decode cL_law 525 = .ok (.iconst 3, 1) := by decide +kernel
theorem dL_law_526 : decode cL_law 526 = .ok (.iadd, 1) := by decide +kernel
theorem dL_law_527 : decode cL_law 527 = .ok (.iaload, 1) := by decide +kernel
theorem dL_law_528 : decode cL_law 528 = .ok (.invokevirtual 66, 3) := by decide +kernel
theorem dL_law_531 : decode cL_law 531 = .ok (.aload_n 2, 1) := by decide +kernel
theorem dL_law_532 : decode cL_law 532 = .ok (.aload_n 0, 1) := by decide +kernel
theorem dL_law_533 : decode cL_law 533 = .ok (.iload_n 3, 1) := by decide +kernel
theorem dL_law_534 : decode cL_law 534 = .ok (.iconst 1, 1) := by decide +kernel
theorem dL_law_535 : decode cL_law 535 = .ok (.iadd, 1) := by decide +kernel
theorem dL_law_536 : decode cL_law 536 = .ok (.iaload, 1) := by decide +kernel
theorem dL_law_537 : decode cL_law 537 = .ok (.aload_n 0, 1) := by decide +kernel
theorem dL_law_538 : decode cL_law 538 = .ok (.iload_n 3, 1) := by decide +kernel
theorem dL_law_539 : decode cL_law 539 = .ok (.iconst 2, 1) := by decide +kernel
theorem dL_law_540 : decode cL_law 540 = .ok (.iadd, 1) := by decide +kernel
theorem dL_law_541 : decode cL_law 541 = .ok (.iaload, 1) := by decide +kernel
theorem dL_law_542 : decode cL_law 542 = .ok (.aload_n 0, 1) := by decide +kernel
theorem dL_law_543 : decode cL_law 543 = .ok (.iload_n 3, 1) := by decide +kernel
theorem dL_law_544 : decode cL_law 544 = .ok (.iconst 3, 1) := by decide +kernel
theorem dL_law_545 : decode cL_law 545 = .ok (.iadd, 1) := by decide +kernel
theorem dL_law_546 : decode cL_law 546 = .ok (.iaload, 1) := by decide +kernel
theorem dL_law_547 : decode cL_law 547 = .ok (.invokevirtual 69, 3) := by decide +kernel
theorem dL_law_550 : decode cL_law 550 = .ok (.if_icmp .eq 447, 3) := by decide +kernel
theorem dL_law_553 : decode cL_law 553 = .ok (.iconst 0, 1) := by decide +kernel
theorem dL_law_554 : decode cL_law 554 = .ok (.ireturn, 1) := by decide +kernel
theorem dL_law_555 : decode cL_law 555 = .ok (.aload_n 1, 1) := by decide +kernel
theorem dL_law_556 : decode cL_law 556 = .ok (.aload_n 0, 1) := by decide +kernel
theorem dL_law_557 : decode cL_law 557 = .ok (.iload_n 3, 1) := by decide +kernel
theorem dL_law_558 : decode cL_law 558 = .ok (.iconst 1, 1) := by decide +kernel
theorem dL_law_559 : decode cL_law 559 = .ok (.iadd, 1) := by decide +kernel
theorem dL_law_560 : decode cL_law 560 = .ok (.iaload, 1) := by decide +kernel
theorem dL_law_561 : decode cL_law 561 = .ok (.aload_n 0, 1) := by decide +kernel
theorem dL_law_562 : decode cL_law 562 = .ok (.iload_n 3, 1) := by decide +kernel
theorem dL_law_563 : decode cL_law 563 = .ok (.iconst 2, 1) := by decide +kernel
theorem dL_law_564 : decode cL_law 564 = .ok (.iadd, 1) := by decide +kernel
theorem dL_law_565 : decode cL_law 565 = .ok (.iaload, 1) := by decide +kernel
theorem dL_law_566 : decode cL_law 566 = .ok (.invokevirtual 70, 3) := by decide +kernel
theorem dL_law_569 : decode cL_law 569 = .ok (.aload_n 2, 1) := by decide +kernel
theorem dL_law_570 : decode cL_law 570 = .ok (.aload_n 0, 1) := by decide +kernel
theorem dL_law_571 : decode cL_law 571 = .ok (.iload_n 3, 1) := by decide +kernel
theorem dL_law_572 : decode cL_law 572 = .ok (.iconst 1, 1) := by decide +kernel
theorem dL_law_573 : decode cL_law 573 = .ok (.iadd, 1) := by decide +kernel
theorem dL_law_574 : decode cL_law 574 = .ok (.iaload, 1) := by decide +kernel
theorem dL_law_575 : decode cL_law 575 = .ok (.aload_n 0, 1) := by decide +kernel
theorem dL_law_576 : decode cL_law 576 = .ok (.iload_n 3, 1) := by decide +kernel
theorem dL_law_577 : decode cL_law 577 = .ok (.iconst 2, 1) := by decide +kernel
theorem dL_law_578 : decode cL_law 578 = .ok (.iadd, 1) := by decide +kernel
theorem dL_law_579 : decode cL_law 579 = .ok (.iaload, 1) := by decide +kernel
theorem dL_law_580 : decode cL_law 580 = .ok (.invokevirtual 73, 3) := by decide +kernel
theorem dL_law_583 : decode cL_law 583 = .ok (.if_icmp .eq 414, 3) := by decide +kernel
theorem dL_law_586 : decode cL_law 586 = .ok (.iconst 0, 1) := by decide +kernel
theorem dL_law_587 : decode cL_law 587 = .ok (.ireturn, 1) := by decide +kernel
theorem dL_law_588 : decode cL_law 588 = .ok (.aload_n 1, 1) := by decide +kernel
theorem dL_law_589 : decode cL_law 589 = .ok (.aload_n 0, 1) := by decide +kernel
theorem dL_law_590 : decode cL_law 590 = .ok (.iload_n 3, 1) := by decide +kernel
theorem dL_law_591 : decode cL_law 591 = .ok (.iconst 1, 1) := by decide +kernel
theorem dL_law_592 : decode cL_law 592 = .ok (.iadd, 1) := by decide +kernel
theorem dL_law_593 : decode cL_law 593 = .ok (.iaload, 1) := by decide +kernel
theorem dL_law_594 : decode cL_law 594 = .ok (.aload_n 0, 1) := by decide +kernel
theorem dL_law_595 : decode cL_law 595 = .ok (.iload_n 3, 1) := by decide +kernel
theorem dL_law_596 : decode cL_law 596 = .ok (.iconst 2, 1) := by decide +kernel
theorem dL_law_597 : decode cL_law 597 = .ok (.iadd, 1) := by decide +kernel
theorem dL_law_598 : decode cL_law 598 = .ok (.iaload, 1) := by decide +kernel
theorem dL_law_599 : decode cL_law 599 = .ok (.invokevirtual 74, 3) := by decide +kernel
theorem dL_law_602 : decode cL_law 602 = .ok (.aload_n 2, 1) := by decide +kernel
theorem dL_law_603 : decode cL_law 603 = .ok (.aload_n 0, 1) := by decide +kernel
theorem dL_law_604 : decode cL_law 604 = .ok (.iload_n 3, 1) := by decide +kernel
theorem dL_law_605 : decode cL_law 605 = .ok (.iconst 1, 1) := by decide +kernel
theorem dL_law_606 : decode cL_law 606 = .ok (.iadd, 1) := by decide +kernel
theorem dL_law_607 : decode cL_law 607 = .ok (.iaload, 1) := by decide +kernel
theorem dL_law_608 : decode cL_law 608 = .ok (.aload_n 0, 1) := by decide +kernel
theorem dL_law_609 : decode cL_law 609 = .ok (.iload_n 3, 1) := by decide +kernel
theorem dL_law_610 : decode cL_law 610 = .ok (.iconst 2, 1) := by decide +kernel
theorem dL_law_611 : decode cL_law 611 = .ok (.iadd, 1) := by decide +kernel
theorem dL_law_612 : decode cL_law 612 = .ok (.iaload, 1) := by decide +kernel
theorem dL_law_613 : decode cL_law 613 = .ok (.invokevirtual 77, 3) := by decide +kernel
theorem dL_law_616 : decode cL_law 616 = .ok (.if_icmp .eq 381, 3) := by decide +kernel
theorem dL_law_619 : decode cL_law 619 = .ok (.iconst 0, 1) := by decide +kernel
theorem dL_law_620 : decode cL_law 620 = .ok (.ireturn, 1) := by decide +kernel
theorem dL_law_621 : decode cL_law 621 = .ok (.aload_n 1, 1) := by decide +kernel
theorem dL_law_622 : decode cL_law 622 = .ok (.aload_n 0, 1) := by decide +kernel
theorem dL_law_623 : decode cL_law 623 = .ok (.iload_n 3, 1) := by decide +kernel
theorem dL_law_624 : decode cL_law 624 = .ok (.iconst 1, 1) := by decide +kernel
theorem dL_law_625 : decode cL_law 625 = .ok (.iadd, 1) := by decide +kernel
theorem dL_law_626 : decode cL_law 626 = .ok (.iaload, 1) := by decide +kernel
theorem dL_law_627 : decode cL_law 627 = .ok (.aload_n 0, 1) := by decide +kernel
theorem dL_law_628 : decode cL_law 628 = .ok (.iload_n 3, 1) := by decide +kernel
theorem dL_law_629 : decode cL_law 629 = .ok (.iconst 2, 1) := by decide +kernel
theorem dL_law_630 : decode cL_law 630 = .ok (.iadd, 1) := by decide +kernel
theorem dL_law_631 : decode cL_law 631 = .ok (.iaload, 1) := by decide +kernel
theorem dL_law_632 : decode cL_law 632 = .ok (.invokevirtual 78, 3) := by decide +kernel
theorem dL_law_635 : decode cL_law 635 = .ok (.aload_n 2, 1) := by decide +kernel
theorem dL_law_636 : decode cL_law 636 = .ok (.aload_n 0, 1) := by decide +kernel
theorem dL_law_637 : decode cL_law 637 = .ok (.iload_n 3, 1) := by decide +kernel
theorem dL_law_638 : decode cL_law 638 = .ok (.iconst 1, 1) := by decide +kernel
theorem dL_law_639 : decode cL_law 639 = .ok (.iadd, 1) := by decide +kernel
theorem dL_law_640 : decode cL_law 640 = .ok (.iaload, 1) := by decide +kernel
theorem dL_law_641 : decode cL_law 641 = .ok (.aload_n 0, 1) := by decide +kernel
theorem dL_law_642 : decode cL_law 642 = .ok (.iload_n 3, 1) := by decide +kernel
theorem dL_law_643 : decode cL_law 643 = .ok (.iconst 2, 1) := by decide +kernel
theorem dL_law_644 : decode cL_law 644 = .ok (.iadd, 1) := by decide +kernel
theorem dL_law_645 : decode cL_law 645 = .ok (.iaload, 1) := by decide +kernel
theorem dL_law_646 : decode cL_law 646 = .ok (.invokevirtual 81, 3) := by decide +kernel
theorem dL_law_649 : decode cL_law 649 = .ok (.if_icmp .eq 348, 3) := by decide +kernel
theorem dL_law_652 : decode cL_law 652 = .ok (.iconst 0, 1) := by decide +kernel
theorem dL_law_653 : decode cL_law 653 = .ok (.ireturn, 1) := by decide +kernel
theorem dL_law_654 : decode cL_law 654 = .ok (.aload_n 1, 1) := by decide +kernel
theorem dL_law_655 : decode cL_law 655 = .ok (.aload_n 0, 1) := by decide +kernel
theorem dL_law_656 : decode cL_law 656 = .ok (.iload_n 3, 1) := by decide +kernel
theorem dL_law_657 : decode cL_law 657 = .ok (.iconst 1, 1) := by decide +kernel
theorem dL_law_658 : decode cL_law 658 = .ok (.iadd, 1) := by decide +kernel
theorem dL_law_659 : decode cL_law 659 = .ok (.iaload, 1) := by decide +kernel
theorem dL_law_660 : decode cL_law 660 = .ok (.aload_n 0, 1) := by decide +kernel
theorem dL_law_661 : decode cL_law 661 = .ok (.iload_n 3, 1) := by decide +kernel
theorem dL_law_662 : decode cL_law 662 = .ok (.iconst 2, 1) := by decide +kernel
theorem dL_law_663 : decode cL_law 663 = .ok (.iadd, 1) := by decide +kernel
theorem dL_law_664 : decode cL_law 664 = .ok (.iaload, 1) := by decide +kernel
theorem dL_law_665 : decode cL_law 665 = .ok (.aload_n 0, 1) := by decide +kernel
theorem dL_law_666 : decode cL_law 666 = .ok (.iload_n 3, 1) := by decide +kernel
theorem dL_law_667 : decode cL_law 667 = .ok (.iconst 3, 1) := by decide +kernel
theorem dL_law_668 : decode cL_law 668 = .ok (.iadd, 1) := by decide +kernel
theorem dL_law_669 : decode cL_law 669 = .ok (.iaload, 1) := by decide +kernel
theorem dL_law_670 : decode cL_law 670 = .ok (.invokevirtual 82, 3) := by decide +kernel
theorem dL_law_673 : decode cL_law 673 = .ok (.aload_n 2, 1) := by decide +kernel
theorem dL_law_674 : decode cL_law 674 = .ok (.aload_n 0, 1) := by decide +kernel
theorem dL_law_675 : decode cL_law 675 = .ok (.iload_n 3, 1) := by decide +kernel
theorem dL_law_676 : decode cL_law 676 = .ok (.iconst 1, 1) := by decide +kernel
theorem dL_law_677 : decode cL_law 677 = .ok (.iadd, 1) := by decide +kernel
theorem dL_law_678 : decode cL_law 678 = .ok (.iaload, 1) := by decide +kernel
theorem dL_law_679 : decode cL_law 679 = .ok (.aload_n 0, 1) := by decide +kernel
theorem dL_law_680 : decode cL_law 680 = .ok (.iload_n 3, 1) := by decide +kernel
theorem dL_law_681 : decode cL_law 681 = .ok (.iconst 2, 1) := by decide +kernel
theorem dL_law_682 : decode cL_law 682 = .ok (.iadd, 1) := by decide +kernel
theorem dL_law_683 : decode cL_law 683 = .ok (.iaload, 1) := by decide +kernel
theorem dL_law_684 : decode cL_law 684 = .ok (.aload_n 0, 1) := by decide +kernel
theorem dL_law_685 : decode cL_law 685 = .ok (.iload_n 3, 1) := by decide +kernel
theorem dL_law_686 : decode cL_law 686 = .ok (.iconst 3, 1) := by decide +kernel
theorem dL_law_687 : decode cL_law 687 = .ok (.iadd, 1) := by decide +kernel
theorem dL_law_688 : decode cL_law 688 = .ok (.iaload, 1) := by decide +kernel
theorem dL_law_689 : decode cL_law 689 = .ok (.invokevirtual 85, 3) := by decide +kernel
theorem dL_law_692 : decode cL_law 692 = .ok (.if_icmp .eq 305, 3) := by decide +kernel
theorem dL_law_695 : decode cL_law 695 = .ok (.iconst 0, 1) := by decide +kernel
theorem dL_law_696 : decode cL_law 696 = .ok (.ireturn, 1) := by decide +kernel
theorem dL_law_697 : decode cL_law 697 = .ok (.aload_n 1, 1) := by decide +kernel
theorem dL_law_698 : decode cL_law 698 = .ok (.aload_n 0, 1) := by decide +kernel
theorem dL_law_699 : decode cL_law 699 = .ok (.iload_n 3, 1) := by decide +kernel
theorem dL_law_700 : decode cL_law 700 = .ok (.iconst 1, 1) := by decide +kernel
theorem dL_law_701 : decode cL_law 701 = .ok (.iadd, 1) := by decide +kernel
theorem dL_law_702 : decode cL_law 702 = .ok (.iaload, 1) := by decide +kernel
theorem dL_law_703 : decode cL_law 703 = .ok (.aload_n 0, 1) := by decide +kernel
theorem dL_law_704 : decode cL_law 704 = .ok (.iload_n 3, 1) := by decide +kernel
theorem dL_law_705 : decode cL_law 705 = .ok (.iconst 2, 1) := by decide +kernel
theorem dL_law_706 : decode cL_law 706 = .ok (.iadd, 1) := by decide +kernel
theorem dL_law_707 : decode cL_law 707 = .ok (.iaload, 1) := by decide +kernel
theorem dL_law_708 : decode cL_law 708 = .ok (.aload_n 0, 1) := by decide +kernel
theorem dL_law_709 : decode cL_law 709 = .ok (.iload_n 3, 1) := by decide +kernel
theorem dL_law_710 : decode cL_law 710 = .ok (.iconst 3, 1) := by decide +kernel
theorem dL_law_711 : decode cL_law 711 = .ok (.iadd, 1) := by decide +kernel
theorem dL_law_712 : decode cL_law 712 = .ok (.iaload, 1) := by decide +kernel
theorem dL_law_713 : decode cL_law 713 = .ok (.aload_n 0, 1) := by decide +kernel
theorem dL_law_714 : decode cL_law 714 = .ok (.iload_n 3, 1) := by decide +kernel
theorem dL_law_715 : decode cL_law 715 = .ok (.iconst 4, 1) := by decide +kernel
theorem dL_law_716 : decode cL_law 716 = .ok (.iadd, 1) := by decide +kernel
theorem dL_law_717 : decode cL_law 717 = .ok (.iaload, 1) := by decide +kernel
theorem dL_law_718 : decode cL_law 718 = .ok (.invokevirtual 86, 3) := by decide +kernel
theorem dL_law_721 : decode cL_law 721 = .ok (.aload_n 2, 1) := by decide +kernel
theorem dL_law_722 : decode cL_law 722 = .ok (.aload_n 0, 1) := by decide +kernel
theorem dL_law_723 : decode cL_law 723 = .ok (.iload_n 3, 1) := by decide +kernel
theorem dL_law_724 : decode cL_law 724 = .ok (.iconst 1, 1) := by decide +kernel
theorem dL_law_725 : decode cL_law 725 = .ok (.iadd, 1) := by decide +kernel
theorem dL_law_726 : decode cL_law 726 = .ok (.iaload, 1) := by decide +kernel
theorem dL_law_727 : decode cL_law 727 = .ok (.aload_n 0, 1) := by decide +kernel
theorem dL_law_728 : decode cL_law 728 = .ok (.iload_n 3, 1) := by decide +kernel
theorem dL_law_729 : decode cL_law 729 = .ok (.iconst 2, 1) := by decide +kernel
theorem dL_law_730 : decode cL_law 730 = .ok (.iadd, 1) := by decide +kernel
theorem dL_law_731 : decode cL_law 731 = .ok (.iaload, 1) := by decide +kernel
theorem dL_law_732 : decode cL_law 732 = .ok (.aload_n 0, 1) := by decide +kernel
theorem dL_law_733 : decode cL_law 733 = .ok (.iload_n 3, 1) := by decide +kernel
theorem dL_law_734 : decode cL_law 734 = .ok (.iconst 3, 1) := by decide +kernel
theorem dL_law_735 : decode cL_law 735 = .ok (.iadd, 1) := by decide +kernel
theorem dL_law_736 : decode cL_law 736 = .ok (.iaload, 1) := by decide +kernel
theorem dL_law_737 : decode cL_law 737 = .ok (.aload_n 0, 1) := by decide +kernel
theorem dL_law_738 : decode cL_law 738 = .ok (.iload_n 3, 1) := by decide +kernel
theorem dL_law_739 : decode cL_law 739 = .ok (.iconst 4, 1) := by decide +kernel
theorem dL_law_740 : decode cL_law 740 = .ok (.iadd, 1) := by decide +kernel
theorem dL_law_741 : decode cL_law 741 = .ok (.iaload, 1) := by decide +kernel
theorem dL_law_742 : decode cL_law 742 = .ok (.invokevirtual 90, 3) := by decide +kernel
theorem dL_law_745 : decode cL_law 745 = .ok (.if_icmp .eq 252, 3) := by decide +kernel
theorem dL_law_748 : decode cL_law 748 = .ok (.iconst 0, 1) := by decide +kernel
theorem dL_law_749 : decode cL_law 749 = .ok (.ireturn, 1) := by decide +kernel
theorem dL_law_750 : decode cL_law 750 = .ok (.aload_n 1, 1) := by decide +kernel
theorem dL_law_751 : decode cL_law 751 = .ok (.aload_n 0, 1) := by decide +kernel
theorem dL_law_752 : decode cL_law 752 = .ok (.iload_n 3, 1) := by decide +kernel
theorem dL_law_753 : decode cL_law 753 = .ok (.iconst 1, 1) := by decide +kernel
theorem dL_law_754 : decode cL_law 754 = .ok (.iadd, 1) := by decide +kernel
theorem dL_law_755 : decode cL_law 755 = .ok (.iaload, 1) := by decide +kernel
theorem dL_law_756 : decode cL_law 756 = .ok (.aload_n 0, 1) := by decide +kernel
theorem dL_law_757 : decode cL_law 757 = .ok (.iload_n 3, 1) := by decide +kernel
theorem dL_law_758 : decode cL_law 758 = .ok (.iconst 2, 1) := by decide +kernel
theorem dL_law_759 : decode cL_law 759 = .ok (.iadd, 1) := by decide +kernel
theorem dL_law_760 : decode cL_law 760 = .ok (.iaload, 1) := by decide +kernel
theorem dL_law_761 : decode cL_law 761 = .ok (.invokevirtual 91, 3) := by decide +kernel
theorem dL_law_764 : decode cL_law 764 = .ok (.aload_n 2, 1) := by decide +kernel
theorem dL_law_765 : decode cL_law 765 = .ok (.aload_n 0, 1) := by decide +kernel
theorem dL_law_766 : decode cL_law 766 = .ok (.iload_n 3, 1) := by decide +kernel
theorem dL_law_767 : decode cL_law 767 = .ok (.iconst 1, 1) := by decide +kernel
theorem dL_law_768 : decode cL_law 768 = .ok (.iadd, 1) := by decide +kernel
theorem dL_law_769 : decode cL_law 769 = .ok (.iaload, 1) := by decide +kernel
theorem dL_law_770 : decode cL_law 770 = .ok (.aload_n 0, 1) := by decide +kernel
theorem dL_law_771 : decode cL_law 771 = .ok (.iload_n 3, 1) := by decide +kernel
theorem dL_law_772 : decode cL_law 772 = .ok (.iconst 2, 1) := by decide +kernel
theorem dL_law_773 : decode cL_law 773 = .ok (.iadd, 1) := by decide +kernel
theorem dL_law_774 : decode cL_law 774 = .ok (.iaload, 1) := by decide +kernel
theorem dL_law_775 : decode cL_law 775 = .ok (.invokevirtual 94, 3) := by decide +kernel
theorem dL_law_778 : decode cL_law 778 = .ok (.if_icmp .eq 219, 3) := by decide +kernel
theorem dL_law_781 : decode cL_law 781 = .ok (.iconst 0, 1) := by decide +kernel
theorem dL_law_782 : decode cL_law 782 = .ok (.ireturn, 1) := by decide +kernel
theorem dL_law_783 : decode cL_law 783 = .ok (.aload_n 1, 1) := by decide +kernel
theorem dL_law_784 : decode cL_law 784 = .ok (.aload_n 0, 1) := by decide +kernel
theorem dL_law_785 : decode cL_law 785 = .ok (.iload_n 3, 1) := by decide +kernel
theorem dL_law_786 : decode cL_law 786 = .ok (.iconst 1, 1) := by decide +kernel
theorem dL_law_787 : decode cL_law 787 = .ok (.iadd, 1) := by decide +kernel
theorem dL_law_788 : decode cL_law 788 = .ok (.iaload, 1) := by decide +kernel
theorem dL_law_789 : decode cL_law 789 = .ok (.invokevirtual 95, 3) := by decide +kernel
theorem dL_law_792 : decode cL_law 792 = .ok (.aload_n 2, 1) := by decide +kernel
theorem dL_law_793 : decode cL_law 793 = .ok (.aload_n 0, 1) := by decide +kernel
theorem dL_law_794 : decode cL_law 794 = .ok (.iload_n 3, 1) := by decide +kernel
theorem dL_law_795 : decode cL_law 795 = .ok (.iconst 1, 1) := by decide +kernel
theorem dL_law_796 : decode cL_law 796 = .ok (.iadd, 1) := by decide +kernel
theorem dL_law_797 : decode cL_law 797 = .ok (.iaload, 1) := by decide +kernel
theorem dL_law_798 : decode cL_law 798 = .ok (.invokevirtual 98, 3) := by decide +kernel
theorem dL_law_801 : decode cL_law 801 = .ok (.if_icmp .eq 196, 3) := by decide +kernel
theorem dL_law_804 : decode cL_law 804 = .ok (.iconst 0, 1) := by decide +kernel
theorem dL_law_805 : decode cL_law 805 = .ok (.ireturn, 1) := by decide +kernel
theorem dL_law_806 : decode cL_law 806 = .ok (.aload_n 1, 1) := by decide +kernel
theorem dL_law_807 : decode cL_law 807 = .ok (.aload_n 0, 1) := by decide +kernel
theorem dL_law_808 : decode cL_law 808 = .ok (.iload_n 3, 1) := by decide +kernel
theorem dL_law_809 : decode cL_law 809 = .ok (.iconst 1, 1) := by decide +kernel
theorem dL_law_810 : decode cL_law 810 = .ok (.iadd, 1) := by decide +kernel
theorem dL_law_811 : decode cL_law 811 = .ok (.iaload, 1) := by decide +kernel
theorem dL_law_812 : decode cL_law 812 = .ok (.invokevirtual 99, 3) := by decide +kernel
theorem dL_law_815 : decode cL_law 815 = .ok (.aload_n 2, 1) := by decide +kernel
theorem dL_law_816 : decode cL_law 816 = .ok (.aload_n 0, 1) := by decide +kernel
theorem dL_law_817 : decode cL_law 817 = .ok (.iload_n 3, 1) := by decide +kernel
theorem dL_law_818 : decode cL_law 818 = .ok (.iconst 1, 1) := by decide +kernel
theorem dL_law_819 : decode cL_law 819 = .ok (.iadd, 1) := by decide +kernel
theorem dL_law_820 : decode cL_law 820 = .ok (.iaload, 1) := by decide +kernel
theorem dL_law_821 : decode cL_law 821 = .ok (.invokevirtual 102, 3) := by decide +kernel
theorem dL_law_824 : decode cL_law 824 = .ok (.if_icmp .eq 173, 3) := by decide +kernel
theorem dL_law_827 : decode cL_law 827 = .ok (.iconst 0, 1) := by decide +kernel
theorem dL_law_828 : decode cL_law 828 = .ok (.ireturn, 1) := by decide +kernel
theorem dL_law_829 : decode cL_law 829 = .ok (.aload_n 1, 1) := by decide +kernel
theorem dL_law_830 : decode cL_law 830 = .ok (.aload_n 0, 1) := by decide +kernel
theorem dL_law_831 : decode cL_law 831 = .ok (.iload_n 3, 1) := by decide +kernel
theorem dL_law_832 : decode cL_law 832 = .ok (.iconst 1, 1) := by decide +kernel
theorem dL_law_833 : decode cL_law 833 = .ok (.iadd, 1) := by decide +kernel
theorem dL_law_834 : decode cL_law 834 = .ok (.iaload, 1) := by decide +kernel
theorem dL_law_835 : decode cL_law 835 = .ok (.invokevirtual 103, 3) := by decide +kernel
theorem dL_law_838 : decode cL_law 838 = .ok (.aload_n 2, 1) := by decide +kernel
theorem dL_law_839 : decode cL_law 839 = .ok (.aload_n 0, 1) := by decide +kernel
theorem dL_law_840 : decode cL_law 840 = .ok (.iload_n 3, 1) := by decide +kernel
theorem dL_law_841 : decode cL_law 841 = .ok (.iconst 1, 1) := by decide +kernel
theorem dL_law_842 : decode cL_law 842 = .ok (.iadd, 1) := by decide +kernel
theorem dL_law_843 : decode cL_law 843 = .ok (.iaload, 1) := by decide +kernel
theorem dL_law_844 : decode cL_law 844 = .ok (.invokevirtual 106, 3) := by decide +kernel
theorem dL_law_847 : decode cL_law 847 = .ok (.if_icmp .eq 150, 3) := by decide +kernel
theorem dL_law_850 : decode cL_law 850 = .ok (.iconst 0, 1) := by decide +kernel
theorem dL_law_851 : decode cL_law 851 = .ok (.ireturn, 1) := by decide +kernel
theorem dL_law_852 : decode cL_law 852 = .ok (.aload_n 1, 1) := by decide +kernel
theorem dL_law_853 : decode cL_law 853 = .ok (.aload_n 0, 1) := by decide +kernel
theorem dL_law_854 : decode cL_law 854 = .ok (.iload_n 3, 1) := by decide +kernel
theorem dL_law_855 : decode cL_law 855 = .ok (.iconst 1, 1) := by decide +kernel
theorem dL_law_856 : decode cL_law 856 = .ok (.iadd, 1) := by decide +kernel
theorem dL_law_857 : decode cL_law 857 = .ok (.iaload, 1) := by decide +kernel
theorem dL_law_858 : decode cL_law 858 = .ok (.invokevirtual 107, 3) := by decide +kernel
theorem dL_law_861 : decode cL_law 861 = .ok (.aload_n 2, 1) := by decide +kernel
theorem dL_law_862 : decode cL_law 862 = .ok (.aload_n 0, 1) := by decide +kernel
theorem dL_law_863 : decode cL_law 863 = .ok (.iload_n 3, 1) := by decide +kernel
theorem dL_law_864 : decode cL_law 864 = .ok (.iconst 1, 1) := by decide +kernel
theorem dL_law_865 : decode cL_law 865 = .ok (.iadd, 1) := by decide +kernel
theorem dL_law_866 : decode cL_law 866 = .ok (.iaload, 1) := by decide +kernel
theorem dL_law_867 : decode cL_law 867 = .ok (.invokevirtual 110, 3) := by decide +kernel
theorem dL_law_870 : decode cL_law 870 = .ok (.if_icmp .eq 127, 3) := by decide +kernel
theorem dL_law_873 : decode cL_law 873 = .ok (.iconst 0, 1) := by decide +kernel
theorem dL_law_874 : decode cL_law 874 = .ok (.ireturn, 1) := by decide +kernel
theorem dL_law_875 : decode cL_law 875 = .ok (.aload_n 1, 1) := by decide +kernel
theorem dL_law_876 : decode cL_law 876 = .ok (.aload_n 0, 1) := by decide +kernel
theorem dL_law_877 : decode cL_law 877 = .ok (.iload_n 3, 1) := by decide +kernel
theorem dL_law_878 : decode cL_law 878 = .ok (.iconst 1, 1) := by decide +kernel
theorem dL_law_879 : decode cL_law 879 = .ok (.iadd, 1) := by decide +kernel
theorem dL_law_880 : decode cL_law 880 = .ok (.iaload, 1) := by decide +kernel
theorem dL_law_881 : decode cL_law 881 = .ok (.aload_n 0, 1) := by decide +kernel
theorem dL_law_882 : decode cL_law 882 = .ok (.iload_n 3, 1) := by decide +kernel
theorem dL_law_883 : decode cL_law 883 = .ok (.iconst 2, 1) := by decide +kernel
theorem dL_law_884 : decode cL_law 884 = .ok (.iadd, 1) := by decide +kernel
theorem dL_law_885 : decode cL_law 885 = .ok (.iaload, 1) := by decide +kernel
theorem dL_law_886 : decode cL_law 886 = .ok (.invokevirtual 111, 3) := by decide +kernel
theorem dL_law_889 : decode cL_law 889 = .ok (.aload_n 2, 1) := by decide +kernel
theorem dL_law_890 : decode cL_law 890 = .ok (.aload_n 0, 1) := by decide +kernel
theorem dL_law_891 : decode cL_law 891 = .ok (.iload_n 3, 1) := by decide +kernel
theorem dL_law_892 : decode cL_law 892 = .ok (.iconst 1, 1) := by decide +kernel
theorem dL_law_893 : decode cL_law 893 = .ok (.iadd, 1) := by decide +kernel
theorem dL_law_894 : decode cL_law 894 = .ok (.iaload, 1) := by decide +kernel
theorem dL_law_895 : decode cL_law 895 = .ok (.aload_n 0, 1) := by decide +kernel
theorem dL_law_896 : decode cL_law 896 = .ok (.iload_n 3, 1) := by decide +kernel
theorem dL_law_897 : decode cL_law 897 = .ok (.iconst 2, 1) := by decide +kernel
theorem dL_law_898 : decode cL_law 898 = .ok (.iadd, 1) := by decide +kernel
theorem dL_law_899 : decode cL_law 899 = .ok (.iaload, 1) := by decide +kernel
theorem dL_law_900 : decode cL_law 900 = .ok (.invokevirtual 114, 3) := by decide +kernel
theorem dL_law_903 : decode cL_law 903 = .ok (.if_icmp .eq 94, 3) := by decide +kernel
theorem dL_law_906 : decode cL_law 906 = .ok (.iconst 0, 1) := by decide +kernel
theorem dL_law_907 : decode cL_law 907 = .ok (.ireturn, 1) := by decide +kernel
theorem dL_law_908 : decode cL_law 908 = .ok (.aload_n 1, 1) := by decide +kernel
theorem dL_law_909 : decode cL_law 909 = .ok (.aload_n 0, 1) := by decide +kernel
theorem dL_law_910 : decode cL_law 910 = .ok (.iload_n 3, 1) := by decide +kernel
theorem dL_law_911 : decode cL_law 911 = .ok (.iconst 1, 1) := by decide +kernel
theorem dL_law_912 : decode cL_law 912 = .ok (.iadd, 1) := by decide +kernel
theorem dL_law_913 : decode cL_law 913 = .ok (.iaload, 1) := by decide +kernel
theorem dL_law_914 : decode cL_law 914 = .ok (.aload_n 0, 1) := by decide +kernel
theorem dL_law_915 : decode cL_law 915 = .ok (.iload_n 3, 1) := by decide +kernel
theorem dL_law_916 : decode cL_law 916 = .ok (.iconst 2, 1) := by decide +kernel
theorem dL_law_917 : decode cL_law 917 = .ok (.iadd, 1) := by decide +kernel
theorem dL_law_918 : decode cL_law 918 = .ok (.iaload, 1) := by decide +kernel
theorem dL_law_919 : decode cL_law 919 = .ok (.aload_n 0, 1) := by decide +kernel
theorem dL_law_920 : decode cL_law 920 = .ok (.iload_n 3, 1) := by decide +kernel
theorem dL_law_921 : decode cL_law 921 = .ok (.iconst 3, 1) := by decide +kernel
theorem dL_law_922 : decode cL_law 922 = .ok (.iadd, 1) := by decide +kernel
theorem dL_law_923 : decode cL_law 923 = .ok (.iaload, 1) := by decide +kernel
theorem dL_law_924 : decode cL_law 924 = .ok (.invokevirtual 115, 3) := by decide +kernel
theorem dL_law_927 : decode cL_law 927 = .ok (.aload_n 2, 1) := by decide +kernel
theorem dL_law_928 : decode cL_law 928 = .ok (.aload_n 0, 1) := by decide +kernel
theorem dL_law_929 : decode cL_law 929 = .ok (.iload_n 3, 1) := by decide +kernel
end
section
theorem dL_law_930 : decode cL_law 930 = .ok (.iconst 1, 1) := by decide +kernel
theorem dL_law_931 : decode cL_law 931 = .ok (.iadd, 1) := by decide +kernel
theorem dL_law_932 : decode cL_law 932 = .ok (.iaload, 1) := by decide +kernel
theorem dL_law_933 : decode cL_law 933 = .ok (.aload_n 0, 1) := by decide +kernel
theorem dL_law_934 : decode cL_law 934 = .ok (.iload_n 3, 1) := by decide +kernel
theorem dL_law_935 : decode cL_law 935 = .ok (.iconst 2, 1) := by decide +kernel
theorem dL_law_936 : decode cL_law 936 = .ok (.iadd, 1) := by decide +kernel
theorem dL_law_937 : decode cL_law 937 = .ok (.iaload, 1) := by decide +kernel
theorem dL_law_938 : decode cL_law 938 = .ok (.aload_n 0, 1) := by decide +kernel
theorem dL_law_939 : decode cL_law 939 = .ok (.iload_n 3, 1) := by decide +kernel
theorem dL_law_940 : decode cL_law 940 = .ok (.iconst 3, 1) := by decide +kernel
theorem dL_law_941 : decode cL_law 941 = .ok (.iadd, 1) := by decide +kernel
theorem dL_law_942 : decode cL_law 942 = .ok (.iaload, 1) := by decide +kernel
theorem dL_law_943 : decode cL_law 943 = .ok (.invokevirtual 118, 3) := by decide +kernel
theorem dL_law_946 : decode cL_law 946 = .ok (.if_icmp .eq 51, 3) := by decide +kernel
theorem dL_law_949 : decode cL_law 949 = .ok (.iconst 0, 1) := by decide +kernel
theorem dL_law_950 : decode cL_law 950 = .ok (.ireturn, 1) := by decide +kernel
theorem dL_law_951 : decode cL_law 951 = .ok (.aload_n 1, 1) := by decide +kernel
theorem dL_law_952 : decode cL_law 952 = .ok (.aload_n 0, 1) := by decide +kernel
theorem dL_law_953 : decode cL_law 953 = .ok (.iload_n 3, 1) := by decide +kernel
theorem dL_law_954 : decode cL_law 954 = .ok (.iconst 1, 1) := by decide +kernel
theorem dL_law_955 : decode cL_law 955 = .ok (.iadd, 1) := by decide +kernel
theorem dL_law_956 : decode cL_law 956 = .ok (.iaload, 1) := by decide +kernel
theorem dL_law_957 : decode cL_law 957 = .ok (.invokevirtual 119, 3) := by decide +kernel
theorem dL_law_960 : decode cL_law 960 = .ok (.aload_n 2, 1) := by decide +kernel
theorem dL_law_961 : decode cL_law 961 = .ok (.aload_n 0, 1) := by decide +kernel
theorem dL_law_962 : decode cL_law 962 = .ok (.iload_n 3, 1) := by decide +kernel
theorem dL_law_963 : decode cL_law 963 = .ok (.iconst 1, 1) := by decide +kernel
theorem dL_law_964 : decode cL_law 964 = .ok (.iadd, 1) := by decide +kernel
theorem dL_law_965 : decode cL_law 965 = .ok (.iaload, 1) := by decide +kernel
theorem dL_law_966 : decode cL_law 966 = .ok (.invokevirtual 122, 3) := by decide +kernel
theorem dL_law_969 : decode cL_law 969 = .ok (.if_icmp .eq 28, 3) := by decide +kernel
theorem dL_law_972 : decode cL_law 972 = .ok (.iconst 0, 1) := by decide +kernel
theorem dL_law_973 : decode cL_law 973 = .ok (.ireturn, 1) := by decide +kernel
theorem dL_law_974 : decode cL_law 974 = .ok (.aload_n 1, 1) := by decide +kernel
theorem dL_law_975 : decode cL_law 975 = .ok (.aload_n 0, 1) := by decide +kernel
theorem dL_law_976 : decode cL_law 976 = .ok (.iload_n 3, 1) := by decide +kernel
theorem dL_law_977 : decode cL_law 977 = .ok (.iconst 1, 1) := by decide +kernel
theorem dL_law_978 : decode cL_law 978 = .ok (.iadd, 1) := by decide +kernel
theorem dL_law_979 : decode cL_law 979 = .ok (.iaload, 1) := by decide +kernel
theorem dL_law_980 : decode cL_law 980 = .ok (.invokevirtual 123, 3) := by decide +kernel
theorem dL_law_983 : decode cL_law 983 = .ok (.aload_n 2, 1) := by decide +kernel
theorem dL_law_984 : decode cL_law 984 = .ok (.aload_n 0, 1) := by decide +kernel
theorem dL_law_985 : decode cL_law 985 = .ok (.iload_n 3, 1) := by decide +kernel
theorem dL_law_986 : decode cL_law 986 = .ok (.iconst 1, 1) := by decide +kernel
theorem dL_law_987 : decode cL_law 987 = .ok (.iadd, 1) := by decide +kernel
theorem dL_law_988 : decode cL_law 988 = .ok (.iaload, 1) := by decide +kernel
theorem dL_law_989 : decode cL_law 989 = .ok (.invokevirtual 126, 3) := by decide +kernel
theorem dL_law_992 : decode cL_law 992 = .ok (.if_icmp .eq 5, 3) := by decide +kernel
theorem dL_law_995 : decode cL_law 995 = .ok (.iconst 0, 1) := by decide +kernel
theorem dL_law_996 : decode cL_law 996 = .ok (.ireturn, 1) := by decide +kernel
theorem dL_law_997 : decode cL_law 997 = .ok (.iinc 3 6, 3) := by decide +kernel
theorem dL_law_1000 : decode cL_law 1000 = .ok (.goto (-982), 3) := by decide +kernel
theorem dL_law_1003 : decode cL_law 1003 = .ok (.iconst 1, 1) := by decide +kernel
theorem dL_law_1004 : decode cL_law 1004 = .ok (.ireturn, 1) := by decide +kernel
end
section
/-! the abstract machine's words: values, memory, its tie to the heap, and the judgement AZ (a walk from a frame) -/
abbrev VV : Type := Int ⊕ (Int ⊕ Int)
abbrev vI (x : Int) : VV := Sum.inl x
abbrev vL (x : Int) : VV := Sum.inr (Sum.inl x)
abbrev vR (a : Int) : VV := Sum.inr (Sum.inr a)
def inI (x : Int) : Prop := -2147483648 ≤ x ∧ x < 2147483648
def inL (x : Int) : Prop := -9223372036854775808 ≤ x ∧ x < 9223372036854775808
def okV (v : VV) : Prop := match v with
  | Sum.inl x => inI x
  | Sum.inr (Sum.inl x) => inL x
  | Sum.inr (Sum.inr a) => inI a
abbrev Hp : Type := Int → Int → Int
def wr (h : Hp) (a k v : Int) : Hp := fun b j => if b = a ∧ j = k then v else h b j
def nw (h : Hp) (c n : Int) : Hp := fun b j => if b = h 0 0 + 1 then (if j = -1 then c else if j = -2 then n else 0) else if b = 0 ∧ j = 0 then h 0 0 + 1 else h b j
/-- launch, class numbers and slots, array classes, base, cells of before (script, texts), byte rows of the texts, script -/
abbrev GG : Type := Launch × ((Nat → ClassId) × (Nat → Nat → Nat)) × (Int → ClassId) × Nat × (Int → Nat) × (Nat × (Nat → Int32))
abbrev gB (G : GG) : Nat := G.2.2.2.1
abbrev gY (G : GG) : Int → ClassId := G.2.2.1
abbrev gN (G : GG) : Int → Nat := G.2.2.2.2.1
abbrev gA (G : GG) : Nat → Prop := fun q => gB G < q
def adr (G : GG) (a : Int) : Nat := if a < 0 then gN G a else gB G + a.toNat
def rfo (G : GG) (a : Int) : Option Nat := if a = 0 then none else some (adr G a)
def cv (G : GG) (v : VV) : Value := match v with
  | Sum.inl x => .int (Int32.ofInt x)
  | Sum.inr (Sum.inl x) => .long (Int64.ofInt x)
  | Sum.inr (Sum.inr a) => va_rf (rfo G a)
def fRt : List (List Bool) := [[true, true, false], [false, true, true, true, true, true, false, false, false, false, false, false, false, false, false, false], [true, true, true, true, false, false], [false, false, false, false], [false, false, false, false, false, true], [false, false, false, false, false, false, false, false, false, false], [true, true, false, false, false, false, false], [true, true, true, false, false, false], [false, false, false, false, false, false, false], [true, true, true, true, true, false], [true, true, true, true, true, true, true, true, true, true, true, true, true, true, true, true, true, true, true, false, true, false, false, true, true, true, true, false, false, false, true, false, false, false, false, false, true, true, true]]
def fR (c k : Nat) : Bool := (fRt.getD c []).getD k false
def nF (c : Nat) : Nat := (fRt.getD c []).length
def fv (G : GG) (c k : Nat) (x : Int) : Value := if fR c k = true then va_rf (rfo G x) else Value.int (Int32.ofInt x)
def encO (G : GG) (c : Nat) (r : Int → Int) : List Value := (List.range (nF c)).map (fun k => fv G c k (r k))
def enc (G : GG) (r : Int → Int) : va_E :=
  if r (-1) ≤ 11 then .inr ((r (-1) - 1).toNat, encO G (r (-1) - 1).toNat r)
  else if r (-1) ≤ 22 then .inl (gY G (r (-1)), (r (-2)).toNat, .inl (fun j => Int32.ofInt (r j)))
  else .inl (gY G (r (-1)), (r (-2)).toNat, .inr (.inr (.inr (.inr (fun j => rfo G (r j))))))
def cls (G : GG) (h : Hp) : va_W := (List.range (h 0 0).toNat).map (fun i => (gB G + (i + 1), enc G (h ((i : Int) + 1))))
theorem adr_pos {G : GG} {a : Int} (h : 1 ≤ a) : adr G a = gB G + ((a - 1).toNat + 1) := by
  unfold adr
  rw [if_neg (by omega)]
  omega
theorem cls_at {G : GG} {h : Hp} {a : Int} (h1 : 1 ≤ a) (h2 : a ≤ h 0 0) : (cls G h)[(a - 1).toNat]? = some (adr G a, enc G (h a)) := by
  unfold cls
  rw [List.getElem?_map, List.getElem?_range (by omega)]
  simp only [Option.map_some]
  rw [adr_pos h1, show (((a - 1).toNat : Nat) : Int) + 1 = a by omega]
theorem cls_set {G : GG} {h h' : Hp} {a : Int} (h1 : 1 ≤ a) (h2 : a ≤ h 0 0) (h3 : h' 0 0 = h 0 0) (h4 : ∀ b, 1 ≤ b → b ≠ a → h' b = h b) : (cls G h).set (a - 1).toNat (adr G a, enc G (h' a)) = cls G h' := by
  apply List.ext_getElem?
  intro i
  rw [List.getElem?_set]
  unfold cls
  rw [h3]
  by_cases hi : (a - 1).toNat = i
  · subst hi
    rw [if_pos rfl, List.getElem?_map, List.getElem?_range (by omega)]
    simp only [List.length_map, List.length_range, Option.map_some]
    rw [if_pos (by omega), adr_pos h1, show (((a - 1).toNat : Nat) : Int) + 1 = a by omega]
  · rw [if_neg hi, List.getElem?_map, List.getElem?_map]
    by_cases hl : i < (h 0 0).toNat
    · rw [List.getElem?_range hl]
      simp only [Option.map_some]
      rw [h4 _ (by omega) (by omega)]
    · rw [List.getElem?_eq_none (by simp; omega)]
      rfl
theorem cls_push {G : GG} {h h' : Hp} (h1 : 0 ≤ h 0 0) (h3 : h' 0 0 = h 0 0 + 1) (h4 : ∀ b, 1 ≤ b → b ≤ h 0 0 → h' b = h b) : cls G h' = cls G h ++ [(adr G (h 0 0 + 1), enc G (h' (h 0 0 + 1)))] := by
  unfold cls
  rw [h3, show (h 0 0 + 1).toNat = (h 0 0).toNat + 1 by omega, List.range_succ, List.map_append]
  congr 1
  · apply List.map_congr_left
    intro i hi
    rw [List.mem_range] at hi
    rw [h4 _ (by omega) (by omega)]
  · rw [adr_pos (by omega)]
    simp only [List.map_cons, List.map_nil]
    rw [show (h 0 0 + 1 - 1).toNat = (h 0 0).toNat by omega, show (((h 0 0).toNat : Nat) : Int) = h 0 0 by omega]
theorem cls_D {G : GG} {h : Hp} : va_D (gA G) (cls G h) := by
  have key : ∀ (k : Nat) (q : Nat × va_E), (cls G h)[k]? = some q → q.1 = gB G + (k + 1) := by
    intro k q hk
    unfold cls at hk
    rw [List.getElem?_map] at hk
    by_cases hl : k < (h 0 0).toNat
    · rw [List.getElem?_range hl] at hk
      cases hk
      rfl
    · rw [List.getElem?_eq_none (by simp; omega)] at hk
      cases hk
  refine ⟨fun i j p q hi hj he => ?_, fun k q hk => ?_⟩
  · rw [key i p hi, key j q hj] at he
    omega
  · show gB G < q.1
    rw [key k q hk]
    omega
/-- the memory is sound: what is there lies below its top, and holds numbers that fit -/
def okH (h : Hp) : Prop := 0 ≤ h 0 0 ∧ (∀ a : Int, h a (-1) ≠ 0 → 1 ≤ a ∧ a ≤ h 0 0) ∧ (∀ a k : Int, 1 ≤ a → a ≤ h 0 0 → 0 ≤ k → inI (h a k)) ∧ (∀ a : Int, 1 ≤ a → a ≤ h 0 0 → 0 ≤ h a (-2) ∧ h a (-2) < 2147483648)
def Rel (G : GG) (h : Hp) (H : Heap) : Prop := va_P G.2.1 vwCl (cls G h) H ∧ H.size = gB G + (h 0 0).toNat + 1 ∧ okH h
/-- the good words, for every method -/
def gw : List Cond := lw_tbl.filter goodWord
abbrev tysOf (G : GG) : List (ClassId × FieldType) := [(gY G 20, .int), (gY G 21, .boolean), (gY G 22, .char), (gY G 31, .object RX1), (gY G 32, .object RX2), (gY G 33, .object RX3), (gY G 35, .object RX5), (gY G 38, .object RX8)]
def txL : List Nat := [3, 3, 4, 5, 3, 4]
def txB : List (List Int32) := [[97, 108, 108], [107, 101, 121], [99, 101, 108, 108], [100, 101, 108, 97, 121], [97, 105, 109], [106, 111, 105, 110]]
def txR : List (Nat × String) := [(64, "all"), (70, "key"), (72, "cell"), (74, "delay"), (76, "aim"), (78, "join")]
def aoL : List String := [RX1, RX2, RX3, RX5, RX8]
def nestW : List Cond := lw_tbl.filter (fun w => match w with | .methodLinkNest .. => true | _ => false)
/-- what stays of a state, whatever the methods do: the classes, the links among nest mates, the texts, the script -/
def KX (G : GG) (s : State) : Prop := va_K G.2.1 vwCl (tysOf G) s ∧ (∀ w ∈ nestW, va_Nw w s) ∧ (vk_S 6 txL txB (fun i => gN G (-2 - (i : Int))) (fun i => gN G (-10 - (i : Int))) (gA G) s s.heap ∧ (∀ i : Nat, ∀ q : Nat × String, txR[i]? = some q → vk_R RX6 q.1 q.2 (gN G (-2 - (i : Int))) s) ∧ va_Z "java/lang/String" "COMPACT_STRINGS" "Z" (.int 1) (gA G) s s.heap ∧ va_Zq "jdk/internal/util/Preconditions" "SIOOBE_FORMATTER" "Ljava/util/function/BiFunction;" (gA G) s s.heap) ∧ (va_X (gN G (-1)) G.2.2.2.2.2.1 G.2.2.2.2.2.2 s s.heap ∧ gN G (-1) < s.heap.size ∧ ¬ gA G (gN G (-1)) ∧ ∀ C ∈ aoL, va_AO C s)
/-- a method: name, code, locals, answer, room -/
abbrev MT : Type := MethodName × ByteArray × Nat × Option FieldType × Room
abbrev mY (M : MT) : MethodName := M.1
abbrev mC (M : MT) : ByteArray := M.2.1
abbrev mL (M : MT) : Nat := M.2.2.1
abbrev mR (M : MT) : Option FieldType := M.2.2.2.1
abbrev mQ (M : MT) : Room := M.2.2.2.2
def CX (M : MT) (p : Program) (s : State) (m : MethodId) (args : Array Value) (meth : Method) (c : Code) : Prop := p.tables.exec = Jvm.exec ∧ c.code = mC M ∧ meth.sig.returnType = mR M ∧ c.maxLocals = mL M ∧ s.vm.findClass (mY M).cls = some m.cls ∧ (∀ w ∈ gw, w.before args s = true) ∧ meth.locks = false ∧ meth.name = (mY M).name
abbrev LZ : Type := List Frame → Array Value → State → State → Prop
def lvs (G : GG) (ls : List (Nat × VV)) : List (Nat × Value) := ls.map (fun q => (q.1, cv G q.2))
/-- the walk from a frame: with the budget b (cells, slots) left, in every standing the machine comes to Z -/
def AZ (G : GG) (M : MT) (b : Nat × Nat) (pc : Nat) (ls : List (Nat × VV)) (st : List VV) (h : Hp) (Z : LZ) : Prop :=
  ∀ (p : Program) (e : Env) (s : State) (m : MethodId) (args : Array Value) (below : List Frame) (meth : Method) (c : Code) (H : Heap) (locs : List Loc) (cells slots : Nat) (la : Array Slot),
    CX M p s m args meth c → KX G s → Rel G h H → (∀ q ∈ ls, okV q.2) → (∀ v ∈ st, okV v) → lv_has la (mL M) (lvs G ls) → va_S (gA G) s.heap H locs → gB G < s.heap.size → cells + b.1 ≤ (mQ M).cells → slots + b.2 ≤ (mQ M).slots →
    W p G.1 e (mQ M) s m args below meth c H locs cells slots (Z below args s) (F0 m pc la (st.map (cv G)))
/-- a method's end, as a contract has it -/
def QQ (G : GG) (Q : Option VV → Hp → Prop) : Array Value → State → Outcome → State → Prop := fun _ st oc t => (∃ (r : Option VV) (h : Hp), Q r h ∧ (∀ v ∈ r, okV v) ∧ oc = .returned (r.map (cv G)) ∧ Rel G h t.heap) ∧ va_F (gA G) st t
def ZQ (G : GG) (M : MT) (Q : Option VV → Hp → Prop) : LZ := fun below args s => MQ below (QQ G Q) args s (mQ M).cells (mQ M).slots (gA G)
abbrev AW (G : GG) (M : MT) (b : Nat × Nat) (pc : Nat) (ls : List (Nat × VV)) (st : List VV) (h : Hp) (Q : Option VV → Hp → Prop) : Prop := AZ G M b pc ls st h (ZQ G M Q)
def PP (G : GG) (as : List VV) (h : Hp) : Array Value → State → Prop := fun v U => v = (as.map (cv G)).toArray ∧ (∀ v ∈ as, okV v) ∧ Rel G h U.heap ∧ KX G U ∧ gB G < U.heap.size
def wsM (M : MT) : List Cond := .code (mY M) (mC M) (mL M) (mR M) :: gw
def Runs (G : GG) (M : MT) (as : List VV) (h : Hp) (Q : Option VV → Hp → Prop) : Prop := Met G.1 (mY M) (wsM M) (mQ M) (PP G as h) (QQ G Q) (mQ M).cells (mQ M).slots (gA G)
end
section
/-! rows of the abstract machine: an instruction each -/
theorem i_toInt {x : Int} (h : inI x) : (Int32.ofInt x).toInt = x := by
  obtain ⟨h1, h2⟩ := h
  first
    | exact Int32.toInt_ofInt_of_le (by omega) (by omega)
    | (rw [Int32.toInt_ofInt]; exact Int.bmod_eq_of_le (by simp [Int32.size]; omega) (by simp [Int32.size]; omega))
theorem i_lt {x y : Int} (hx : inI x) (hy : inI y) : Int32.ofInt x < Int32.ofInt y ↔ x < y := by
  rw [Int32.lt_iff_toInt_lt, i_toInt hx, i_toInt hy]
theorem i_le {x y : Int} (hx : inI x) (hy : inI y) : Int32.ofInt x ≤ Int32.ofInt y ↔ x ≤ y := by
  rw [Int32.le_iff_toInt_le, i_toInt hx, i_toInt hy]
theorem i_eq {x y : Int} (hx : inI x) (hy : inI y) : Int32.ofInt x = Int32.ofInt y ↔ x = y := by
  constructor
  · intro h
    rw [← i_toInt hx, ← i_toInt hy, h]
  · intro h; rw [h]
theorem inI_0 : inI 0 := ⟨by decide, by decide⟩
theorem i_clamp {x : Int} (h : inI x) : (Int32.ofInt x).toNatClampNeg = x.toNat := by
  show (Int32.ofInt x).toInt.toNat = _
  rw [i_toInt h]
theorem i_in {x : Int} {n : Nat} (h : inI x) (h0 : 0 ≤ x) (hn : x < n) : vp_in (Int32.ofInt x) n := by
  rw [vp_in_iff, i_toInt h]
  exact ⟨h0, hn⟩
def isLg (v : VV) : Bool := match v with
  | Sum.inr (Sum.inl _) => true
  | _ => false
theorem cv_cat {G : GG} (v : VV) : ((cv G v).category == 2) = isLg v := by
  rcases v with x | x | a
  · rfl
  · rfl
  · show ((va_rf (rfo G a)).category == 2) = false
    rcases va_rf_or (rfo G a) with h | ⟨q, h⟩ <;> rw [h] <;> rfl
theorem cv_cat1 {G : GG} {v : VV} (h : isLg v = false) : (cv G v).category = 1 := by
  rcases v with x | x | a
  · rfl
  · cases h
  · show (va_rf (rfo G a)).category = 1
    rcases va_rf_or (rfo G a) with h | ⟨q, h⟩ <;> rw [h] <;> rfl
def stl (ls : List (Nat × VV)) (i : Nat) (v : VV) : List (Nat × VV) := (i, v) :: ls.filter (fun q => !(q.1 == i) && !(q.1 + 1 == i && isLg q.2))
theorem lvs_stl {G : GG} (ls : List (Nat × VV)) (i : Nat) (v : VV) : (i, cv G v) :: (lvs G ls).filter (fun q => !(q.1 == i) && !(q.1 + 1 == i && q.2.category == 2)) = lvs G (stl ls i v) := by
  unfold lvs stl
  rw [List.map_cons, List.filter_map]
  congr 2
  apply List.filter_congr
  intro q _
  simp only [Function.comp_apply, cv_cat]
theorem lvs_at {G : GG} {ls : List (Nat × VV)} {j i : Nat} {v : VV} (h : ls[j]? = some (i, v)) : (lvs G ls)[j]? = some (i, cv G v) := by
  unfold lvs
  rw [List.getElem?_map, h]
  rfl
theorem ok_stl {ls : List (Nat × VV)} {i : Nat} {v : VV} (h : ∀ q ∈ ls, okV q.2) (hv : okV v) : ∀ q ∈ stl ls i v, okV q.2 := by
  intro q hq
  rcases List.mem_cons.mp hq with rfl | hq
  · exact hv
  · exact h q (List.mem_filter.mp hq).1
section AR
variable {G : GG} {M : MT} {b : Nat × Nat} {pc : Nat} {ls : List (Nat × VV)} {st : List VV} {h : Hp} {Z : LZ}
theorem aw_iconst {n : Int} (hd : decode (mC M) pc = .ok (.iconst n, 1)) (hn : inI n) (k : AZ G M b (pc + 1) ls (vI n :: st) h Z) : AZ G M b pc ls st h Z := by
  intro p e s m args below meth c H locs cells slots la C K R o1 o2 L S B c1 c2
  exact lv_iconst C.1 C.2.1 hd rfl (k p e s m args below meth c H locs cells slots la C K R o1 (List.forall_mem_cons.mpr ⟨hn, o2⟩) L S B c1 c2)
theorem aw_bipush {n : Int} (hd : decode (mC M) pc = .ok (.bipush n, 2)) (hn : inI n) (hv : (Int8.ofInt n).toInt32 = Int32.ofInt n) (k : AZ G M b (pc + 2) ls (vI n :: st) h Z) : AZ G M b pc ls st h Z := by
  intro p e s m args below meth c H locs cells slots la C K R o1 o2 L S B c1 c2
  exact lv_bipush C.1 C.2.1 hd hv (k p e s m args below meth c H locs cells slots la C K R o1 (List.forall_mem_cons.mpr ⟨hn, o2⟩) L S B c1 c2)
theorem aw_sipush {n : Int} (hd : decode (mC M) pc = .ok (.sipush n, 3)) (hn : inI n) (hv : (Int16.ofInt n).toInt32 = Int32.ofInt n) (k : AZ G M b (pc + 3) ls (vI n :: st) h Z) : AZ G M b pc ls st h Z := by
  intro p e s m args below meth c H locs cells slots la C K R o1 o2 L S B c1 c2
  exact lv_sipush C.1 C.2.1 hd hv (k p e s m args below meth c H locs cells slots la C K R o1 (List.forall_mem_cons.mpr ⟨hn, o2⟩) L S B c1 c2)
theorem aw_iload_n {k' : Fin 4} {i : Nat} {x : Int} (j : Nat) (hd : decode (mC M) pc = .ok (.iload_n k', 1)) (hi : (k' : Nat) = i) (hl : ls[j]? = some (i, vI x)) (k : AZ G M b (pc + 1) ls (vI x :: st) h Z) : AZ G M b pc ls st h Z := by
  intro p e s m args below meth c H locs cells slots la C K R o1 o2 L S B c1 c2
  exact lv_iload_n C.1 C.2.1 hd hi (lv_at L j (lvs_at hl)) (k p e s m args below meth c H locs cells slots la C K R o1 (List.forall_mem_cons.mpr ⟨o1 _ (List.mem_of_getElem? hl), o2⟩) L S B c1 c2)
theorem aw_iload {i : Nat} {x : Int} (j : Nat) (hd : decode (mC M) pc = .ok (.iload i, 2)) (hl : ls[j]? = some (i, vI x)) (k : AZ G M b (pc + 2) ls (vI x :: st) h Z) : AZ G M b pc ls st h Z := by
  intro p e s m args below meth c H locs cells slots la C K R o1 o2 L S B c1 c2
  exact lv_iload C.1 C.2.1 hd (lv_at L j (lvs_at hl)) (k p e s m args below meth c H locs cells slots la C K R o1 (List.forall_mem_cons.mpr ⟨o1 _ (List.mem_of_getElem? hl), o2⟩) L S B c1 c2)
theorem aw_lload_n {k' : Fin 4} {i : Nat} {x : Int} (j : Nat) (hd : decode (mC M) pc = .ok (.lload_n k', 1)) (hi : (k' : Nat) = i) (hl : ls[j]? = some (i, vL x)) (k : AZ G M b (pc + 1) ls (vL x :: st) h Z) : AZ G M b pc ls st h Z := by
  intro p e s m args below meth c H locs cells slots la C K R o1 o2 L S B c1 c2
  exact lv_lload_n C.1 C.2.1 hd hi (lv_at L j (lvs_at hl)) (k p e s m args below meth c H locs cells slots la C K R o1 (List.forall_mem_cons.mpr ⟨o1 _ (List.mem_of_getElem? hl), o2⟩) L S B c1 c2)
theorem aw_lload {i : Nat} {x : Int} (j : Nat) (hd : decode (mC M) pc = .ok (.lload i, 2)) (hl : ls[j]? = some (i, vL x)) (k : AZ G M b (pc + 2) ls (vL x :: st) h Z) : AZ G M b pc ls st h Z := by
  intro p e s m args below meth c H locs cells slots la C K R o1 o2 L S B c1 c2
  exact lv_lload C.1 C.2.1 hd (lv_at L j (lvs_at hl)) (k p e s m args below meth c H locs cells slots la C K R o1 (List.forall_mem_cons.mpr ⟨o1 _ (List.mem_of_getElem? hl), o2⟩) L S B c1 c2)
theorem aw_aload_n {k' : Fin 4} {i : Nat} {a : Int} (j : Nat) (hd : decode (mC M) pc = .ok (.aload_n k', 1)) (hi : (k' : Nat) = i) (hl : ls[j]? = some (i, vR a)) (k : AZ G M b (pc + 1) ls (vR a :: st) h Z) : AZ G M b pc ls st h Z := by
  intro p e s m args below meth c H locs cells slots la C K R o1 o2 L S B c1 c2
  have W1 := k p e s m args below meth c H locs cells slots la C K R o1 (List.forall_mem_cons.mpr ⟨o1 _ (List.mem_of_getElem? hl), o2⟩) L S B c1 c2
  have hq := lv_at L j (lvs_at hl)
  have e0 : cv G (vR a) = va_rf (rfo G a) := rfl
  rw [List.map_cons, e0] at W1
  rw [e0] at hq
  rcases va_rf_or (rfo G a) with hr | ⟨q, hr⟩
  · rw [hr] at W1 hq
    exact lv_aload_nN C.1 C.2.1 hd hi hq W1
  · rw [hr] at W1 hq
    exact lv_aload_n C.1 C.2.1 hd hi hq W1
theorem aw_aload {i : Nat} {a : Int} (j : Nat) (hd : decode (mC M) pc = .ok (.aload i, 2)) (hl : ls[j]? = some (i, vR a)) (k : AZ G M b (pc + 2) ls (vR a :: st) h Z) : AZ G M b pc ls st h Z := by
  intro p e s m args below meth c H locs cells slots la C K R o1 o2 L S B c1 c2
  have W1 := k p e s m args below meth c H locs cells slots la C K R o1 (List.forall_mem_cons.mpr ⟨o1 _ (List.mem_of_getElem? hl), o2⟩) L S B c1 c2
  have hq := lv_at L j (lvs_at hl)
  have e0 : cv G (vR a) = va_rf (rfo G a) := rfl
  rw [List.map_cons, e0] at W1
  rw [e0] at hq
  rcases va_rf_or (rfo G a) with hr | ⟨q, hr⟩
  · rw [hr] at W1 hq
    exact lv_aloadN C.1 C.2.1 hd hq W1
  · rw [hr] at W1 hq
    exact lv_aload C.1 C.2.1 hd hq W1
theorem aw_istore_n {k' : Fin 4} {i : Nat} {x : Int} (hd : decode (mC M) pc = .ok (.istore_n k', 1)) (hi : (k' : Nat) = i) (hn : i < mL M) (k : AZ G M b (pc + 1) (stl ls i (vI x)) st h Z) : AZ G M b pc ls (vI x :: st) h Z := by
  intro p e s m args below meth c H locs cells slots la C K R o1 o2 L S B c1 c2
  exact lv_istore_n C.1 C.2.1 hd hi L hn (lvs_stl ls i (vI x)) (fun la' L' => k p e s m args below meth c H locs cells slots la' C K R (ok_stl o1 (o2 _ List.mem_cons_self)) (fun v hv => o2 v (List.mem_cons_of_mem _ hv)) L' S B c1 c2)
theorem aw_istore {i : Nat} {x : Int} (hd : decode (mC M) pc = .ok (.istore i, 2)) (hn : i < mL M) (k : AZ G M b (pc + 2) (stl ls i (vI x)) st h Z) : AZ G M b pc ls (vI x :: st) h Z := by
  intro p e s m args below meth c H locs cells slots la C K R o1 o2 L S B c1 c2
  exact lv_istore C.1 C.2.1 hd L hn (lvs_stl ls i (vI x)) (fun la' L' => k p e s m args below meth c H locs cells slots la' C K R (ok_stl o1 (o2 _ List.mem_cons_self)) (fun v hv => o2 v (List.mem_cons_of_mem _ hv)) L' S B c1 c2)
theorem aw_astore_n {k' : Fin 4} {i : Nat} {a : Int} (hd : decode (mC M) pc = .ok (.astore_n k', 1)) (hi : (k' : Nat) = i) (hn : i < mL M) (k : AZ G M b (pc + 1) (stl ls i (vR a)) st h Z) : AZ G M b pc ls (vR a :: st) h Z := by
  intro p e s m args below meth c H locs cells slots la C K R o1 o2 L S B c1 c2
  have kk := fun la' L' => k p e s m args below meth c H locs cells slots la' C K R (ok_stl o1 (o2 _ List.mem_cons_self)) (fun v hv => o2 v (List.mem_cons_of_mem _ hv)) L' S B c1 c2
  have hs := lvs_stl (G := G) ls i (vR a)
  have e0 : cv G (vR a) = va_rf (rfo G a) := rfl
  rw [List.map_cons, e0]
  rw [e0] at hs
  rcases va_rf_or (rfo G a) with hr | ⟨q, hr⟩
  · rw [hr] at hs ⊢
    exact lv_astore_nN C.1 C.2.1 hd hi L hn hs kk
  · rw [hr] at hs ⊢
    exact lv_astore_n C.1 C.2.1 hd hi L hn hs kk
theorem aw_astore {i : Nat} {a : Int} (hd : decode (mC M) pc = .ok (.astore i, 2)) (hn : i < mL M) (k : AZ G M b (pc + 2) (stl ls i (vR a)) st h Z) : AZ G M b pc ls (vR a :: st) h Z := by
  intro p e s m args below meth c H locs cells slots la C K R o1 o2 L S B c1 c2
  have kk := fun la' L' => k p e s m args below meth c H locs cells slots la' C K R (ok_stl o1 (o2 _ List.mem_cons_self)) (fun v hv => o2 v (List.mem_cons_of_mem _ hv)) L' S B c1 c2
  have hs := lvs_stl (G := G) ls i (vR a)
  have e0 : cv G (vR a) = va_rf (rfo G a) := rfl
  rw [List.map_cons, e0]
  rw [e0] at hs
  rcases va_rf_or (rfo G a) with hr | ⟨q, hr⟩
  · rw [hr] at hs ⊢
    exact lv_astoreN C.1 C.2.1 hd L hn hs kk
  · rw [hr] at hs ⊢
    exact lv_astore C.1 C.2.1 hd L hn hs kk
theorem aw_iinc {i : Nat} {n x : Int} (j : Nat) (hd : decode (mC M) pc = .ok (.iinc i n, 3)) (hl : ls[j]? = some (i, vI x)) (hx : inI (x + n)) (hn : i < mL M) (k : AZ G M b (pc + 3) (stl ls i (vI (x + n))) st h Z) : AZ G M b pc ls st h Z := by
  intro p e s m args below meth c H locs cells slots la C K R o1 o2 L S B c1 c2
  exact lv_iinc C.1 C.2.1 hd L (lvs_at hl) (Int32.ofInt_add x n).symm hn (lvs_stl ls i (vI (x + n))) (fun la' L' => k p e s m args below meth c H locs cells slots la' C K R (ok_stl o1 hx) o2 L' S B c1 c2)
theorem aw_iadd {x y : Int} (hd : decode (mC M) pc = .ok (.iadd, 1)) (hx : inI (x + y)) (k : AZ G M b (pc + 1) ls (vI (x + y) :: st) h Z) : AZ G M b pc ls (vI y :: vI x :: st) h Z := by
  intro p e s m args below meth c H locs cells slots la C K R o1 o2 L S B c1 c2
  refine lv_iadd C.1 C.2.1 hd ?_
  rw [← Int32.ofInt_add]
  exact k p e s m args below meth c H locs cells slots la C K R o1 (List.forall_mem_cons.mpr ⟨hx, fun v hv => o2 v (List.mem_cons_of_mem _ (List.mem_cons_of_mem _ hv))⟩) L S B c1 c2
theorem aw_isub {x y : Int} (hd : decode (mC M) pc = .ok (.isub, 1)) (hx : inI (x - y)) (k : AZ G M b (pc + 1) ls (vI (x - y) :: st) h Z) : AZ G M b pc ls (vI y :: vI x :: st) h Z := by
  intro p e s m args below meth c H locs cells slots la C K R o1 o2 L S B c1 c2
  refine lv_isub C.1 C.2.1 hd ?_
  rw [← Int32.ofInt_sub]
  exact k p e s m args below meth c H locs cells slots la C K R o1 (List.forall_mem_cons.mpr ⟨hx, fun v hv => o2 v (List.mem_cons_of_mem _ (List.mem_cons_of_mem _ hv))⟩) L S B c1 c2
theorem aw_imul {x y : Int} (hd : decode (mC M) pc = .ok (.imul, 1)) (hx : inI (x * y)) (k : AZ G M b (pc + 1) ls (vI (x * y) :: st) h Z) : AZ G M b pc ls (vI y :: vI x :: st) h Z := by
  intro p e s m args below meth c H locs cells slots la C K R o1 o2 L S B c1 c2
  refine lv_imul C.1 C.2.1 hd ?_
  rw [← Int32.ofInt_mul]
  exact k p e s m args below meth c H locs cells slots la C K R o1 (List.forall_mem_cons.mpr ⟨hx, fun v hv => o2 v (List.mem_cons_of_mem _ (List.mem_cons_of_mem _ hv))⟩) L S B c1 c2
theorem aw_goto {off : Int} {tgt : Nat} (hd : decode (mC M) pc = .ok (.goto off, 3)) (ht : (pc : Int) + off = (tgt : Int)) (k : AZ G M b tgt ls st h Z) : AZ G M b pc ls st h Z := by
  intro p e s m args below meth c H locs cells slots la C K R o1 o2 L S B c1 c2
  exact lv_goto C.1 C.2.1 hd ht (k p e s m args below meth c H locs cells slots la C K R o1 o2 L S B c1 c2)
theorem aw_sub {ls' : List (Nat × VV)} (ks : List Nat) (hk : ks.filterMap (fun i => ls[i]?) = ls') (k : AZ G M b pc ls' st h Z) : AZ G M b pc ls st h Z := by
  intro p e s m args below meth c H locs cells slots la C K R o1 o2 L S B c1 c2
  have hm : ∀ q ∈ ls', q ∈ ls := by
    intro q hq
    rw [← hk] at hq
    obtain ⟨i, -, hi⟩ := List.mem_filterMap.mp hq
    exact List.mem_of_getElem? hi
  refine k p e s m args below meth c H locs cells slots la C K R (fun q hq => o1 q (hm q hq)) o2 ⟨L.1, L.2.1, fun q hq => ?_⟩ S B c1 c2
  obtain ⟨r, hr, rfl⟩ := List.mem_map.mp hq
  exact L.2.2 _ (List.mem_map.mpr ⟨r, hm r hr, rfl⟩)
/-- what is known of a frame's values may be used -/
theorem aw_use (k : (∀ q ∈ ls, okV q.2) → (∀ v ∈ st, okV v) → okH h → AZ G M b pc ls st h Z) : AZ G M b pc ls st h Z := by
  intro p e s m args below meth c H locs cells slots la C K R o1 o2 L S B c1 c2
  exact k o1 o2 R.2.2 p e s m args below meth c H locs cells slots la C K R o1 o2 L S B c1 c2
end AR
end
section
/-! rows of the abstract machine, second part: branches, longs, bits, switches -/
theorem i_tail {st : List VV} {v : VV} (h : ∀ w ∈ v :: st, okV w) : ∀ w ∈ st, okV w := fun w hw => h w (List.mem_cons_of_mem _ hw)
theorem i_tail2 {st : List VV} {v u : VV} (h : ∀ w ∈ v :: u :: st, okV w) : ∀ w ∈ st, okV w := i_tail (i_tail h)
theorem i_cons {st : List VV} {v : VV} (hv : okV v) (h : ∀ w ∈ st, okV w) : ∀ w ∈ v :: st, okV w := List.forall_mem_cons.mpr ⟨hv, h⟩
theorem i_head {st : List VV} {v : VV} (h : ∀ w ∈ v :: st, okV w) : okV v := h v List.mem_cons_self
theorem i_of32 (x : Int32) : Int32.ofInt x.toInt = x := by simp
theorem i_inI (x : Int32) : inI x.toInt := by
  have h1 := Int32.le_toInt x
  have h2 := Int32.toInt_lt x
  exact ⟨by omega, by omega⟩
def iAnd (x y : Int) : Int := (Int32.ofInt x &&& Int32.ofInt y).toInt
def iXor (x y : Int) : Int := (Int32.ofInt x ^^^ Int32.ofInt y).toInt
theorem i_nI {x : Int} (h : 0 ≤ x) : Int32.ofInt x = nI x.toNat := by
  show Int32.ofInt x = Int32.ofInt (x.toNat : Int)
  rw [Int.toNat_of_nonneg h]
theorem i_div {x y : Int} (hx : inI x) (hy : inI y) (h0 : 0 ≤ x) (h1 : 0 < y) : Int32.ofInt x / Int32.ofInt y = Int32.ofInt (x / y) := by
  obtain ⟨a1, a2⟩ := hx
  obtain ⟨b1, b2⟩ := hy
  rw [i_nI h0, i_nI (Int.le_of_lt h1), pk_div (by omega) (by omega) (by omega), i_nI (Int.ediv_nonneg h0 (Int.le_of_lt h1))]
  congr 1
  have : (((x.toNat / y.toNat : Nat)) : Int) = ((x / y).toNat : Int) := by
    rw [Int.toNat_of_nonneg (Int.ediv_nonneg h0 (Int.le_of_lt h1)), Int.natCast_ediv, Int.toNat_of_nonneg h0, Int.toNat_of_nonneg (Int.le_of_lt h1)]
  omega
theorem i_rem {x y : Int} (hx : inI x) (hy : inI y) (h0 : 0 ≤ x) (h1 : 0 < y) : Int32.ofInt x - Int32.ofInt x / Int32.ofInt y * Int32.ofInt y = Int32.ofInt (x % y) := by
  rw [i_div hx hy h0 h1, ← Int32.ofInt_mul, ← Int32.ofInt_sub]
  congr 1
  rw [Int.emod_def, Int.mul_comm y]
section AR2
variable {G : GG} {M : MT} {b : Nat × Nat} {pc : Nat} {ls : List (Nat × VV)} {st : List VV} {h : Hp} {Z : LZ}
theorem aw_if_eq {x off : Int} {tgt : Nat} (hd : decode (mC M) pc = .ok (.ifCond .eq off, 3)) (ht : (pc : Int) + off = (tgt : Int)) (kt : x = 0 → AZ G M b tgt ls st h Z) (kf : ¬ (x = 0) → AZ G M b (pc + 3) ls st h Z) : AZ G M b pc ls (vI x :: st) h Z := by
  intro p e s m args below meth c H locs cells slots la C K R o1 o2 L S B c1 c2
  have hx : inI x := i_head o2
  have hp := i_eq hx inI_0
  refine lv_if_eq C.1 C.2.1 hd ht (fun q => kt (hp.mp q) p e s m args below meth c H locs cells slots la C K R o1 (i_tail o2) L S B c1 c2) (fun q => kf (fun z => q (hp.mpr z)) p e s m args below meth c H locs cells slots la C K R o1 (i_tail o2) L S B c1 c2)
theorem aw_icmp_eq {x y off : Int} {tgt : Nat} (hd : decode (mC M) pc = .ok (.if_icmp .eq off, 3)) (ht : (pc : Int) + off = (tgt : Int)) (kt : x = y → AZ G M b tgt ls st h Z) (kf : ¬ (x = y) → AZ G M b (pc + 3) ls st h Z) : AZ G M b pc ls (vI y :: vI x :: st) h Z := by
  intro p e s m args below meth c H locs cells slots la C K R o1 o2 L S B c1 c2
  have hx : inI x := i_head (i_tail o2)
  have hy : inI y := i_head o2
  have hp := i_eq hx hy
  refine lv_icmp_eq C.1 C.2.1 hd ht (fun q => kt (hp.mp q) p e s m args below meth c H locs cells slots la C K R o1 (i_tail2 o2) L S B c1 c2) (fun q => kf (fun z => q (hp.mpr z)) p e s m args below meth c H locs cells slots la C K R o1 (i_tail2 o2) L S B c1 c2)
theorem aw_if_ge {x off : Int} {tgt : Nat} (hd : decode (mC M) pc = .ok (.ifCond .ge off, 3)) (ht : (pc : Int) + off = (tgt : Int)) (kt : 0 ≤ x → AZ G M b tgt ls st h Z) (kf : ¬ (0 ≤ x) → AZ G M b (pc + 3) ls st h Z) : AZ G M b pc ls (vI x :: st) h Z := by
  intro p e s m args below meth c H locs cells slots la C K R o1 o2 L S B c1 c2
  have hx : inI x := i_head o2
  have hp := i_le inI_0 hx
  refine lv_if_ge C.1 C.2.1 hd ht (fun q => kt (hp.mp q) p e s m args below meth c H locs cells slots la C K R o1 (i_tail o2) L S B c1 c2) (fun q => kf (fun z => q (hp.mpr z)) p e s m args below meth c H locs cells slots la C K R o1 (i_tail o2) L S B c1 c2)
theorem aw_icmp_ge {x y off : Int} {tgt : Nat} (hd : decode (mC M) pc = .ok (.if_icmp .ge off, 3)) (ht : (pc : Int) + off = (tgt : Int)) (kt : y ≤ x → AZ G M b tgt ls st h Z) (kf : ¬ (y ≤ x) → AZ G M b (pc + 3) ls st h Z) : AZ G M b pc ls (vI y :: vI x :: st) h Z := by
  intro p e s m args below meth c H locs cells slots la C K R o1 o2 L S B c1 c2
  have hx : inI x := i_head (i_tail o2)
  have hy : inI y := i_head o2
  have hp := i_le hy hx
  refine lv_icmp_ge C.1 C.2.1 hd ht (fun q => kt (hp.mp q) p e s m args below meth c H locs cells slots la C K R o1 (i_tail2 o2) L S B c1 c2) (fun q => kf (fun z => q (hp.mpr z)) p e s m args below meth c H locs cells slots la C K R o1 (i_tail2 o2) L S B c1 c2)
theorem aw_if_gt {x off : Int} {tgt : Nat} (hd : decode (mC M) pc = .ok (.ifCond .gt off, 3)) (ht : (pc : Int) + off = (tgt : Int)) (kt : 0 < x → AZ G M b tgt ls st h Z) (kf : ¬ (0 < x) → AZ G M b (pc + 3) ls st h Z) : AZ G M b pc ls (vI x :: st) h Z := by
  intro p e s m args below meth c H locs cells slots la C K R o1 o2 L S B c1 c2
  have hx : inI x := i_head o2
  have hp := i_lt inI_0 hx
  refine lv_if_gt C.1 C.2.1 hd ht (fun q => kt (hp.mp q) p e s m args below meth c H locs cells slots la C K R o1 (i_tail o2) L S B c1 c2) (fun q => kf (fun z => q (hp.mpr z)) p e s m args below meth c H locs cells slots la C K R o1 (i_tail o2) L S B c1 c2)
theorem aw_icmp_gt {x y off : Int} {tgt : Nat} (hd : decode (mC M) pc = .ok (.if_icmp .gt off, 3)) (ht : (pc : Int) + off = (tgt : Int)) (kt : y < x → AZ G M b tgt ls st h Z) (kf : ¬ (y < x) → AZ G M b (pc + 3) ls st h Z) : AZ G M b pc ls (vI y :: vI x :: st) h Z := by
  intro p e s m args below meth c H locs cells slots la C K R o1 o2 L S B c1 c2
  have hx : inI x := i_head (i_tail o2)
  have hy : inI y := i_head o2
  have hp := i_lt hy hx
  refine lv_icmp_gt C.1 C.2.1 hd ht (fun q => kt (hp.mp q) p e s m args below meth c H locs cells slots la C K R o1 (i_tail2 o2) L S B c1 c2) (fun q => kf (fun z => q (hp.mpr z)) p e s m args below meth c H locs cells slots la C K R o1 (i_tail2 o2) L S B c1 c2)
theorem aw_if_le {x off : Int} {tgt : Nat} (hd : decode (mC M) pc = .ok (.ifCond .le off, 3)) (ht : (pc : Int) + off = (tgt : Int)) (kt : x ≤ 0 → AZ G M b tgt ls st h Z) (kf : ¬ (x ≤ 0) → AZ G M b (pc + 3) ls st h Z) : AZ G M b pc ls (vI x :: st) h Z := by
  intro p e s m args below meth c H locs cells slots la C K R o1 o2 L S B c1 c2
  have hx : inI x := i_head o2
  have hp := i_le hx inI_0
  refine lv_if_le C.1 C.2.1 hd ht (fun q => kt (hp.mp q) p e s m args below meth c H locs cells slots la C K R o1 (i_tail o2) L S B c1 c2) (fun q => kf (fun z => q (hp.mpr z)) p e s m args below meth c H locs cells slots la C K R o1 (i_tail o2) L S B c1 c2)
theorem aw_icmp_le {x y off : Int} {tgt : Nat} (hd : decode (mC M) pc = .ok (.if_icmp .le off, 3)) (ht : (pc : Int) + off = (tgt : Int)) (kt : x ≤ y → AZ G M b tgt ls st h Z) (kf : ¬ (x ≤ y) → AZ G M b (pc + 3) ls st h Z) : AZ G M b pc ls (vI y :: vI x :: st) h Z := by
  intro p e s m args below meth c H locs cells slots la C K R o1 o2 L S B c1 c2
  have hx : inI x := i_head (i_tail o2)
  have hy : inI y := i_head o2
  have hp := i_le hx hy
  refine lv_icmp_le C.1 C.2.1 hd ht (fun q => kt (hp.mp q) p e s m args below meth c H locs cells slots la C K R o1 (i_tail2 o2) L S B c1 c2) (fun q => kf (fun z => q (hp.mpr z)) p e s m args below meth c H locs cells slots la C K R o1 (i_tail2 o2) L S B c1 c2)
theorem aw_if_lt {x off : Int} {tgt : Nat} (hd : decode (mC M) pc = .ok (.ifCond .lt off, 3)) (ht : (pc : Int) + off = (tgt : Int)) (kt : x < 0 → AZ G M b tgt ls st h Z) (kf : ¬ (x < 0) → AZ G M b (pc + 3) ls st h Z) : AZ G M b pc ls (vI x :: st) h Z := by
  intro p e s m args below meth c H locs cells slots la C K R o1 o2 L S B c1 c2
  have hx : inI x := i_head o2
  have hp := i_lt hx inI_0
  refine lv_if_lt C.1 C.2.1 hd ht (fun q => kt (hp.mp q) p e s m args below meth c H locs cells slots la C K R o1 (i_tail o2) L S B c1 c2) (fun q => kf (fun z => q (hp.mpr z)) p e s m args below meth c H locs cells slots la C K R o1 (i_tail o2) L S B c1 c2)
theorem aw_icmp_lt {x y off : Int} {tgt : Nat} (hd : decode (mC M) pc = .ok (.if_icmp .lt off, 3)) (ht : (pc : Int) + off = (tgt : Int)) (kt : x < y → AZ G M b tgt ls st h Z) (kf : ¬ (x < y) → AZ G M b (pc + 3) ls st h Z) : AZ G M b pc ls (vI y :: vI x :: st) h Z := by
  intro p e s m args below meth c H locs cells slots la C K R o1 o2 L S B c1 c2
  have hx : inI x := i_head (i_tail o2)
  have hy : inI y := i_head o2
  have hp := i_lt hx hy
  refine lv_icmp_lt C.1 C.2.1 hd ht (fun q => kt (hp.mp q) p e s m args below meth c H locs cells slots la C K R o1 (i_tail2 o2) L S B c1 c2) (fun q => kf (fun z => q (hp.mpr z)) p e s m args below meth c H locs cells slots la C K R o1 (i_tail2 o2) L S B c1 c2)
theorem aw_if_ne {x off : Int} {tgt : Nat} (hd : decode (mC M) pc = .ok (.ifCond .ne off, 3)) (ht : (pc : Int) + off = (tgt : Int)) (kt : ¬ x = 0 → AZ G M b tgt ls st h Z) (kf : x = 0 → AZ G M b (pc + 3) ls st h Z) : AZ G M b pc ls (vI x :: st) h Z := by
  intro p e s m args below meth c H locs cells slots la C K R o1 o2 L S B c1 c2
  have hx : inI x := i_head o2
  have hp := i_eq hx inI_0
  refine lv_if_ne C.1 C.2.1 hd ht (fun q => kt (fun z => q (hp.mpr z)) p e s m args below meth c H locs cells slots la C K R o1 (i_tail o2) L S B c1 c2) (fun q => kf (hp.mp q) p e s m args below meth c H locs cells slots la C K R o1 (i_tail o2) L S B c1 c2)
theorem aw_icmp_ne {x y off : Int} {tgt : Nat} (hd : decode (mC M) pc = .ok (.if_icmp .ne off, 3)) (ht : (pc : Int) + off = (tgt : Int)) (kt : ¬ x = y → AZ G M b tgt ls st h Z) (kf : x = y → AZ G M b (pc + 3) ls st h Z) : AZ G M b pc ls (vI y :: vI x :: st) h Z := by
  intro p e s m args below meth c H locs cells slots la C K R o1 o2 L S B c1 c2
  have hx : inI x := i_head (i_tail o2)
  have hy : inI y := i_head o2
  have hp := i_eq hx hy
  refine lv_icmp_ne C.1 C.2.1 hd ht (fun q => kt (fun z => q (hp.mpr z)) p e s m args below meth c H locs cells slots la C K R o1 (i_tail2 o2) L S B c1 c2) (fun q => kf (hp.mp q) p e s m args below meth c H locs cells slots la C K R o1 (i_tail2 o2) L S B c1 c2)
theorem aw_idiv {x y : Int} (hd : decode (mC M) pc = .ok (.idiv, 1)) (h0 : 0 ≤ x) (h1 : 0 < y) (k : AZ G M b (pc + 1) ls (vI (x / y) :: st) h Z) : AZ G M b pc ls (vI y :: vI x :: st) h Z := by
  intro p e s m args below meth c H locs cells slots la C K R o1 o2 L S B c1 c2
  have hx : inI x := i_head (i_tail o2)
  have hy : inI y := i_head o2
  have hr : inI (x / y) := by
    have q1 := Int.ediv_nonneg h0 (Int.le_of_lt h1)
    have q2 := Int.ediv_le_self y h0
    obtain ⟨z1, z2⟩ := hx
    exact ⟨by omega, by omega⟩
  refine lv_idiv C.1 C.2.1 hd (fun q => by
    have := (i_eq hy inI_0).mp q
    omega) ?_
  rw [i_div hx hy h0 h1]
  exact k p e s m args below meth c H locs cells slots la C K R o1 (i_cons hr (i_tail2 o2)) L S B c1 c2
theorem aw_irem {x y : Int} (hd : decode (mC M) pc = .ok (.irem, 1)) (h0 : 0 ≤ x) (h1 : 0 < y) (k : AZ G M b (pc + 1) ls (vI (x % y) :: st) h Z) : AZ G M b pc ls (vI y :: vI x :: st) h Z := by
  intro p e s m args below meth c H locs cells slots la C K R o1 o2 L S B c1 c2
  have hx : inI x := i_head (i_tail o2)
  have hy : inI y := i_head o2
  have hr : inI (x % y) := by
    have q1 := Int.emod_nonneg x (show y ≠ 0 by omega)
    have q2 := Int.emod_lt_of_pos x h1
    obtain ⟨z1, z2⟩ := hy
    exact ⟨by omega, by omega⟩
  refine lv_irem C.1 C.2.1 hd (fun q => by
    have := (i_eq hy inI_0).mp q
    omega) ?_
  rw [i_rem hx hy h0 h1]
  exact k p e s m args below meth c H locs cells slots la C K R o1 (i_cons hr (i_tail2 o2)) L S B c1 c2
theorem aw_iand {x y : Int} (hd : decode (mC M) pc = .ok (.iand, 1)) (k : AZ G M b (pc + 1) ls (vI (iAnd x y) :: st) h Z) : AZ G M b pc ls (vI y :: vI x :: st) h Z := by
  intro p e s m args below meth c H locs cells slots la C K R o1 o2 L S B c1 c2
  refine lv_iand C.1 C.2.1 hd ?_
  rw [← i_of32 (Int32.ofInt x &&& Int32.ofInt y)]
  exact k p e s m args below meth c H locs cells slots la C K R o1 (i_cons (i_inI _) (i_tail2 o2)) L S B c1 c2
theorem aw_ixor {x y : Int} (hd : decode (mC M) pc = .ok (.ixor, 1)) (k : AZ G M b (pc + 1) ls (vI (iXor x y) :: st) h Z) : AZ G M b pc ls (vI y :: vI x :: st) h Z := by
  intro p e s m args below meth c H locs cells slots la C K R o1 o2 L S B c1 c2
  refine lv_ixor C.1 C.2.1 hd ?_
  rw [← i_of32 (Int32.ofInt x ^^^ Int32.ofInt y)]
  exact k p e s m args below meth c H locs cells slots la C K R o1 (i_cons (i_inI _) (i_tail2 o2)) L S B c1 c2
theorem aw_dup {v : VV} (hd : decode (mC M) pc = .ok (.dup, 1)) (hv : isLg v = false) (k : AZ G M b (pc + 1) ls (v :: v :: st) h Z) : AZ G M b pc ls (v :: st) h Z := by
  intro p e s m args below meth c H locs cells slots la C K R o1 o2 L S B c1 c2
  exact lv_dup C.1 C.2.1 hd (cv_cat1 hv) (k p e s m args below meth c H locs cells slots la C K R o1 (i_cons (i_head o2) o2) L S B c1 c2)
theorem aw_dup2 {v u : VV} (hd : decode (mC M) pc = .ok (.dup2, 1)) (hv : isLg v = false) (hu : isLg u = false) (k : AZ G M b (pc + 1) ls (v :: u :: v :: u :: st) h Z) : AZ G M b pc ls (v :: u :: st) h Z := by
  intro p e s m args below meth c H locs cells slots la C K R o1 o2 L S B c1 c2
  exact lv_dup2_11 C.1 C.2.1 hd (cv_cat1 hv) (cv_cat1 hu) (k p e s m args below meth c H locs cells slots la C K R o1 (i_cons (i_head o2) (i_cons (i_head (i_tail o2)) o2)) L S B c1 c2)
theorem aw_pop {v : VV} (hd : decode (mC M) pc = .ok (.pop, 1)) (hv : isLg v = false) (k : AZ G M b (pc + 1) ls st h Z) : AZ G M b pc ls (v :: st) h Z := by
  intro p e s m args below meth c H locs cells slots la C K R o1 o2 L S B c1 c2
  exact lv_pop C.1 C.2.1 hd (cv_cat1 hv) (k p e s m args below meth c H locs cells slots la C K R o1 (i_tail o2) L S B c1 c2)
theorem l_of32 {x : Int} (hx : inI x) : (Int32.ofInt x).toInt64 = Int64.ofInt x := by
  apply Int64.toInt_inj.mp
  rw [Int32.toInt_toInt64, i_toInt hx]
  obtain ⟨h1, h2⟩ := hx
  exact (Int64.toInt_ofInt_of_le (by omega) (by omega)).symm
theorem l_toInt {x : Int} (hx : inL x) : (Int64.ofInt x).toInt = x := by
  obtain ⟨h1, h2⟩ := hx
  exact Int64.toInt_ofInt_of_le (by omega) (by omega)
theorem l_lt {x y : Int} (hx : inL x) (hy : inL y) : Int64.ofInt x < Int64.ofInt y ↔ x < y := by
  rw [Int64.lt_iff_toInt_lt, l_toInt hx, l_toInt hy]
theorem l_eq {x y : Int} (hx : inL x) (hy : inL y) : Int64.ofInt x = Int64.ofInt y ↔ x = y := by
  constructor
  · intro h
    rw [← l_toInt hx, ← l_toInt hy, h]
  · intro h; rw [h]
theorem aw_i2l {x : Int} (hd : decode (mC M) pc = .ok (.i2l, 1)) (k : AZ G M b (pc + 1) ls (vL x :: st) h Z) : AZ G M b pc ls (vI x :: st) h Z := by
  intro p e s m args below meth c H locs cells slots la C K R o1 o2 L S B c1 c2
  have hx : inI x := i_head o2
  have hl : inL x := ⟨by have := hx.1; omega, by have := hx.2; omega⟩
  exact lv_i2l C.1 C.2.1 hd (l_of32 hx) (k p e s m args below meth c H locs cells slots la C K R o1 (i_cons hl (i_tail o2)) L S B c1 c2)
theorem aw_lconst {n : Fin 2} {x : Int} (hd : decode (mC M) pc = .ok (.lconst n, 1)) (hx : inL x) (hv : Int64.ofNat (n : Nat) = Int64.ofInt x) (k : AZ G M b (pc + 1) ls (vL x :: st) h Z) : AZ G M b pc ls st h Z := by
  intro p e s m args below meth c H locs cells slots la C K R o1 o2 L S B c1 c2
  exact lv_lconst C.1 C.2.1 hd hv (k p e s m args below meth c H locs cells slots la C K R o1 (i_cons hx o2) L S B c1 c2)
theorem aw_ldc2 {idx : Nat} {x : Int} (hd : decode (mC M) pc = .ok (.ldc2_w idx, 3)) (hx : inL x) (hc : Cond.constantLong (mY M).cls idx (Int64.ofInt x) ∈ gw) (k : AZ G M b (pc + 3) ls (vL x :: st) h Z) : AZ G M b pc ls st h Z := by
  intro p e s m args below meth c H locs cells slots la C K R o1 o2 L S B c1 c2
  exact lv_ldc2 C.1 C.2.1 C.2.2.2.2.1 (C.2.2.2.2.2.1 _ hc) hd (k p e s m args below meth c H locs cells slots la C K R o1 (i_cons hx o2) L S B c1 c2)
def iCmp (x y : Int) : Int := if x < y then -1 else if x = y then 0 else 1
theorem aw_lcmp {x y : Int} (hd : decode (mC M) pc = .ok (.lcmp, 1)) (k : AZ G M b (pc + 1) ls (vI (iCmp x y) :: st) h Z) : AZ G M b pc ls (vL y :: vL x :: st) h Z := by
  intro p e s m args below meth c H locs cells slots la C K R o1 o2 L S B c1 c2
  have hx : inL x := i_head (i_tail o2)
  have hy : inL y := i_head o2
  have hr : inI (iCmp x y) := by
    unfold iCmp
    split
    · exact ⟨by decide, by decide⟩
    · split
      · exact ⟨by decide, by decide⟩
      · exact ⟨by decide, by decide⟩
  have hv : lg_cmp (Int64.ofInt x) (Int64.ofInt y) = Int32.ofInt (iCmp x y) := by
    unfold lg_cmp iCmp
    rcases Int.lt_trichotomy x y with q | q | q
    · simp [l_lt hx hy, l_eq hx hy, l_lt hy hx, q, Int.lt_irrefl, Int.not_lt.mpr (Int.le_of_lt q), show ¬ x = y by omega]
    · subst q
      simp
    · simp [l_lt hx hy, l_eq hx hy, l_lt hy hx, q, Int.not_lt.mpr (Int.le_of_lt q), show ¬ x = y by omega]
  refine W.lcmp C.1 C.2.1 hd ?_
  rw [hv]
  exact k p e s m args below meth c H locs cells slots la C K R o1 (i_cons hr (i_tail2 o2)) L S B c1 c2
theorem aw_i2c {x : Int} (hd : decode (mC M) pc = .ok (.i2c, 1)) (h0 : 0 ≤ x) (h1 : x < 65536) (k : AZ G M b (pc + 1) ls (vI x :: st) h Z) : AZ G M b pc ls (vI x :: st) h Z := by
  intro p e s m args below meth c H locs cells slots la C K R o1 o2 L S B c1 c2
  have hx : inI x := i_head o2
  refine lv_i2c C.1 C.2.1 hd (v := Int32.ofInt x) ?_ (k p e s m args below meth c H locs cells slots la C K R o1 o2 L S B c1 c2)
  rw [pk_char, i_nI h0, pk_tn (by omega), Nat.mod_eq_of_lt (by omega)]
theorem aw_null (hd : decode (mC M) pc = .ok (.aconst_null, 1)) (k : AZ G M b (pc + 1) ls (vR 0 :: st) h Z) : AZ G M b pc ls st h Z := by
  intro p e s m args below meth c H locs cells slots la C K R o1 o2 L S B c1 c2
  exact lv_null C.1 C.2.1 hd (k p e s m args below meth c H locs cells slots la C K R o1 (i_cons inI_0 o2) L S B c1 c2)
theorem aw_ifnull {a off : Int} {tgt : Nat} (hd : decode (mC M) pc = .ok (.ifnull off, 3)) (ht : (pc : Int) + off = (tgt : Int)) (kt : a = 0 → AZ G M b tgt ls st h Z) (kf : ¬ a = 0 → AZ G M b (pc + 3) ls st h Z) : AZ G M b pc ls (vR a :: st) h Z := by
  intro p e s m args below meth c H locs cells slots la C K R o1 o2 L S B c1 c2
  by_cases ha : a = 0
  · have W1 := kt ha p e s m args below meth c H locs cells slots la C K R o1 (i_tail o2) L S B c1 c2
    subst ha
    exact lv_ifnullN C.1 C.2.1 hd ht W1
  · have W1 := kf ha p e s m args below meth c H locs cells slots la C K R o1 (i_tail o2) L S B c1 c2
    have e0 : cv G (vR a) = .ref (adr G a) := by simp [cv, rfo, ha, va_rf]
    rw [List.map_cons, e0]
    exact lv_ifnull C.1 C.2.1 hd W1
theorem aw_ifnonnull {a off : Int} {tgt : Nat} (hd : decode (mC M) pc = .ok (.ifnonnull off, 3)) (ht : (pc : Int) + off = (tgt : Int)) (kt : ¬ a = 0 → AZ G M b tgt ls st h Z) (kf : a = 0 → AZ G M b (pc + 3) ls st h Z) : AZ G M b pc ls (vR a :: st) h Z := by
  intro p e s m args below meth c H locs cells slots la C K R o1 o2 L S B c1 c2
  by_cases ha : a = 0
  · have W1 := kf ha p e s m args below meth c H locs cells slots la C K R o1 (i_tail o2) L S B c1 c2
    subst ha
    exact lv_ifnonnullN C.1 C.2.1 hd W1
  · have W1 := kt ha p e s m args below meth c H locs cells slots la C K R o1 (i_tail o2) L S B c1 c2
    have e0 : cv G (vR a) = .ref (adr G a) := by simp [cv, rfo, ha, va_rf]
    rw [List.map_cons, e0]
    exact lv_ifnonnull C.1 C.2.1 hd ht W1
theorem aw_tableIn {dflt lo hi : Int} {offs : Array Int} {len : Nat} {x off : Int} {tgt : Nat} (hd : decode (mC M) pc = .ok (.tableswitch dflt lo hi offs, len)) (h1 : lo ≤ x) (h2 : x ≤ hi) (ho : offs[(x - lo).toNat]? = some off) (ht : (pc : Int) + off = (tgt : Int)) (k : AZ G M b tgt ls st h Z) : AZ G M b pc ls (vI x :: st) h Z := by
  intro p e s m args below meth c H locs cells slots la C K R o1 o2 L S B c1 c2
  have hx : inI x := i_head o2
  exact lv_tableIn C.1 C.2.1 hd (by rw [i_toInt hx]; omega) (by rw [i_toInt hx]; omega) (by rw [i_toInt hx]; exact ho) ht (k p e s m args below meth c H locs cells slots la C K R o1 (i_tail o2) L S B c1 c2)
theorem aw_tableOut {dflt lo hi : Int} {offs : Array Int} {len : Nat} {x : Int} {tgt : Nat} (hd : decode (mC M) pc = .ok (.tableswitch dflt lo hi offs, len)) (h1 : x < lo ∨ hi < x) (ht : (pc : Int) + dflt = (tgt : Int)) (k : AZ G M b tgt ls st h Z) : AZ G M b pc ls (vI x :: st) h Z := by
  intro p e s m args below meth c H locs cells slots la C K R o1 o2 L S B c1 c2
  have hx : inI x := i_head o2
  exact lv_tableOut C.1 C.2.1 hd (by rw [i_toInt hx]; exact h1) ht (k p e s m args below meth c H locs cells slots la C K R o1 (i_tail o2) L S B c1 c2)
theorem aw_lookup {dflt : Int} {ps : Array (Int × Int)} {len : Nat} {x off : Int} {tgt : Nat} (hd : decode (mC M) pc = .ok (.lookupswitch dflt ps, len)) (hp : (ps.toList.zip (ps.toList.drop 1)).all (fun (a, next) => a.1 < next.1) = true) (ho : Op.lookupswitch.offset ps.toList dflt x = off) (ht : (pc : Int) + off = (tgt : Int)) (k : AZ G M b tgt ls st h Z) : AZ G M b pc ls (vI x :: st) h Z := by
  intro p e s m args below meth c H locs cells slots la C K R o1 o2 L S B c1 c2
  have hx : inI x := i_head o2
  exact lv_lookup C.1 C.2.1 hd hp (by rw [i_toInt hx]; exact ho) ht (k p e s m args below meth c H locs cells slots la C K R o1 (i_tail o2) L S B c1 c2)
end AR2
end
section
/-! rows of the abstract machine, third part: fields, arrays, new cells -/
def tyOf (c : Nat) : Nat → FieldType := match c with
  | 0 => tyX0
  | 1 => tyX1
  | 2 => tyX2
  | 3 => tyX3
  | 4 => tyX4
  | 5 => tyX5
  | 6 => tyX6
  | 7 => tyX7
  | 8 => tyX8
  | 9 => tyX9
  | _ => tyX10
/-- what the tables say of a class of ours -/
def clOk (ci : Nat) (q : vw_C) : Prop := (∀ w ∈ u_ws q.1 q.2.1 q.2.2, w ∈ gw) ∧ (∀ k, k < q.2.2 → parseFieldDescriptor (q.2.1 k).2.2.1 = some (tyOf ci k)) ∧ (∀ a, a < q.2.2 → ∀ b, b < q.2.2 → a ≠ b → (q.2.1 a).2.1 ≠ (q.2.1 b).2.1) ∧ q.2.2 = nF ci ∧ Cond.instantiable q.1 q.2.2 ∈ gw ∧ Cond.initialized q.1 ∈ gw ∧ (∀ k, k < q.2.2 → fR ci k = false → tyOf ci k = .int ∨ tyOf ci k = .boolean) ∧ (∀ k, k < q.2.2 → fR ci k = true → (∃ n, tyOf ci k = .object n) ∨ ∃ t, tyOf ci k = .array t) ∧ ∀ k, k < q.2.2 → (q.2.1 k).1 = q.1
def isRT (t : FieldType) : Bool := match t with
  | .object _ => true
  | .array _ => true
  | _ => false
theorem isRT_of {t : FieldType} (h : isRT t = true) : (∃ n, t = .object n) ∨ ∃ u, t = .array u := by
  cases t <;> first | exact Or.inl ⟨_, rfl⟩ | exact Or.inr ⟨_, rfl⟩ | cases h
def clDec (ci : Nat) (q : vw_C) : Bool := ((u_ws q.1 q.2.1 q.2.2).all (fun w => decide (w ∈ lw_tbl) && goodWord w)) && decide (q.2.2 = nF ci) && (decide (Cond.instantiable q.1 q.2.2 ∈ lw_tbl) && goodWord (Cond.instantiable q.1 q.2.2)) && (decide (Cond.initialized q.1 ∈ lw_tbl) && goodWord (Cond.initialized q.1)) && (List.range q.2.2).all (fun k => (if fR ci k then isRT (tyOf ci k) else (decide (tyOf ci k = .int) || decide (tyOf ci k = .boolean))) && decide ((q.2.1 k).1 = q.1))
theorem gw_of {w : Cond} (h : (decide (w ∈ lw_tbl) && goodWord w) = true) : w ∈ gw := by
  rw [Bool.and_eq_true, decide_eq_true_eq] at h
  exact List.mem_filter.mpr h
theorem clOk_of {ci : Nat} {q : vw_C} (h : clDec ci q = true) (ht : ∀ k, k < q.2.2 → parseFieldDescriptor (q.2.1 k).2.2.1 = some (tyOf ci k)) (hn : ∀ a, a < q.2.2 → ∀ b, b < q.2.2 → a ≠ b → (q.2.1 a).2.1 ≠ (q.2.1 b).2.1) : clOk ci q := by
  unfold clDec at h
  simp only [Bool.and_eq_true] at h
  obtain ⟨⟨⟨⟨h1, h2⟩, h3⟩, h4⟩, h5⟩ := h
  have h5' := List.all_eq_true.mp h5
  refine ⟨fun w hw => gw_of (List.all_eq_true.mp h1 w hw), ht, hn, decide_eq_true_eq.mp h2, gw_of (by rw [Bool.and_eq_true]; exact h3), gw_of (by rw [Bool.and_eq_true]; exact h4), fun k hk hr => ?_, fun k hk hr => ?_, fun k hk => ?_⟩
  · have h6 := h5' k (List.mem_range.mpr hk)
    simp only [hr, Bool.and_eq_true, Bool.or_eq_true, decide_eq_true_eq] at h6
    simpa using h6.1
  · have h6 := h5' k (List.mem_range.mpr hk)
    simp only [hr, Bool.and_eq_true, if_true] at h6
    exact isRT_of h6.1
  · have h6 := h5' k (List.mem_range.mpr hk)
    simp only [Bool.and_eq_true, decide_eq_true_eq] at h6
    exact h6.2
theorem cl0 : clOk 0 (RX0, TX0, 3) := clOk_of (by decide +kernel) tyX0_ok nmX0
theorem cl1 : clOk 1 (RX1, TX1, 16) := clOk_of (by decide +kernel) tyX1_ok nmX1
theorem cl2 : clOk 2 (RX2, TX2, 6) := clOk_of (by decide +kernel) tyX2_ok nmX2
theorem cl3 : clOk 3 (RX3, TX3, 4) := clOk_of (by decide +kernel) tyX3_ok nmX3
theorem cl4 : clOk 4 (RX4, TX4, 6) := clOk_of (by decide +kernel) tyX4_ok nmX4
theorem cl5 : clOk 5 (RX5, TX5, 10) := clOk_of (by decide +kernel) tyX5_ok nmX5
theorem cl6 : clOk 6 (RX6, TX6, 7) := clOk_of (by decide +kernel) tyX6_ok nmX6
theorem cl7 : clOk 7 (RX7, TX7, 6) := clOk_of (by decide +kernel) tyX7_ok nmX7
theorem cl8 : clOk 8 (RX8, TX8, 7) := clOk_of (by decide +kernel) tyX8_ok nmX8
theorem cl9 : clOk 9 (RX9, TX9, 6) := clOk_of (by decide +kernel) tyX9_ok nmX9
theorem cl10 : clOk 10 (RX10, TX10, 39) := clOk_of (by decide +kernel) tyX10_ok nmX10
theorem cl_all {ci : Nat} {q : vw_C} (h : vwCl[ci]? = some q) : clOk ci q ∧ ci ≤ 10 := by
  match ci, h with
  | 0, h => cases h; exact ⟨cl0, by decide⟩
  | 1, h => cases h; exact ⟨cl1, by decide⟩
  | 2, h => cases h; exact ⟨cl2, by decide⟩
  | 3, h => cases h; exact ⟨cl3, by decide⟩
  | 4, h => cases h; exact ⟨cl4, by decide⟩
  | 5, h => cases h; exact ⟨cl5, by decide⟩
  | 6, h => cases h; exact ⟨cl6, by decide⟩
  | 7, h => cases h; exact ⟨cl7, by decide⟩
  | 8, h => cases h; exact ⟨cl8, by decide⟩
  | 9, h => cases h; exact ⟨cl9, by decide⟩
  | 10, h => cases h; exact ⟨cl10, by decide⟩
  | k + 11, h => simp [vwCl] at h
/-- a field's link: the class whose code it stands in, its entry, the class and the field's place -/
def fl (own : String) (idx ci k : Nat) : Prop := ∃ q : vw_C, vwCl[ci]? = some q ∧ k < q.2.2 ∧ Cond.fieldLink own idx (q.2.1 k).1 (q.2.1 k).2.1 (q.2.1 k).2.2.1 ∈ gw
theorem enc_obj {G : GG} {r : Int → Int} {ci : Nat} (h : r (-1) = (ci : Int) + 1) (hc : ci ≤ 10) : enc G r = .inr (ci, encO G ci r) := by
  unfold enc
  rw [if_pos (by omega), h, show ((ci : Int) + 1 - 1).toNat = ci by omega]
theorem encO_at {G : GG} {ci k : Nat} {r : Int → Int} (h : k < nF ci) : (encO G ci r)[k]? = some (fv G ci k (r k)) := by
  unfold encO
  rw [List.getElem?_map, List.getElem?_range h]
  rfl
theorem encO_V {G : GG} {ci k : Nat} {r : Int → Int} (h : k < nF ci) : vp_V (encO G ci r) k = fv G ci k (r k) := by
  unfold vp_V
  rw [List.getD_eq_getElem?_getD, encO_at h]
  rfl
theorem enc_arr {G : GG} {r : Int → Int} (h1 : 12 ≤ r (-1)) (h2 : r (-1) ≤ 22) : enc G r = .inl (gY G (r (-1)), (r (-2)).toNat, .inl (fun j => Int32.ofInt (r j))) := by
  unfold enc
  rw [if_neg (by omega), if_pos h2]
theorem enc_arq {G : GG} {r : Int → Int} (h1 : 23 ≤ r (-1)) : enc G r = .inl (gY G (r (-1)), (r (-2)).toNat, .inr (.inr (.inr (.inr (fun j => rfo G (r j)))))) := by
  unfold enc
  rw [if_neg (by omega), if_neg (by omega)]
theorem wr_row {h : Hp} {a k x : Int} : wr h a k x a = fun j => if j = k then x else h a j := by
  funext j
  simp [wr]
theorem wr_off {h : Hp} {a b k x : Int} (hb : b ≠ a) : wr h a k x b = h b := by
  funext j
  simp [wr, hb]
theorem wr_top {h : Hp} {a k x : Int} (ha : 1 ≤ a) : wr h a k x 0 0 = h 0 0 := by
  rw [wr_off (by omega)]
theorem okH_wr {h : Hp} {a k x : Int} (ho : okH h) (h1 : 1 ≤ a) (hk : 0 ≤ k) (hx : inI x) : okH (wr h a k x) := by
  obtain ⟨o1, o2, o3, o4⟩ := ho
  have t := wr_top (h := h) (k := k) (x := x) h1
  refine ⟨by rw [t]; exact o1, fun c hc => ?_, fun c j c1 c2 hj => ?_, fun c c1 c2 => ?_⟩
  · rw [t]
    refine o2 c ?_
    unfold wr at hc
    rw [if_neg (by omega)] at hc
    exact hc
  · rw [t] at c2
    unfold wr
    split
    · exact hx
    · exact o3 c j c1 c2 hj
  · rw [t] at c2
    unfold wr
    rw [if_neg (by omega)]
    exact o4 c c1 c2
theorem Rel.row {G : GG} {h h' : Hp} {H H1 : Heap} {a : Int} (R : Rel G h H) (ha1 : 1 ≤ a) (ha2 : a ≤ h 0 0) (h3 : h' 0 0 = h 0 0) (h4 : ∀ b, 1 ≤ b → b ≠ a → h' b = h b) (oq : ∀ q : Nat, q ≠ adr G a → H1[q]? = H[q]?) (z : H1.size = H.size) (hv : va_at G.2.1 vwCl (adr G a, enc G (h' a)) H1) (ok : okH h') : Rel G h' H1 :=
  ⟨by rw [← cls_set ha1 ha2 h3 h4]; exact R.1.set cls_D (cls_at ha1 ha2) hv oq, by rw [z, h3]; exact R.2.1, ok⟩
theorem Rel.at {G : GG} {h : Hp} {H : Heap} {a : Int} (R : Rel G h H) (ha1 : 1 ≤ a) (ha2 : a ≤ h 0 0) : va_at G.2.1 vwCl (adr G a, enc G (h a)) H := R.1 _ _ (cls_at ha1 ha2)
theorem gA_adr {G : GG} {a : Int} (h : 1 ≤ a) : gA G (adr G a) := by
  show gB G < adr G a
  rw [adr_pos h]
  omega
theorem cv_ref {G : GG} {a : Int} (h : a ≠ 0) : cv G (vR a) = .ref (adr G a) := by simp [cv, rfo, h, va_rf]
section AR3
variable {G : GG} {M : MT} {b : Nat × Nat} {pc : Nat} {ls : List (Nat × VV)} {st : List VV} {h : Hp} {Z : LZ}
theorem aw_getI {idx ci k : Nat} {a x : Int} (hd : decode (mC M) pc = .ok (.getfield idx, 3)) (hf : fl (mY M).cls idx ci k) (hr : fR ci k = false) (hs : h a (-1) = (ci : Int) + 1) (hx : h a k = x) (kk : AZ G M b (pc + 3) ls (vI x :: st) h Z) : AZ G M b pc ls (vR a :: st) h Z := by
  intro p e s m args below meth c H locs cells slots la C K R o1 o2 L S B c1 c2
  obtain ⟨q, hq, hk, hl⟩ := hf
  obtain ⟨⟨w1, w2, w3, w4, -⟩, w10⟩ := cl_all hq
  obtain ⟨a1, a2⟩ := R.2.2.2.1 a (by omega)
  have he := cls_at (G := G) a1 a2
  rw [enc_obj hs w10] at he
  subst hx
  have hv := encO_at (G := G) (r := h a) (show k < nF ci by omega)
  simp only [fv, hr] at hv
  rw [List.map_cons, cv_ref (by omega)]
  exact va_get C.1 C.2.1 C.2.2.2.2.2.1 w1 C.2.2.2.2.1 K.1 R.1 _ he hq k hk (C.2.2.2.2.2.1 _ hl) (fun _ z => z) (v := .int (Int32.ofInt (h a k))) (by simpa using hv) hd (kk p e s m args below meth c H locs cells slots la C K R o1 (i_cons (R.2.2.2.2.1 a k a1 a2 (by omega)) (i_tail o2)) L S B c1 c2)
theorem aw_getR {idx ci k : Nat} {a x : Int} (hd : decode (mC M) pc = .ok (.getfield idx, 3)) (hf : fl (mY M).cls idx ci k) (hr : fR ci k = true) (hs : h a (-1) = (ci : Int) + 1) (hx : h a k = x) (kk : AZ G M b (pc + 3) ls (vR x :: st) h Z) : AZ G M b pc ls (vR a :: st) h Z := by
  intro p e s m args below meth c H locs cells slots la C K R o1 o2 L S B c1 c2
  obtain ⟨q, hq, hk, hl⟩ := hf
  obtain ⟨⟨w1, w2, w3, w4, -⟩, w10⟩ := cl_all hq
  obtain ⟨a1, a2⟩ := R.2.2.2.1 a (by omega)
  have he := cls_at (G := G) a1 a2
  rw [enc_obj hs w10] at he
  subst hx
  have hv := encO_at (G := G) (r := h a) (show k < nF ci by omega)
  simp only [fv, hr] at hv
  rw [List.map_cons, cv_ref (by omega)]
  exact va_get C.1 C.2.1 C.2.2.2.2.2.1 w1 C.2.2.2.2.1 K.1 R.1 _ he hq k hk (C.2.2.2.2.2.1 _ hl) (fun _ z => z) (v := va_rf (rfo G (h a k))) (by simpa using hv) hd (kk p e s m args below meth c H locs cells slots la C K R o1 (i_cons (R.2.2.2.2.1 a k a1 a2 (by omega)) (i_tail o2)) L S B c1 c2)
/-- a field is written, final or not: the value fits its type -/
theorem aw_putV {idx ci k : Nat} {a x : Int} {v : VV} (hd : decode (mC M) pc = .ok (.putfield idx, 3)) (hf : fl (mY M).cls idx ci k) (hfin : ∀ q, vwCl[ci]? = some q → (q.2.1 k).2.2.2 = true → (mY M).name = "<init>" ∧ q.1 = (mY M).cls) (hs : h a (-1) = (ci : Int) + 1) (hx : inI x) (hv : cv G v = fv G ci k x) (hn : narrow (tyOf ci k) (fv G ci k x) = fv G ci k x) (hfit : fits (tyOf ci k) (fv G ci k x) = true) (kk : AZ G M b (pc + 3) ls st (wr h a k x) Z) : AZ G M b pc ls (v :: vR a :: st) h Z := by
  intro p e s m args below meth c H locs cells slots la C K R o1 o2 L S B c1 c2
  obtain ⟨q, hq, hk, hl⟩ := hf
  obtain ⟨⟨w1, w2, w3, w4, -, -, -, -, w9⟩, w10⟩ := cl_all hq
  obtain ⟨a1, a2⟩ := R.2.2.2.1 a (by omega)
  have he := cls_at (G := G) a1 a2
  rw [enc_obj hs w10] at he
  rw [List.map_cons, List.map_cons, cv_ref (show a ≠ 0 by omega), hv]
  have hts := C.2.2.2.2.2.1
  have hap := va_apart (own := (mY M).cls) hts w1 (tyOf ci) w2 w3 K.1 hq
  obtain ⟨r, h1, cell, q1, q2, q3, q4⟩ := R.1 _ _ he
  have hr : r = q := Option.some.inj (h1.symm.trans hq)
  subst hr
  obtain ⟨hS, hfc, kC, hkC, hkind⟩ := K.1.1 ci _ hq
  obtain ⟨cf, kf, fi, f, hi, hsl⟩ := hS k hk
  have hst := (u_facts hfc hkC (u_lays hts w1 hk) hi).1
  have hlay := hts _ (w1 _ (u_in_lay hk))
  have fin : ∀ H1 : Heap, H1[adr G a]? = some (cell.setSlot f.slot (fv G ci k x)) → H1.size = H.size → (∀ q, q ≠ adr G a → H1[q]? = H[q]?) → Rel G (wr h a k x) H1 := by
    intro H1 e1 e2 e3
    rw [hsl] at e1
    refine R.row a1 a2 (wr_top a1) (fun b _ hb => wr_off hb) e3 e2 ?_ (okH_wr R.2.2 a1 (by omega) hx)
    rw [enc_obj (ci := ci) (by rw [wr_row]; simp only; rw [if_neg (by omega)]; exact hs) w10]
    refine ⟨_, hq, t_OB.to (V := updV (vp_V (encO G ci (h a))) k (fv G ci k x)) ⟨_, e1, q2, q3, t_set q4 hap hk (fv G ci k x)⟩ (fun j hj => ?_)⟩
    rw [encO_V (by omega)]
    unfold updV
    by_cases hjk : j = k
    · subst hjk
      rw [if_pos rfl, wr_row]
      simp
    · rw [if_neg hjk, encO_V (by omega), wr_row]
      simp only
      rw [if_neg (by omega)]
  by_cases hff : (r.2.1 k).2.2.2 = true
  · unfold u_lay at hlay
    rw [if_pos hff] at hlay
    have hcf : m.cls = cf := by
      obtain ⟨_, _, c', _, _, _, -, -, hf', -, -, -, hown2, -⟩ := Cond.laysFinal_spec hlay
      have e1 : c' = cf := by have := hi.symm.trans hf'; simp at this; exact this.1.symm
      rw [w9 k hk, (hfin r hq hff).2] at hown2
      rw [← e1]; exact Option.some.inj (C.2.2.2.2.1.symm.trans hown2)
    have h6 := u_fits hfc hkC hkind (Or.inr hlay) hi (w2 k hk) hn hfit
    refine W.putFinK C.1 C.2.1 C.2.2.2.2.1 (hts _ hl) hi hst hcf (C.2.2.2.2.2.2.2.trans (hfin r hq hff).1) (by rw [q2]; exact h6) q1 q3 (by rw [hsl]; exact k2_hasslot (q4 k hk)) rfl rfl hd fun H1 e1 e2 e3 => ?_
    exact kk p e s m args below meth c H1 _ cells slots la C K (fin H1 e1 e2 e3) o1 (i_tail2 o2) L (S.put e2 e3 (gA_adr a1)) B c1 c2
  · unfold u_lay at hlay
    rw [if_neg hff] at hlay
    have h6 := u_store hfc hkC hkind hlay hi (w2 k hk) hn hfit
    refine W.putK C.1 C.2.1 (f := f) ⟨C.2.2.2.2.1, hts _ hl, ⟨_, _, _, hi⟩, hst⟩ (by rw [q2]; exact h6) q1 q3 (by rw [hsl]; exact k2_hasslot (q4 k hk)) rfl rfl hd fun H1 e1 e2 e3 => ?_
    exact kk p e s m args below meth c H1 _ cells slots la C K (fin H1 e1 e2 e3) o1 (i_tail2 o2) L (S.put e2 e3 (gA_adr a1)) B c1 c2
/-- the field may be written here -/
def pf (M : MT) (ci k : Nat) : Prop := ∀ q : vw_C, vwCl[ci]? = some q → (q.2.1 k).2.2.2 = true → (mY M).name = "<init>" ∧ q.1 = (mY M).cls
theorem aw_putI {idx ci k : Nat} {a x : Int} (hd : decode (mC M) pc = .ok (.putfield idx, 3)) (hf : fl (mY M).cls idx ci k) (hfin : pf M ci k) (ht : tyOf ci k = .int) (hr : fR ci k = false) (hs : h a (-1) = (ci : Int) + 1) (kk : AZ G M b (pc + 3) ls st (wr h a k x) Z) : AZ G M b pc ls (vI x :: vR a :: st) h Z := by
  refine aw_use (fun o1 o2 oh => ?_)
  have e1 : fv G ci k x = .int (Int32.ofInt x) := by simp [fv, hr]
  exact aw_putV hd hf hfin hs (i_head o2) (by rw [e1]; rfl) (by rw [e1, ht]; rfl) (by rw [e1, ht]; rfl) kk
theorem aw_putZ {idx ci k : Nat} {a x : Int} (hd : decode (mC M) pc = .ok (.putfield idx, 3)) (hf : fl (mY M).cls idx ci k) (hfin : pf M ci k) (ht : tyOf ci k = .boolean) (hr : fR ci k = false) (hx : x = 0 ∨ x = 1) (hs : h a (-1) = (ci : Int) + 1) (kk : AZ G M b (pc + 3) ls st (wr h a k x) Z) : AZ G M b pc ls (vI x :: vR a :: st) h Z := by
  refine aw_use (fun o1 o2 oh => ?_)
  have e1 : fv G ci k x = .int (Int32.ofInt x) := by simp [fv, hr]
  exact aw_putV hd hf hfin hs (i_head o2) (by rw [e1]; rfl) (by rw [e1, ht]; rcases hx with rfl | rfl <;> decide) (by rw [e1, ht]; rcases hx with rfl | rfl <;> decide) kk
theorem aw_putR {idx ci k : Nat} {a x : Int} (hd : decode (mC M) pc = .ok (.putfield idx, 3)) (hf : fl (mY M).cls idx ci k) (hfin : pf M ci k) (ht : isRT (tyOf ci k) = true) (hr : fR ci k = true) (hs : h a (-1) = (ci : Int) + 1) (kk : AZ G M b (pc + 3) ls st (wr h a k x) Z) : AZ G M b pc ls (vR x :: vR a :: st) h Z := by
  refine aw_use (fun o1 o2 oh => ?_)
  have e1 : fv G ci k x = va_rf (rfo G x) := by simp [fv, hr]
  have hnf : ∀ v : Value, (v = .null ∨ ∃ q, v = .ref q) → narrow (tyOf ci k) v = v ∧ fits (tyOf ci k) v = true := by
    intro v hv
    rcases isRT_of ht with ⟨n, e⟩ | ⟨n, e⟩ <;> rw [e] <;> rcases hv with rfl | ⟨q, rfl⟩ <;> exact ⟨rfl, rfl⟩
  exact aw_putV hd hf hfin hs (i_head o2) (by rw [e1]; rfl) (by rw [e1]; exact (hnf _ (va_rf_or _)).1) (by rw [e1]; exact (hnf _ (va_rf_or _)).2) kk
end AR3
end
section
/-! rows of the abstract machine, fourth part: arrays, new cells, answers -/
theorem a_size {G : GG} {h : Hp} {a i : Int} (hi : inI i) (h0 : 0 ≤ i) (h1 : i < h a (-2)) : vp_in (Int32.ofInt i) (h a (-2)).toNat := i_in hi h0 (by omega)
theorem a_upd {r : Int → Int} {i x : Int} (h0 : 0 ≤ i) : (fun j : Nat => Int32.ofInt ((fun q => if q = i then x else r q) (j : Int))) = upd (fun j : Nat => Int32.ofInt (r j)) i.toNat (Int32.ofInt x) := by
  funext j
  unfold upd
  by_cases hj : j = i.toNat
  · rw [if_pos hj]
    dsimp only
    rw [if_pos (by omega)]
  · rw [if_neg hj]
    dsimp only
    rw [if_neg (by omega)]
theorem a_updq {G : GG} {r : Int → Int} {i x : Int} (h0 : 0 ≤ i) : (fun j : Nat => rfo G ((fun q => if q = i then x else r q) (j : Int))) = va_up (fun j : Nat => rfo G (r j)) i.toNat (rfo G x) := by
  funext j
  unfold va_up
  by_cases hj : j = i.toNat
  · rw [if_pos hj]
    dsimp only
    rw [if_pos (by omega)]
  · rw [if_neg hj]
    dsimp only
    rw [if_neg (by omega)]
section AR4
variable {G : GG} {M : MT} {b : Nat × Nat} {pc : Nat} {ls : List (Nat × VV)} {st : List VV} {h : Hp} {Z : LZ}
theorem aw_iald {a i x : Int} (hd : decode (mC M) pc = .ok (.iaload, 1)) (hs : h a (-1) = 20) (h0 : 0 ≤ i) (h1 : i < h a (-2)) (hx : h a i = x) (kk : AZ G M b (pc + 1) ls (vI x :: st) h Z) : AZ G M b pc ls (vI i :: vR a :: st) h Z := by
  intro p e s m args below meth c H locs cells slots la C K R o1 o2 L S B c1 c2
  obtain ⟨a1, a2⟩ := R.2.2.2.1 a (by omega)
  have he := cls_at (G := G) a1 a2
  rw [enc_arr (by omega) (by omega), hs] at he
  have hi : inI i := i_head o2
  subst hx
  rw [List.map_cons, List.map_cons, cv_ref (show a ≠ 0 by omega)]
  refine va_iald C.1 C.2.1 K.1 R.1 _ 0 he rfl (a_size (G := G) hi h0 h1) hd ?_
  rw [i_clamp hi, show ((i.toNat : Nat) : Int) = i by omega]
  exact kk p e s m args below meth c H locs cells slots la C K R o1 (i_cons (R.2.2.2.2.1 a i a1 a2 h0) (i_tail2 o2)) L S B c1 c2
theorem aw_zald {a i x : Int} (hd : decode (mC M) pc = .ok (.baload, 1)) (hs : h a (-1) = 21) (h0 : 0 ≤ i) (h1 : i < h a (-2)) (hx : h a i = x) (kk : AZ G M b (pc + 1) ls (vI x :: st) h Z) : AZ G M b pc ls (vI i :: vR a :: st) h Z := by
  intro p e s m args below meth c H locs cells slots la C K R o1 o2 L S B c1 c2
  obtain ⟨a1, a2⟩ := R.2.2.2.1 a (by omega)
  have he := cls_at (G := G) a1 a2
  rw [enc_arr (by omega) (by omega), hs] at he
  have hi : inI i := i_head o2
  subst hx
  rw [List.map_cons, List.map_cons, cv_ref (show a ≠ 0 by omega)]
  refine va_zald C.1 C.2.1 K.1 R.1 _ 1 he rfl (a_size (G := G) hi h0 h1) hd ?_
  rw [i_clamp hi, show ((i.toNat : Nat) : Int) = i by omega]
  exact kk p e s m args below meth c H locs cells slots la C K R o1 (i_cons (R.2.2.2.2.1 a i a1 a2 h0) (i_tail2 o2)) L S B c1 c2
theorem aw_cald {a i x : Int} (hd : decode (mC M) pc = .ok (.caload, 1)) (hs : h a (-1) = 22) (h0 : 0 ≤ i) (h1 : i < h a (-2)) (hx : h a i = x) (kk : AZ G M b (pc + 1) ls (vI x :: st) h Z) : AZ G M b pc ls (vI i :: vR a :: st) h Z := by
  intro p e s m args below meth c H locs cells slots la C K R o1 o2 L S B c1 c2
  obtain ⟨a1, a2⟩ := R.2.2.2.1 a (by omega)
  have he := cls_at (G := G) a1 a2
  rw [enc_arr (by omega) (by omega), hs] at he
  have hi : inI i := i_head o2
  subst hx
  rw [List.map_cons, List.map_cons, cv_ref (show a ≠ 0 by omega)]
  refine va_cald C.1 C.2.1 K.1 R.1 _ 2 he rfl (a_size (G := G) hi h0 h1) hd ?_
  rw [i_clamp hi, show ((i.toNat : Nat) : Int) = i by omega]
  exact kk p e s m args below meth c H locs cells slots la C K R o1 (i_cons (R.2.2.2.2.1 a i a1 a2 h0) (i_tail2 o2)) L S B c1 c2
/-- an array of objects of class ci, of which the tables speak at t0 -/
def aq (t0 ci : Nat) : Prop := ∃ q : vw_C, vwCl[ci]? = some q ∧ ∀ G : GG, (tysOf G)[t0]? = some (gY G ((ci : Int) + 30), .object q.1)
theorem aw_aald {a i x : Int} (t0 ci : Nat) (hq : aq t0 ci) (hd : decode (mC M) pc = .ok (.aaload, 1)) (hs : h a (-1) = (ci : Int) + 30) (h0 : 0 ≤ i) (h1 : i < h a (-2)) (hx : h a i = x) (kk : AZ G M b (pc + 1) ls (vR x :: st) h Z) : AZ G M b pc ls (vI i :: vR a :: st) h Z := by
  intro p e s m args below meth c H locs cells slots la C K R o1 o2 L S B c1 c2
  obtain ⟨q, hq1, hq2⟩ := hq
  obtain ⟨a1, a2⟩ := R.2.2.2.1 a (by omega)
  have he := cls_at (G := G) a1 a2
  rw [enc_arq (by omega), hs] at he
  have hi : inI i := i_head o2
  subst hx
  rw [List.map_cons, List.map_cons, cv_ref (show a ≠ 0 by omega)]
  refine va_aldq C.1 C.2.1 K.1 R.1 _ t0 he (hq2 G) (a_size (G := G) hi h0 h1) hd ?_
  rw [i_clamp hi, show ((i.toNat : Nat) : Int) = i by omega]
  exact kk p e s m args below meth c H locs cells slots la C K R o1 (i_cons (R.2.2.2.2.1 a i a1 a2 h0) (i_tail2 o2)) L S B c1 c2
theorem aw_iast {a i x : Int} (hd : decode (mC M) pc = .ok (.iastore, 1)) (hs : h a (-1) = 20) (h0 : 0 ≤ i) (h1 : i < h a (-2)) (kk : AZ G M b (pc + 1) ls st (wr h a i x) Z) : AZ G M b pc ls (vI x :: vI i :: vR a :: st) h Z := by
  intro p e s m args below meth c H locs cells slots la C K R o1 o2 L S B c1 c2
  obtain ⟨a1, a2⟩ := R.2.2.2.1 a (by omega)
  have he := cls_at (G := G) a1 a2
  rw [enc_arr (by omega) (by omega), hs] at he
  have hx : inI x := i_head o2
  have hi : inI i := i_head (i_tail o2)
  rw [List.map_cons, List.map_cons, List.map_cons, cv_ref (show a ≠ 0 by omega)]
  have hin := a_size (G := G) hi h0 h1
  refine W.iast C.1 C.2.1 (R.1 _ _ he) ((K.1.2 0 _ rfl).1 _ (fun j => .int (Int32.ofInt (h a j)))) (fun q => by cases q) (by show ¬ (_ ∨ (arrV _ _ _).slots.size ≤ _); rw [arrV_size]; exact hin) rfl rfl hd fun H1 e1 z oq => ?_
  refine kk p e s m args below meth c H1 _ cells slots la C K (R.row a1 a2 (wr_top a1) (fun b _ hb => wr_off hb) oq z ?_ (okH_wr R.2.2 a1 h0 hx)) o1 (i_tail (i_tail2 o2)) L (S.put z oq (gA_adr a1)) B c1 c2
  have hs' : wr h a i x a (-1) = 20 := by rw [wr_row]; simp only; rw [if_neg (by omega)]; exact hs
  rw [enc_arr (by omega) (by omega), hs']
  show H1[adr G a]? = some (vp_cell _ _)
  rw [e1, wr_row, a_upd h0, vp_cell_i, vp_cell_i, arrV_store, i_clamp hi]
  simp only [show ¬ ((-2 : Int) = i) by omega, if_false]
  congr 2
  funext j
  unfold updV upd
  split <;> rfl
theorem aw_zast {a i x : Int} (hd : decode (mC M) pc = .ok (.bastore, 1)) (hs : h a (-1) = 21) (h0 : 0 ≤ i) (h1 : i < h a (-2)) (hb : x = 0 ∨ x = 1) (kk : AZ G M b (pc + 1) ls st (wr h a i x) Z) : AZ G M b pc ls (vI x :: vI i :: vR a :: st) h Z := by
  intro p e s m args below meth c H locs cells slots la C K R o1 o2 L S B c1 c2
  obtain ⟨a1, a2⟩ := R.2.2.2.1 a (by omega)
  have he := cls_at (G := G) a1 a2
  rw [enc_arr (by omega) (by omega), hs] at he
  have hx : inI x := i_head o2
  have hi : inI i := i_head (i_tail o2)
  rw [List.map_cons, List.map_cons, List.map_cons, cv_ref (show a ≠ 0 by omega)]
  have hin := a_size (G := G) hi h0 h1
  refine W.zast C.1 C.2.1 (R.1 _ _ he) ((K.1.2 1 _ rfl).1 _ (fun j => .int (Int32.ofInt (h a j)))) (fun q => by cases q) (by show ¬ (_ ∨ (arrV _ _ _).slots.size ≤ _); rw [arrV_size]; exact hin) rfl rfl hd fun H1 e1 z oq => ?_
  refine kk p e s m args below meth c H1 _ cells slots la C K (R.row a1 a2 (wr_top a1) (fun b _ hb => wr_off hb) oq z ?_ (okH_wr R.2.2 a1 h0 hx)) o1 (i_tail (i_tail2 o2)) L (S.put z oq (gA_adr a1)) B c1 c2
  have hs' : wr h a i x a (-1) = 21 := by rw [wr_row]; simp only; rw [if_neg (by omega)]; exact hs
  rw [enc_arr (by omega) (by omega), hs']
  have hnar : narrow .boolean (.int (Int32.ofInt x)) = .int (Int32.ofInt x) := by rcases hb with rfl | rfl <;> decide
  rw [hnar] at e1
  show H1[adr G a]? = some (vp_cell _ _)
  rw [e1, wr_row, a_upd h0, vp_cell_i, vp_cell_i, arrV_store, i_clamp hi]
  simp only [show ¬ ((-2 : Int) = i) by omega, if_false]
  congr 2
  funext j
  unfold updV upd
  split <;> rfl
theorem aw_cast {a i x : Int} (hd : decode (mC M) pc = .ok (.castore, 1)) (hs : h a (-1) = 22) (h0 : 0 ≤ i) (h1 : i < h a (-2)) (hb : 0 ≤ x ∧ x < 65536) (kk : AZ G M b (pc + 1) ls st (wr h a i x) Z) : AZ G M b pc ls (vI x :: vI i :: vR a :: st) h Z := by
  intro p e s m args below meth c H locs cells slots la C K R o1 o2 L S B c1 c2
  obtain ⟨a1, a2⟩ := R.2.2.2.1 a (by omega)
  have he := cls_at (G := G) a1 a2
  rw [enc_arr (by omega) (by omega), hs] at he
  have hx : inI x := i_head o2
  have hi : inI i := i_head (i_tail o2)
  rw [List.map_cons, List.map_cons, List.map_cons, cv_ref (show a ≠ 0 by omega)]
  have hin := a_size (G := G) hi h0 h1
  refine W.cast C.1 C.2.1 (R.1 _ _ he) ((K.1.2 2 _ rfl).1 _ (fun j => .int (Int32.ofInt (h a j)))) (fun q => by cases q) (by show ¬ (_ ∨ (arrV _ _ _).slots.size ≤ _); rw [arrV_size]; exact hin) rfl rfl hd fun H1 e1 z oq => ?_
  refine kk p e s m args below meth c H1 _ cells slots la C K (R.row a1 a2 (wr_top a1) (fun b _ hb => wr_off hb) oq z ?_ (okH_wr R.2.2 a1 h0 hx)) o1 (i_tail (i_tail2 o2)) L (S.put z oq (gA_adr a1)) B c1 c2
  have hs' : wr h a i x a (-1) = 22 := by rw [wr_row]; simp only; rw [if_neg (by omega)]; exact hs
  rw [enc_arr (by omega) (by omega), hs']
  have hnar : narrow .char (.int (Int32.ofInt x)) = .int (Int32.ofInt x) := by
    rw [i_nI hb.1]
    exact (pk_charN (by omega)).1
  rw [hnar] at e1
  show H1[adr G a]? = some (vp_cell _ _)
  rw [e1, wr_row, a_upd h0, vp_cell_i, vp_cell_i, arrV_store, i_clamp hi]
  simp only [show ¬ ((-2 : Int) = i) by omega, if_false]
  congr 2
  funext j
  unfold updV upd
  split <;> rfl
theorem aw_aast {a i x : Int} (t0 ci : Nat) (hq : aq t0 ci) (hd : decode (mC M) pc = .ok (.aastore, 1)) (hs : h a (-1) = (ci : Int) + 30) (h0 : 0 ≤ i) (h1 : i < h a (-2)) (hxs : h x (-1) = (ci : Int) + 1) (kk : AZ G M b (pc + 1) ls st (wr h a i x) Z) : AZ G M b pc ls (vR x :: vI i :: vR a :: st) h Z := by
  intro p e s m args below meth c H locs cells slots la C K R o1 o2 L S B c1 c2
  obtain ⟨q, hq1, hq2⟩ := hq
  obtain ⟨w0, w10⟩ := cl_all hq1
  obtain ⟨a1, a2⟩ := R.2.2.2.1 a (by omega)
  obtain ⟨x1, x2⟩ := R.2.2.2.1 x (by omega)
  have he := cls_at (G := G) a1 a2
  have hxe := cls_at (G := G) x1 x2
  rw [enc_arq (by omega), hs] at he
  rw [enc_obj hxs w10] at hxe
  have hx : inI x := i_head o2
  have hi : inI i := i_head (i_tail o2)
  rw [List.map_cons, List.map_cons, List.map_cons, cv_ref (show a ≠ 0 by omega), cv_ref (show x ≠ 0 by omega)]
  have hin := a_size (G := G) hi h0 h1
  have hlt : (Int32.ofInt i).toNatClampNeg < (h a (-2)).toNat := Nat.not_le.mp fun q => hin (Or.inr q)
  have hn0 : ¬ Int32.ofInt i < 0 := fun q => hin (Or.inl q)
  obtain ⟨r', hr', cellV, g1, g2, g3, -⟩ := R.1 _ _ hxe
  have hcls := (K.1.1 ci q hq1).2
  obtain ⟨kA, comp, k1, k2, k3, -⟩ := (K.1.2 t0 _ (hq2 G)).2
  have hcomp : comp = G.2.1.1 ci := Option.some.inj (k3.symm.trans hcls.1)
  subst hcomp
  obtain ⟨kC, hkC, -⟩ := hcls.2
  refine W.aast C.1 C.2.1 (R.1 _ _ he) (fun q h => by cases h) (fun h => by cases h) k1 k2 rfl hkC ⟨hn0, by show _ < (arrV _ _ _).slots.size; rw [arrV_size]; exact hlt⟩ g1 (fun q h => by rw [g3] at h; cases h) (by rw [g2]; exact hkC) (by rw [g2]; exact va_assign hcls) rfl rfl hd fun H1 e1 z oq => ?_
  refine kk p e s m args below meth c H1 _ cells slots la C K (R.row a1 a2 (wr_top a1) (fun b _ hb => wr_off hb) oq z ?_ (okH_wr R.2.2 a1 h0 hx)) o1 (i_tail (i_tail2 o2)) L (S.put z oq (gA_adr a1)) B c1 c2
  have hs' : wr h a i x a (-1) = (ci : Int) + 30 := by rw [wr_row]; simp only; rw [if_neg (by omega)]; exact hs
  rw [enc_arq (by omega), hs']
  show H1[adr G a]? = some (vp_cell _ _)
  rw [e1, wr_row, a_updq h0, vp_cell_q, vp_cell_q, arrV_store, i_clamp hi]
  simp only [show ¬ ((-2 : Int) = i) by omega, if_false]
  congr 2
  funext j
  unfold updV va_up
  split
  · simp [rfo, show ¬ x = 0 by omega, va_rf]
  · rfl
end AR4
end
section
/-! rows of the abstract machine, fifth part: new cells, answers, calls -/
theorem nw_top {h : Hp} {c n : Int} (h0 : 0 ≤ h 0 0) : nw h c n 0 0 = h 0 0 + 1 := by
  unfold nw
  rw [if_neg (by omega), if_pos ⟨rfl, rfl⟩]
theorem nw_new {h : Hp} {c n j : Int} : nw h c n (h 0 0 + 1) j = if j = -1 then c else if j = -2 then n else 0 := by
  unfold nw
  rw [if_pos rfl]
theorem nw_off {h : Hp} {c n b j : Int} (hb : b ≠ h 0 0 + 1) (h1 : 1 ≤ b) : nw h c n b j = h b j := by
  unfold nw
  rw [if_neg hb, if_neg (by omega)]
theorem nw_row {h : Hp} {c n b : Int} (hb : b ≠ h 0 0 + 1) (h1 : 1 ≤ b) : nw h c n b = h b := funext fun _ => nw_off hb h1
theorem okH_nw {h : Hp} {c n : Int} (ho : okH h) (h0 : 0 ≤ n) (h1 : n < 2147483648) : okH (nw h c n) := by
  obtain ⟨o1, o2, o3, o4⟩ := ho
  have t := nw_top (h := h) (c := c) (n := n) o1
  refine ⟨by omega, fun a ha => ?_, fun a k a1 a2 hk => ?_, fun a a1 a2 => ?_⟩
  · by_cases e : a = h 0 0 + 1
    · omega
    · unfold nw at ha
      rw [if_neg e, if_neg (by omega)] at ha
      have := o2 a ha
      omega
  · by_cases e : a = h 0 0 + 1
    · subst e
      rw [nw_new, if_neg (by omega), if_neg (by omega)]
      exact inI_0
    · rw [nw_off e a1]
      exact o3 a k a1 (by omega) hk
  · by_cases e : a = h 0 0 + 1
    · subst e
      rw [nw_new, if_neg (by omega), if_pos rfl]
      exact ⟨h0, h1⟩
    · rw [nw_off e a1]
      exact o4 a a1 (by omega)
theorem Rel.next {G : GG} {h : Hp} {H : Heap} (R : Rel G h H) : adr G (h 0 0 + 1) = H.size := by
  have h0 := R.2.2.1
  rw [adr_pos (by omega), R.2.1]
  omega
theorem Rel.push {G : GG} {h h' : Hp} {H H1 : Heap} (R : Rel G h H) (h3 : h' 0 0 = h 0 0 + 1) (h4 : ∀ b, 1 ≤ b → b ≤ h 0 0 → h' b = h b) (z : H1.size = H.size + 1) (oq : ∀ q : Nat, q < H.size → H1[q]? = H[q]?) (hv : va_at G.2.1 vwCl (adr G (h 0 0 + 1), enc G (h' (h 0 0 + 1))) H1) (ok : okH h') : Rel G h' H1 := by
  have h0 := R.2.2.1
  refine ⟨?_, by rw [z, h3, R.2.1]; omega, ok⟩
  rw [cls_push h0 h3 h4]
  refine (R.1.kept (fun k x hx => oq _ ((R.1 k x hx).lt))).app (fun k x hx => ?_)
  have hz : k < 1 := (List.getElem?_eq_some_iff.mp hx).1
  rw [show k = 0 by omega] at hx
  cases hx
  exact hv
theorem va_S_grow {A : Nat → Prop} {H0 H H1 : Heap} {locs : List Loc} (S : va_S A H0 H locs) (z : H1.size = H.size + 1) (oq : ∀ q : Nat, q < H.size → H1[q]? = H[q]?) : va_S A H0 H1 locs :=
  ⟨Nat.le_trans S.1 (by omega), fun q h1 h2 => (oq q (Nat.lt_of_lt_of_le h1 S.1)).trans (S.2.1 q h1 h2), S.2.2⟩
/-- the array types that are made by newarray -/
def na (t : ArrayType) (code : Int) (t0 : Nat) : Prop := 12 ≤ code ∧ code ≤ 22 ∧ Cond.arrayClass (newarray.typeOf t) ∈ gw ∧ (∀ G : GG, (tysOf G)[t0]? = some (gY G code, newarray.typeOf t)) ∧ defaultValue (newarray.typeOf t) = .int 0 ∧ componentBytes (newarray.typeOf t) ≤ 8 ∧ ∀ (s : State) (c : ClassId), va_RA s c (newarray.typeOf t) → s.vm.findClass ("[" ++ (newarray.typeOf t).toString) = some c
section AR5
variable {G : GG} {M : MT} {b : Nat × Nat} {pc : Nat} {ls : List (Nat × VV)} {st : List VV} {h : Hp} {Z : LZ}
theorem aw_newa {t : ArrayType} {code n : Int} {t0 : Nat} (hna : na t code t0) (hd : decode (mC M) pc = .ok (.newarray t, 2)) (h0 : 0 ≤ n) (h1 : n ≤ 60000) (ht : inI (h 0 0 + 1)) (hb1 : 1 ≤ b.1) (hb2 : n.toNat ≤ b.2) (kk : AZ G M (b.1 - 1, b.2 - n.toNat) (pc + 2) ls (vR (h 0 0 + 1) :: st) (nw h code n) Z) : AZ G M b pc ls (vI n :: st) h Z := by
  intro p e s m args below meth c H locs cells slots la C K R o1 o2 L S B c1 c2
  obtain ⟨n1, n2, n3, n4, n5, n6, n7⟩ := hna
  have hn : inI n := i_head o2
  have hN : (Int32.ofInt n).toNatClampNeg = n.toNat := i_clamp hn
  rw [List.map_cons]
  refine va_newaK C.1 C.2.1 (C.2.2.2.2.2.1 _ n3) rfl hd rfl (fun q => by have := (i_lt hn inI_0).mp q; omega) hN (Nat.le_trans (Nat.mul_le_mul (show n.toNat ≤ 60000 by omega) n6) (by decide)) (by omega) (by omega) rfl fun H1 cA e1 z oq hAr hNm => ?_
  have hcA : cA = gY G code := Option.some.inj (hNm.symm.trans (n7 s _ (K.1.2 t0 _ (n4 G)).2))
  subst hcA
  have h00 := R.2.2.1
  have W1 := kk p e s m args below meth c H1 locs (cells + 1) (slots + n.toNat) la C K (R.push (nw_top h00) (fun b b1 b2 => nw_row (by omega) b1) z oq ?_ (okH_nw R.2.2 h0 (by omega))) o1 (i_cons ht (i_tail o2)) L (va_S_grow S z oq) B (by dsimp only; omega) (by dsimp only; omega)
  · rw [List.map_cons, cv_ref (by omega), R.next] at W1
    exact W1
  · have e2 : nw h code n (h 0 0 + 1) (-1) = code := by rw [nw_new, if_pos rfl]
    have e3 : nw h code n (h 0 0 + 1) (-2) = n := by rw [nw_new, if_neg (by decide), if_pos rfl]
    rw [enc_arr (by omega) (by omega), e2, e3, R.next]
    show H1[H.size]? = some (vp_cell _ _)
    rw [e1, vp_cell_i, n5]
    congr 2
    funext j
    rw [nw_new, if_neg (by omega), if_neg (by omega)]
    rfl
theorem aw_anew {n : Int} {idx : Nat} (t0 ci : Nat) (hq : aq t0 ci) (hl : ∀ q, vwCl[ci]? = some q → Cond.classLink (mY M).cls idx q.1 ∈ gw ∧ q.1 ∈ aoL) (hd : decode (mC M) pc = .ok (.anewarray idx, 3)) (h0 : 0 ≤ n) (h1 : n ≤ 60000) (ht : inI (h 0 0 + 1)) (hb1 : 1 ≤ b.1) (hb2 : n.toNat ≤ b.2) (kk : AZ G M (b.1 - 1, b.2 - n.toNat) (pc + 3) ls (vR (h 0 0 + 1) :: st) (nw h ((ci : Int) + 30) n) Z) : AZ G M b pc ls (vI n :: st) h Z := by
  intro p e s m args below meth c H locs cells slots la C K R o1 o2 L S B c1 c2
  obtain ⟨q, hq1, hq2⟩ := hq
  have hn : inI n := i_head o2
  have hN : (Int32.ofInt n).toNatClampNeg = n.toNat := i_clamp hn
  rw [List.map_cons]
  refine W.anew C.1 C.2.1 C.2.2.2.2.1 (C.2.2.2.2.2.1 _ (hl q hq1).1) (va_AO.use (K.2.2.2.2.2.2 _ (hl q hq1).2)) rfl hd rfl (fun q => by have := (i_lt hn inI_0).mp q; omega) (by rw [hN]; omega) (by omega) (by rw [hN]; omega) fun cA kA comp f1 f2 f3 f4 => ?_
  rw [hN]
  generalize hH1 : H.push ({ cls := cA, slots := Array.replicate n.toNat .null, vm := .none } : Cell) = H1
  have z : H1.size = H.size + 1 := by rw [← hH1, Array.size_push]
  have e1 : H1[H.size]? = some (arrV cA n.toNat (fun _ => .null)) := by rw [← hH1, Array.getElem?_push_size, ← arrV_new]
  have oq : ∀ q : Nat, q < H.size → H1[q]? = H[q]? := fun q hq => by rw [← hH1, Array.getElem?_push, if_neg (Nat.ne_of_lt hq)]
  obtain ⟨kA', comp', k1, k2, k3, k4⟩ := (K.1.2 t0 _ (hq2 G)).2
  have hcA : cA = gY G ((ci : Int) + 30) := Option.some.inj (f1.symm.trans k4)
  subst hcA
  have h00 := R.2.2.1
  have W1 := kk p e s m args below meth c H1 locs (cells + 1) (slots + n.toNat) la C K (R.push (nw_top h00) (fun b b1 b2 => nw_row (by omega) b1) z oq ?_ (okH_nw R.2.2 h0 (by omega))) o1 (i_cons ht (i_tail o2)) L (va_S_grow S z oq) B (by dsimp only; omega) (by dsimp only; omega)
  · rw [List.map_cons, cv_ref (by omega), R.next] at W1
    exact W1
  · have e2 : nw h ((ci : Int) + 30) n (h 0 0 + 1) (-1) = (ci : Int) + 30 := by rw [nw_new, if_pos rfl]
    have e3 : nw h ((ci : Int) + 30) n (h 0 0 + 1) (-2) = n := by rw [nw_new, if_neg (by decide), if_pos rfl]
    rw [enc_arq (by omega), e2, e3, R.next]
    show H1[H.size]? = some (vp_cell _ _)
    rw [e1, vp_cell_q]
    congr 2
    funext j
    rw [nw_new, if_neg (by omega), if_neg (by omega)]
    rfl
theorem aw_new {idx : Nat} (ci : Nat) (hl : ∃ q, vwCl[ci]? = some q ∧ Cond.classLink (mY M).cls idx q.1 ∈ gw) (hd : decode (mC M) pc = .ok (.new idx, 3)) (ht : inI (h 0 0 + 1)) (hb1 : 1 ≤ b.1) (hb2 : nF ci ≤ b.2) (kk : AZ G M (b.1 - 1, b.2 - nF ci) (pc + 3) ls (vR (h 0 0 + 1) :: st) (nw h ((ci : Int) + 1) 0) Z) : AZ G M b pc ls st h Z := by
  intro p e s m args below meth c H locs cells slots la C K R o1 o2 L S B c1 c2
  obtain ⟨q, hq, hcl⟩ := hl
  obtain ⟨⟨w1, w2, w3, w4, w5, w6, w7, w8, -⟩, w10⟩ := cl_all hq
  have hts := C.2.2.2.2.2.1
  have hKn := K.1.1 ci _ hq
  refine W.newcK C.1 C.2.1 C.2.2.2.2.1 (hts _ hcl) (hts _ w5) (hts _ w6) rfl hd (by omega) (by omega) hKn.2.1 rfl fun H1 kC hkC e1 z oq => ?_
  have h00 := R.2.2.1
  have W1 := kk p e s m args below meth c H1 locs (cells + 1) (slots + q.2.2) la C K (R.push (nw_top h00) (fun b b1 b2 => nw_row (by omega) b1) z oq ?_ (okH_nw R.2.2 (Int.le_refl 0) (by decide))) o1 (i_cons ht o2) L (va_S_grow S z oq) B (by dsimp only; omega) (by dsimp only; omega)
  · rw [List.map_cons, cv_ref (by omega), R.next] at W1
    exact W1
  · have e2 : nw h ((ci : Int) + 1) 0 (h 0 0 + 1) (-1) = (ci : Int) + 1 := by rw [nw_new, if_pos rfl]
    rw [enc_obj e2 w10, R.next]
    refine ⟨q, hq, (u_born (tyOf ci) hts w1 hKn hkC e1 w2).to (fun j hj => ?_)⟩
    rw [encO_V (by omega), nw_new, if_neg (by omega), if_neg (by omega)]
    unfold fv
    by_cases hr : fR ci j = true
    · rw [if_pos hr]
      rcases w8 j hj hr with ⟨n, e⟩ | ⟨n, e⟩ <;> rw [e] <;> rfl
    · rw [if_neg hr]
      rcases w7 j hj (by simpa using hr) with e | e <;> rw [e] <;> rfl
end AR5
section AR6
variable {G : GG} {M : MT} {b : Nat × Nat} {pc : Nat} {ls : List (Nat × VV)} {st : List VV} {h : Hp} {Q : Option VV → Hp → Prop}
theorem aw_iret {x : Int} (hd : decode (mC M) pc = .ok (.ireturn, 1)) (hr : mR M = some .int) (hq : Q (some (vI x)) h) : AW G M b pc ls [vI x] h Q := by
  intro p e s m args below meth c H locs cells slots la C K R o1 o2 L S B c1 c2
  refine W.widen (k := (mQ M).cells) (n := (mQ M).slots) (by omega) (by omega) ?_
  exact W.iret (Qc := QQ G Q) C.1 C.2.1 (C.2.2.1.trans hr) (fun t ht hW => ⟨⟨some (vI x), h, hq, fun v hv => by cases hv; exact i_head o2, rfl, by rw [ht]; exact R⟩, S.F ht⟩) S.2.2 hd C.2.2.2.2.2.2.1
theorem aw_zret {x : Int} (hd : decode (mC M) pc = .ok (.ireturn, 1)) (hr : mR M = some .boolean) (hx : x = 0 ∨ x = 1) (hq : Q (some (vI x)) h) : AW G M b pc ls [vI x] h Q := by
  intro p e s m args below meth c H locs cells slots la C K R o1 o2 L S B c1 c2
  refine W.widen (k := (mQ M).cells) (n := (mQ M).slots) (by omega) (by omega) ?_
  exact W.zret (Qc := QQ G Q) C.1 C.2.1 (C.2.2.1.trans hr) (by rcases hx with rfl | rfl <;> decide) (fun t ht hW => ⟨⟨some (vI x), h, hq, fun v hv => by cases hv; exact i_head o2, rfl, by rw [ht]; exact R⟩, S.F ht⟩) S.2.2 hd C.2.2.2.2.2.2.1
/-- an answer of another small type: it fits -/
theorem aw_xret {x : Int} {ty : FieldType} (hd : decode (mC M) pc = .ok (.ireturn, 1)) (hr : mR M = some ty) (hx : narrow ty (.int (Int32.ofInt x)) = .int (Int32.ofInt x)) (hq : Q (some (vI x)) h) : AW G M b pc ls [vI x] h Q := by
  intro p e s m args below meth c H locs cells slots la C K R o1 o2 L S B c1 c2
  refine W.widen (k := (mQ M).cells) (n := (mQ M).slots) (by omega) (by omega) ?_
  exact W.zret (Qc := QQ G Q) C.1 C.2.1 (C.2.2.1.trans hr) hx (fun t ht hW => ⟨⟨some (vI x), h, hq, fun v hv => by cases hv; exact i_head o2, rfl, by rw [ht]; exact R⟩, S.F ht⟩) S.2.2 hd C.2.2.2.2.2.2.1
theorem aw_vret (hd : decode (mC M) pc = .ok (.return_, 1)) (hr : mR M = none) (hq : Q none h) : AW G M b pc ls [] h Q := by
  intro p e s m args below meth c H locs cells slots la C K R o1 o2 L S B c1 c2
  refine W.widen (k := (mQ M).cells) (n := (mQ M).slots) (by omega) (by omega) ?_
  exact W.vret (Qc := QQ G Q) C.1 C.2.1 (C.2.2.1.trans hr) (fun t ht hW => ⟨⟨none, h, hq, fun v hv => (by cases hv), rfl, by rw [ht]; exact R⟩, S.F ht⟩) S.2.2 hd C.2.2.2.2.2.2.1
theorem aw_aret {a : Int} {ty : FieldType} (hd : decode (mC M) pc = .ok (.areturn, 1)) (hr : mR M = some ty) (ht : isRT ty = true) (hq : Q (some (vR a)) h) : AW G M b pc ls [vR a] h Q := by
  intro p e s m args below meth c H locs cells slots la C K R o1 o2 L S B c1 c2
  refine W.widen (k := (mQ M).cells) (n := (mQ M).slots) (by omega) (by omega) ?_
  exact W.aret (Qc := QQ G Q) C.1 C.2.1 (C.2.2.1.trans hr) (isRT_of ht) (va_rf_or _) (fun t ht hW => ⟨⟨some (vR a), h, hq, fun v hv => by cases hv; exact i_head o2, rfl, by rw [ht]; exact R⟩, S.F ht⟩) S.2.2 hd C.2.2.2.2.2.2.1
end AR6
def lva : Nat → List VV → List (Nat × VV)
  | _, [] => []
  | i, v :: vs => (i, v) :: lva (if isLg v = true then i + 2 else i + 1) vs
theorem lva_eq {G : GG} : ∀ (as : List VV) (i : Nat), lv_args i (as.map (cv G)) = lvs G (lva i as)
  | [], _ => rfl
  | v :: vs, i => by
    have hc := cv_cat (G := G) v
    show (i, cv G v) :: lv_args (if (cv G v).category = 2 then i + 2 else i + 1) (vs.map (cv G)) = (i, cv G v) :: lvs G (lva (if isLg v = true then i + 2 else i + 1) vs)
    rw [lva_eq vs]
    congr 3
    by_cases hv : isLg v = true
    · rw [hv] at hc
      rw [if_pos hv, if_pos (by simpa using hc)]
    · have hf : isLg v = false := by simpa using hv
      rw [hf] at hc
      rw [if_neg hv, if_neg (by simpa using hc)]
def lvn (as : List VV) : Nat := (as.map (fun v => if isLg v = true then 2 else 1)).sum
theorem lvn_eq {G : GG} : ∀ (as : List VV), (lg_sl (as.map (cv G))).length = lvn as
  | [] => rfl
  | v :: vs => by
    have hc := cv_cat (G := G) v
    have ih := lvn_eq (G := G) vs
    unfold lg_sl at ih ⊢
    rw [List.map_cons, List.flatMap_cons, List.length_append, ih]
    unfold lvn
    rw [List.map_cons, List.sum_cons]
    congr 1
    by_cases hv : isLg v = true
    · rw [hv] at hc
      rw [if_pos hv, if_pos (by simpa using hc)]
      rfl
    · have hf : isLg v = false := by simpa using hv
      rw [hf] at hc
      rw [if_neg hv, if_neg (by simpa using hc)]
      rfl
theorem lva_ok : ∀ (as : List VV) (i : Nat), (∀ v ∈ as, okV v) → ∀ q ∈ lva i as, okV q.2
  | [], _, _, q, hq => by cases hq
  | v :: vs, i, h, q, hq => by
    rcases List.mem_cons.mp hq with rfl | hq
    · exact h v List.mem_cons_self
    · exact lva_ok vs _ (fun w hw => h w (List.mem_cons_of_mem _ hw)) q hq
/-- a contract out of the walk of the method's body -/
theorem Runs.of {G : GG} {M : MT} {as : List VV} {h : Hp} {Q : Option VV → Hp → Prop} (hy : plainName (mY M).cls = true) (hn : lvn as ≤ mL M) (k : AW G M ((mQ M).cells, (mQ M).slots) 0 (lva 0 as) [] h Q) : Runs G M as h Q := by
  refine Met.ofW (cc := mC M) (maxL := mL M) (ret := mR M) hy rfl ?_
  intro p e s m args below meth c s₁ B hml hv
  obtain ⟨rfl, ho, hR, hK, hB⟩ := hv
  have hts := atoms_spec (ws := wsM M) B.pre
  rw [lg_entry_eq]
  have hl := lv_entry (as.map (cv G)) (n := mL M) (by rw [lvn_eq]; exact hn)
  rw [lva_eq] at hl
  exact k p e s m _ below meth c s.heap [] 0 0 _ ⟨B.exec, B.bytes, B.returns, hml, findClass_of_methodNamed B.named, fun w hw => hts w (List.mem_cons_of_mem _ hw), B.notSynchronized, (name_of_methodNamed B.named B.method).1⟩ hK hR (lva_ok as 0 ho) (fun v hv => by cases hv) hl va_S.rf hB (by dsimp only; omega) (by dsimp only; omega)
end
section
/-! rows of the abstract machine, sixth part: calls -/
theorem nest_is {w : Cond} (h : w ∈ nestW) : ∃ a i x k, w = .methodLinkNest a i x k := by
  have h2 := (List.mem_filter.mp h).2
  cases w <;> first | exact ⟨_, _, _, _, rfl⟩ | cases h2
/-- what stays of a state stays when the tables grow warm and old cells are as they were -/
theorem KX.moved {G : GG} {s U : State} (K : KX G s) (hW : s.WarmedH U.vm) (hq : ∀ a : Nat, a < s.heap.size → ¬ gA G a → U.heap[a]? = s.heap[a]?) (hz : s.heap.size ≤ U.heap.size) : KX G U := by
  obtain ⟨k1, k2, ⟨k3, k4, k5, k6⟩, k7, k8, k9, k10⟩ := K
  refine ⟨va_K.moved hW.alike k1, fun w hw => ?_, ⟨vk_S.moved hW.alike (k3.kept hq), fun i q hi => (k4 i q hi).warm hW, va_Z.moved hW.alike (k5.kept hq), va_Zq.moved hW.alike (k6.kept hq)⟩, va_X.moved hW.alike (k7.kept (hq _ k8 k9)), by omega, k9, fun C hC => (k10 C hC).moved hW.alike⟩
  obtain ⟨a, i, x, k, rfl⟩ := nest_is hw
  exact va_Nw.warmM hW (k2 _ hw)
theorem KX.same {G : GG} {u U : State} (K : KX G u) (hv : u.vm = U.vm) (hh : U.heap = u.heap) : KX G U := by
  obtain ⟨k1, k2, ⟨k3, k4, k5, k6⟩, k7, k8, k9, k10⟩ := K
  have hA : u.vm.Alike U.vm := by rw [hv]; exact Vm.Alike.refl _
  refine ⟨va_K.moved hA k1, fun w hw => ?_, ?_, ?_⟩
  · obtain ⟨a, i, x, k, rfl⟩ := nest_is hw
    exact va_Nw.same rfl hv (k2 _ hw)
  · rw [hh]
    exact ⟨vk_S.moved hA k3, fun i q hi => (k4 i q hi).same hv.symm, va_Z.moved hA k5, va_Zq.moved hA k6⟩
  · rw [hh]
    exact ⟨va_X.moved hA k7, k8, k9, fun C hC => (k10 C hC).moved hA⟩
theorem PP.blind {G : GG} {as : List VV} {h : Hp} : FrameBlind (PP G as h) := by
  intro a U g mk q
  obtain ⟨q1, q2, q3, q4, q5⟩ := q
  exact ⟨q1, q2, q3, q4.same rfl rfl, q5⟩
theorem Runs.mono {G : GG} {M : MT} {as : List VV} {h : Hp} {Q Q' : Option VV → Hp → Prop} (k : Runs G M as h Q) (hq : ∀ r h', Q r h' → Q' r h') : Runs G M as h Q' := by
  intro p e a1 a2 a3 s m args below a4 a5 a6 a7
  obtain ⟨n, o, b1, b2, b3, ⟨⟨⟨r, h', c1, c2⟩, c3⟩, b5⟩⟩ := k p e a1 a2 a3 s m args below a4 a5 a6 a7
  exact ⟨n, o, b1, b2, b3, ⟨⟨r, h', hq r h' c1, c2⟩, c3⟩, b5⟩
/-- a method of the tables -/
def okM (M : MT) : Prop := Cond.code (mY M) (mC M) (mL M) (mR M) ∈ gw ∧ Cond.initialized (mY M).cls ∈ gw ∧ (mY M).cls ≠ "java/lang/invoke/MethodHandle" ∧ (mY M).cls ≠ "java/lang/invoke/VarHandle"
theorem gw_good : ∀ w ∈ gw, (w.onTables && w.keeps) = true ∨ ∃ ty, w = .arrayClass ty := fun w hw => good_of_word (List.mem_filter.mp hw).2
theorem okM.in {M : MT} (h : okM M) : GoodIn gw (wsM M) := by
  intro w hw
  rcases List.mem_cons.mp hw with rfl | hw
  · exact ⟨h.1, gw_good _ h.1⟩
  · exact ⟨hw, gw_good w hw⟩
def prm (M : MT) (n : Nat) : Prop := (parseMethodDescriptor (mY M).desc).map (fun d => d.parameters.length) = some n
/-- the callee fits into the caller's room -/
def fitR (M M' : MT) (b : Nat × Nat) : Prop := (mQ M').frames + 1 ≤ (mQ M).frames ∧ 8 + (mL M' + 11) + (mQ M').locals ≤ (mQ M).locals ∧ (mQ M').cells ≤ b.1 ∧ (mQ M').slots ≤ b.2
def lkS (own : String) (idx : Nat) (M : MT) (n : Nat) : Prop := okM M ∧ Cond.methodLink own idx (mY M) ∈ gw ∧ Cond.static (mY M) ∈ gw ∧ prm M n
def lkV (own : String) (idx : Nat) (M : MT) (n : Nat) : Prop := okM M ∧ Cond.methodLink own idx (mY M) ∈ gw ∧ Cond.instanceMethod (mY M) ∈ gw ∧ Cond.selects (mY M).cls (mY M) (mY M) ∈ gw ∧ prm M n
def lkI (own : String) (idx : Nat) (M : MT) (n : Nat) : Prop := okM M ∧ Cond.methodLink own idx (mY M) ∈ gw ∧ Cond.instanceMethod (mY M) ∈ gw ∧ (mY M).name = "<init>" ∧ mR M = none ∧ prm M n
def lkSN (own : String) (idx : Nat) (M : MT) (n : Nat) : Prop := okM M ∧ (∃ k, Cond.methodLinkNest own idx (mY M) k ∈ nestW) ∧ Cond.static (mY M) ∈ gw ∧ prm M n
def lkIN (own : String) (idx : Nat) (M : MT) (n : Nat) : Prop := okM M ∧ (∃ k, Cond.methodLinkNest own idx (mY M) k ∈ nestW) ∧ Cond.instanceMethod (mY M) ∈ gw ∧ (mY M).name = "<init>" ∧ mR M = none ∧ prm M n
def catS (st : List VV) : Nat := (st.map (fun v => if isLg v = true then 2 else 1)).sum
theorem catS_eq {G : GG} : ∀ (st : List VV), ((st.map (cv G)).map (fun v => v.category)).sum = catS st
  | [] => rfl
  | v :: vs => by
    have hc := cv_cat (G := G) v
    have ih := catS_eq (G := G) vs
    unfold catS at ih ⊢
    rw [List.map_cons, List.map_cons, List.map_cons, List.sum_cons, List.sum_cons, ih]
    congr 1
    by_cases hv : isLg v = true
    · rw [hv] at hc
      rw [if_pos hv]
      simpa using hc
    · rw [if_neg hv]
      exact cv_cat1 (by simpa using hv)
section AR7
variable {G : GG} {M : MT} {b : Nat × Nat} {pc : Nat} {ls : List (Nat × VV)} {st : List VV} {h : Hp} {Z : LZ}
/-- behind a call -/
theorem aw_back {p : Program} {e : Env} {s : State} {m : MethodId} {args : Array Value} {below : List Frame} {meth : Method} {c : Code} {H : Heap} {locs : List Loc} {cells slots : Nat} {la : Array Slot} {M' : MT} {st0 st' : List VV} {a9 : Array Value}
    (C : CX M p s m args meth c) (K : KX G s) (o1 : ∀ q ∈ ls, okV q.2) (o2 : ∀ v ∈ st', okV v) (L : lv_has la (mL M) (lvs G ls)) (S : va_S (gA G) s.heap H locs) (B : gB G < s.heap.size) (c1 : cells + b.1 ≤ (mQ M).cells) (c2 : slots + b.2 ≤ (mQ M).slots) (hf : (mQ M').cells ≤ b.1 ∧ (mQ M').slots ≤ b.2)
    (hr : va_Run p G.1 e (mQ M) s m args below meth c H locs cells slots (mQ M').cells (mQ M').slots (F0 m pc la (st0.map (cv G))) (st'.map (cv G)) (QQ G (fun r h' => AZ G M (b.1 - (mQ M').cells, b.2 - (mQ M').slots) (pc + 3) ls (r.toList ++ st') h' Z) a9) (gA G)) :
    W p G.1 e (mQ M) s m args below meth c H locs cells slots (Z below args s) (F0 m pc la (st0.map (cv G))) := by
  intro T hT X
  obtain ⟨v, s0, t, T', L', h0, X', hL, e1, e2, ⟨⟨r, h', hQ, hok, hv, hR⟩, hz, hk⟩, stp⟩ := hr T hT X
  cases hv
  rw [h0] at hz hk
  have S' : va_S (gA G) s.heap T'.heap (locs ++ L') := ⟨Nat.le_trans S.1 (by rw [e1]; exact hz), fun q h1 h2 => by rw [e1, hk q (Nat.lt_of_lt_of_le h1 S.1) h2]; exact S.2.1 q h1 h2, fun q hq => by
    rcases List.mem_append.mp hq with h | h
    · exact S.2.2 q h
    · exact hL q h⟩
  have W1 := hQ p e s m args below meth c T'.heap (locs ++ L') (cells + (mQ M').cells) (slots + (mQ M').slots) la C K (by rw [e1]; exact hR) o1 (fun w hw => by
    rcases List.mem_append.mp hw with h | h
    · exact hok w (Option.mem_toList.mp h)
    · exact o2 w h) L S' B (by dsimp only; omega) (by dsimp only; omega)
  obtain ⟨t2, a1, b1⟩ := W1 T' rfl X'
  refine ⟨t2, stp t2 ?_, b1⟩
  have e3 : (r.toList ++ st').map (cv G) = (r.map (cv G)).toList ++ st'.map (cv G) := by
    rw [List.map_append]
    cases r <;> rfl
  rw [e3] at a1
  exact a1
theorem PP.pre {p : Program} {s : State} {m : MethodId} {args : Array Value} {meth : Method} {c : Code} {H : Heap} {locs : List Loc} {as : List VV} (C : CX M p s m args meth c) (K : KX G s) (R : Rel G h H) (S : va_S (gA G) s.heap H locs) (B : gB G < s.heap.size) (oa : ∀ v ∈ as, okV v) : ∀ U : State, U.heap = H → s.WarmedH U.vm → PP G as h (as.map (cv G)).toArray U := by
  intro U hU hW
  exact ⟨rfl, oa, by rw [hU]; exact R, K.moved hW (fun a h1 h2 => by rw [hU]; exact S.2.1 a h1 h2) (by rw [hU]; exact S.1), by rw [hU]; exact Nat.lt_of_lt_of_le B S.1⟩
theorem aw_callS {idx : Nat} {M' : MT} (as st' : List VV) (hl : lkS (mY M).cls idx M' as.length) (hd : decode (mC M) pc = .ok (.invokestatic idx, 3)) (hst : st = as.reverse ++ st') (hc : catS st' ≤ 8) (hf : fitR M M' b) (k : Runs G M' as h (fun r h' => AZ G M (b.1 - (mQ M').cells, b.2 - (mQ M').slots) (pc + 3) ls (r.toList ++ st') h' Z)) : AZ G M b pc ls st h Z := by
  intro p e s m args below meth c H locs cells slots la C K R o1 o2 L S B c1 c2
  obtain ⟨l1, l2, l3, l4⟩ := hl
  obtain ⟨f1, f2, f3, f4⟩ := hf
  have hts := C.2.2.2.2.2.1
  subst hst
  refine aw_back (M' := M') C K o1 (fun v hv => o2 v (List.mem_append_right _ hv)) L S B c1 c2 ⟨f3, f4⟩ (va_runS (As := as.map (cv G)) (rest := st'.map (cv G)) ⟨C.1, C.2.1, C.2.2.2.1, C.2.2.2.2.1, hts⟩ k ⟨callB_of as.length hts l1.in rfl rfl rfl (hts _ l1.2.1) (hts _ l2) ⟨l1.2.2.1, l1.2.2.2, l4⟩ ⟨f1, f2⟩, hts _ l3⟩ ⟨PP.blind, PP.pre C K R S B (fun v hv => o2 v (List.mem_append_left _ (List.mem_reverse.mpr hv)))⟩ rfl (by simp) L.1 ?_ (lv_room (by rw [catS_eq]; exact hc)) hd ⟨by omega, by omega⟩)
  show ((as.reverse ++ st').map (cv G)) = _
  rw [List.map_append, List.map_reverse]
theorem aw_callSN {idx : Nat} {M' : MT} (as st' : List VV) (hl : lkSN (mY M).cls idx M' as.length) (hd : decode (mC M) pc = .ok (.invokestatic idx, 3)) (hst : st = as.reverse ++ st') (hc : catS st' ≤ 8) (hf : fitR M M' b) (k : Runs G M' as h (fun r h' => AZ G M (b.1 - (mQ M').cells, b.2 - (mQ M').slots) (pc + 3) ls (r.toList ++ st') h' Z)) : AZ G M b pc ls st h Z := by
  intro p e s m args below meth c H locs cells slots la C K R o1 o2 L S B c1 c2
  obtain ⟨l1, ⟨hk, l2⟩, l3, l4⟩ := hl
  obtain ⟨f1, f2, f3, f4⟩ := hf
  have hts := C.2.2.2.2.2.1
  subst hst
  refine aw_back (M' := M') C K o1 (fun v hv => o2 v (List.mem_append_right _ hv)) L S B c1 c2 ⟨f3, f4⟩ (va_runSN (As := as.map (cv G)) (rest := st'.map (cv G)) ⟨C.1, C.2.1, C.2.2.2.1, C.2.2.2.2.1, hts⟩ k ⟨va_cnB as.length hts l1.in rfl rfl rfl (K.2.1 _ l2) (hts _ l1.2.1) ⟨l1.2.2.1, l1.2.2.2, l4⟩ ⟨f1, f2⟩, hts _ l3, trivial⟩ ⟨PP.blind, PP.pre C K R S B (fun v hv => o2 v (List.mem_append_left _ (List.mem_reverse.mpr hv)))⟩ rfl (by simp) L.1 ?_ (lv_room (by rw [catS_eq]; exact hc)) hd ⟨by omega, by omega⟩)
  show ((as.reverse ++ st').map (cv G)) = _
  rw [List.map_append, List.map_reverse]
theorem aw_callV {idx : Nat} {M' : MT} {a : Int} (ci : Nat) (as st' : List VV) (hl : lkV (mY M).cls idx M' as.length) (hcl : ∃ q, vwCl[ci]? = some q ∧ q.1 = (mY M').cls) (hd : decode (mC M) pc = .ok (.invokevirtual idx, 3)) (hst : st = as.reverse ++ vR a :: st') (hc : catS st' ≤ 8) (hf : fitR M M' b) (hs : h a (-1) = (ci : Int) + 1) (k : Runs G M' (vR a :: as) h (fun r h' => AZ G M (b.1 - (mQ M').cells, b.2 - (mQ M').slots) (pc + 3) ls (r.toList ++ st') h' Z)) : AZ G M b pc ls st h Z := by
  intro p e s m args below meth c H locs cells slots la C K R o1 o2 L S B c1 c2
  obtain ⟨l1, l2, l3, l4, l5⟩ := hl
  obtain ⟨f1, f2, f3, f4⟩ := hf
  obtain ⟨q, hq, hqc⟩ := hcl
  obtain ⟨-, w10⟩ := cl_all hq
  have hts := C.2.2.2.2.2.1
  subst hst
  obtain ⟨a1, a2⟩ := R.2.2.2.1 a (by omega)
  have he := cls_at (G := G) a1 a2
  rw [enc_obj hs w10] at he
  have oa : ∀ v ∈ vR a :: as, okV v := fun v hv => by
    rcases List.mem_cons.mp hv with rfl | hv
    · exact o2 _ (List.mem_append_right _ List.mem_cons_self)
    · exact o2 v (List.mem_append_left _ (List.mem_reverse.mpr hv))
  have e0 : cv G (vR a) = .ref (adr G a) := cv_ref (by omega)
  have hpp := PP.pre C K R S B oa
  rw [List.map_cons, e0] at hpp
  have hrv := va_recv K.1 R.1 hq he
  rw [hqc] at hrv
  refine aw_back (M' := M') C K o1 (fun v hv => o2 v (List.mem_append_right _ (List.mem_cons_of_mem _ hv))) L S B c1 c2 ⟨f3, f4⟩ (va_runV (As := as.map (cv G)) (rest := st'.map (cv G)) (b := adr G a) (C := (mY M').cls) ⟨C.1, C.2.1, C.2.2.2.1, C.2.2.2.2.1, hts⟩ k ⟨callB_of as.length hts l1.in rfl rfl rfl (hts _ l1.2.1) (hts _ l2) ⟨l1.2.2.1, l1.2.2.2, l5⟩ ⟨f1, f2⟩, hts _ l3, hts _ l4⟩ ⟨PP.blind, hrv, hpp⟩ rfl (by simp) L.1 ?_ (lv_room (by rw [catS_eq]; exact hc)) hd ⟨by omega, by omega⟩)
  show ((as.reverse ++ vR a :: st').map (cv G)) = _
  rw [List.map_append, List.map_reverse, List.map_cons, e0]
theorem aw_callI {idx : Nat} {M' : MT} {a : Int} (as st' : List VV) (hl : lkI (mY M).cls idx M' as.length) (hd : decode (mC M) pc = .ok (.invokespecial idx, 3)) (hst : st = as.reverse ++ vR a :: st') (hc : catS st' ≤ 8) (hf : fitR M M' b) (ha : a ≠ 0) (k : Runs G M' (vR a :: as) h (fun r h' => AZ G M (b.1 - (mQ M').cells, b.2 - (mQ M').slots) (pc + 3) ls (r.toList ++ st') h' Z)) : AZ G M b pc ls st h Z := by
  intro p e s m args below meth c H locs cells slots la C K R o1 o2 L S B c1 c2
  obtain ⟨l1, l2, l3, l4, l5, l6⟩ := hl
  obtain ⟨f1, f2, f3, f4⟩ := hf
  have hts := C.2.2.2.2.2.1
  subst hst
  have oa : ∀ v ∈ vR a :: as, okV v := fun v hv => by
    rcases List.mem_cons.mp hv with rfl | hv
    · exact o2 _ (List.mem_append_right _ List.mem_cons_self)
    · exact o2 v (List.mem_append_left _ (List.mem_reverse.mpr hv))
  have e0 : cv G (vR a) = .ref (adr G a) := cv_ref ha
  have hpp := PP.pre C K R S B oa
  rw [List.map_cons, e0] at hpp
  have hB := callB_of (R := mQ M) (rm := mQ M') (own := (mY M).cls) (index := idx) as.length hts l1.in rfl rfl rfl (hts _ l1.2.1) (hts _ l2) ⟨l1.2.2.1, l1.2.2.2, l6⟩ ⟨f1, f2⟩
  rw [l5] at hB
  refine aw_back (M' := M') C K o1 (fun v hv => o2 v (List.mem_append_right _ (List.mem_cons_of_mem _ hv))) L S B c1 c2 ⟨f3, f4⟩ (va_runI (As := as.map (cv G)) (rest := st'.map (cv G)) (b := adr G a) ⟨C.1, C.2.1, C.2.2.2.1, C.2.2.2.2.1, hts⟩ k ⟨hB, l4, hts _ l3⟩ ⟨PP.blind, hpp⟩ rfl (by simp) L.1 ?_ (lv_room (by rw [catS_eq]; exact hc)) hd ⟨by omega, by omega⟩)
  show ((as.reverse ++ vR a :: st').map (cv G)) = _
  rw [List.map_append, List.map_reverse, List.map_cons, e0]
theorem aw_callIN {idx : Nat} {M' : MT} {a : Int} (as st' : List VV) (hl : lkIN (mY M).cls idx M' as.length) (hd : decode (mC M) pc = .ok (.invokespecial idx, 3)) (hst : st = as.reverse ++ vR a :: st') (hc : catS st' ≤ 8) (hf : fitR M M' b) (ha : a ≠ 0) (k : Runs G M' (vR a :: as) h (fun r h' => AZ G M (b.1 - (mQ M').cells, b.2 - (mQ M').slots) (pc + 3) ls (r.toList ++ st') h' Z)) : AZ G M b pc ls st h Z := by
  intro p e s m args below meth c H locs cells slots la C K R o1 o2 L S B c1 c2
  obtain ⟨l1, ⟨hk, l2⟩, l3, l4, l5, l6⟩ := hl
  obtain ⟨f1, f2, f3, f4⟩ := hf
  have hts := C.2.2.2.2.2.1
  subst hst
  have oa : ∀ v ∈ vR a :: as, okV v := fun v hv => by
    rcases List.mem_cons.mp hv with rfl | hv
    · exact o2 _ (List.mem_append_right _ List.mem_cons_self)
    · exact o2 v (List.mem_append_left _ (List.mem_reverse.mpr hv))
  have e0 : cv G (vR a) = .ref (adr G a) := cv_ref ha
  have hpp := PP.pre C K R S B oa
  rw [List.map_cons, e0] at hpp
  have hB := va_cnB (R := mQ M) (rm := mQ M') (own := (mY M).cls) (index := idx) as.length hts l1.in rfl rfl rfl (K.2.1 _ l2) (hts _ l1.2.1) ⟨l1.2.2.1, l1.2.2.2, l6⟩ ⟨f1, f2⟩
  rw [l5] at hB
  refine aw_back (M' := M') C K o1 (fun v hv => o2 v (List.mem_append_right _ (List.mem_cons_of_mem _ hv))) L S B c1 c2 ⟨f3, f4⟩ (va_runIN (As := as.map (cv G)) (rest := st'.map (cv G)) (b := adr G a) ⟨C.1, C.2.1, C.2.2.2.1, C.2.2.2.2.1, hts⟩ k ⟨hB, l4, hts _ l3⟩ ⟨PP.blind, hpp⟩ rfl (by simp) L.1 ?_ (lv_room (by rw [catS_eq]; exact hc)) hd ⟨by omega, by omega⟩)
  show ((as.reverse ++ vR a :: st').map (cv G)) = _
  rw [List.map_append, List.map_reverse, List.map_cons, e0]
/-- Object's constructor -/
theorem aw_obj {idx : Nat} {a : Int} (hl : Cond.methodLink (mY M).cls idx Lib.objectInit ∈ gw ∧ Cond.instanceMethod Lib.objectInit ∈ gw ∧ Cond.code Lib.objectInit ⟨#[0xb1]⟩ 1 none ∈ gw) (hd : decode (mC M) pc = .ok (.invokespecial idx, 3)) (ha : a ≠ 0) (hr : 1 ≤ (mQ M).frames ∧ catS st + 12 ≤ (mQ M).locals) (k : AZ G M b (pc + 3) ls st h Z) : AZ G M b pc ls (vR a :: st) h Z := by
  intro p e s m args below meth c H locs cells slots la C K R o1 o2 L S B c1 c2
  have hts := C.2.2.2.2.2.1
  rw [List.map_cons, cv_ref ha]
  refine W.objInit C.1 C.2.1 C.2.2.2.2.1 (hts _ hl.1) (hts _ hl.2.1) (hts _ hl.2.2) rfl (L.1.trans C.2.2.2.1.symm) rfl hd hr.1 ?_ (k p e s m args below meth c H locs cells slots la C K R o1 (i_tail o2) L S B c1 c2)
  rw [catS_eq]
  show 2 * 0 + _ + 12 ≤ _
  omega
end AR7
end
section
/-! the methods, with their rooms; their words among the good ones; links -/
theorem gw_at {w : Cond} (i : Nat) (h : lw_tbl[i]? = some w) (hg : goodWord w = true) : w ∈ gw := List.mem_filter.mpr ⟨List.mem_of_getElem? h, hg⟩
theorem nest_at {w : Cond} (hg : (match w with | .methodLinkNest .. => true | _ => false) = true) (i : Nat) (h : lw_tbl[i]? = some w) : w ∈ nestW := List.mem_filter.mpr ⟨List.mem_of_getElem? h, hg⟩
abbrev mm_J0_coder_7d493 : MT := (yJ0_coder_7d493, cJ0_coder_7d493, 1, (some .byte), { frames := 0, cells := 0, slots := 0, locals := 0 })
theorem ok_J0_coder_7d493 : okM mm_J0_coder_7d493 := ⟨gw_at 476 (by decide +kernel) rfl, gw_at 69 (by decide +kernel) rfl, by decide +kernel, by decide +kernel⟩
abbrev mm_J0_isLatin1_aae02 : MT := (yJ0_isLatin1_aae02, cJ0_isLatin1_aae02, 1, (some .boolean), { frames := 0, cells := 0, slots := 0, locals := 0 })
theorem ok_J0_isLatin1_aae02 : okM mm_J0_isLatin1_aae02 := ⟨gw_at 486 (by decide +kernel) rfl, gw_at 69 (by decide +kernel) rfl, by decide +kernel, by decide +kernel⟩
abbrev mm_J2_length_9d52b : MT := (yJ2_length_9d52b, cJ2_length_9d52b, 1, (some .int), { frames := 0, cells := 0, slots := 0, locals := 0 })
theorem ok_J2_length_9d52b : okM mm_J2_length_9d52b := ⟨gw_at 506 (by decide +kernel) rfl, gw_at 72 (by decide +kernel) rfl, by decide +kernel, by decide +kernel⟩
abbrev mm_J3_checkIndex_8e157 : MT := (yJ3_checkIndex_8e157, cJ3_checkIndex_8e157, 3, (some .int), { frames := 0, cells := 0, slots := 0, locals := 0 })
theorem ok_J3_checkIndex_8e157 : okM mm_J3_checkIndex_8e157 := ⟨gw_at 497 (by decide +kernel) rfl, gw_at 71 (by decide +kernel) rfl, by decide +kernel, by decide +kernel⟩
abbrev mm_X0_remember : MT := (yX0_remember, cX0_remember, 4, none, { frames := 0, cells := 0, slots := 0, locals := 0 })
theorem ok_X0_remember : okM mm_X0_remember := ⟨gw_at 835 (by decide +kernel) rfl, gw_at 66 (by decide +kernel) rfl, by decide +kernel, by decide +kernel⟩
abbrev mm_X0_toldOf : MT := (yX0_toldOf, cX0_toldOf, 3, (some .int), { frames := 0, cells := 0, slots := 0, locals := 0 })
theorem ok_X0_toldOf : okM mm_X0_toldOf := ⟨gw_at 839 (by decide +kernel) rfl, gw_at 66 (by decide +kernel) rfl, by decide +kernel, by decide +kernel⟩
abbrev mm_X10_allCells : MT := (yX10_allCells, cX10_allCells, 3, (some .int), { frames := 0, cells := 0, slots := 0, locals := 0 })
theorem ok_X10_allCells : okM mm_X10_allCells := ⟨gw_at 1288 (by decide +kernel) rfl, gw_at 68 (by decide +kernel) rfl, by decide +kernel, by decide +kernel⟩
abbrev mm_X10_changesMore : MT := (yX10_changesMore, cX10_changesMore, 4, none, { frames := 0, cells := 0, slots := 0, locals := 0 })
theorem ok_X10_changesMore : okM mm_X10_changesMore := ⟨gw_at 1194 (by decide +kernel) rfl, gw_at 68 (by decide +kernel) rfl, by decide +kernel, by decide +kernel⟩
abbrev mm_X10_copyPacket : MT := (yX10_copyPacket, cX10_copyPacket, 4, none, { frames := 0, cells := 0, slots := 0, locals := 0 })
theorem ok_X10_copyPacket : okM mm_X10_copyPacket := ⟨gw_at 1088 (by decide +kernel) rfl, gw_at 68 (by decide +kernel) rfl, by decide +kernel, by decide +kernel⟩
abbrev mm_X10_endAnew : MT := (yX10_endAnew, cX10_endAnew, 3, none, { frames := 0, cells := 0, slots := 0, locals := 0 })
theorem ok_X10_endAnew : okM mm_X10_endAnew := ⟨gw_at 1072 (by decide +kernel) rfl, gw_at 68 (by decide +kernel) rfl, by decide +kernel, by decide +kernel⟩
abbrev mm_X10_erase : MT := (yX10_erase, cX10_erase, 2, (some .int), { frames := 0, cells := 0, slots := 0, locals := 0 })
theorem ok_X10_erase : okM mm_X10_erase := ⟨gw_at 1022 (by decide +kernel) rfl, gw_at 68 (by decide +kernel) rfl, by decide +kernel, by decide +kernel⟩
abbrev mm_X10_firstPacket : MT := (yX10_firstPacket, cX10_firstPacket, 4, (some .int), { frames := 0, cells := 0, slots := 0, locals := 0 })
theorem ok_X10_firstPacket : okM mm_X10_firstPacket := ⟨gw_at 1174 (by decide +kernel) rfl, gw_at 68 (by decide +kernel) rfl, by decide +kernel, by decide +kernel⟩
abbrev mm_X10_in : MT := (yX10_in, cX10_in, 6, (some .boolean), { frames := 0, cells := 0, slots := 0, locals := 0 })
theorem ok_X10_in : okM mm_X10_in := ⟨gw_at 1018 (by decide +kernel) rfl, gw_at 68 (by decide +kernel) rfl, by decide +kernel, by decide +kernel⟩
abbrev mm_X10_isOpen : MT := (yX10_isOpen, cX10_isOpen, 5, (some .boolean), { frames := 0, cells := 0, slots := 0, locals := 0 })
theorem ok_X10_isOpen : okM mm_X10_isOpen := ⟨gw_at 1218 (by decide +kernel) rfl, gw_at 68 (by decide +kernel) rfl, by decide +kernel, by decide +kernel⟩
abbrev mm_X10_isReady : MT := (yX10_isReady, cX10_isReady, 2, (some .boolean), { frames := 0, cells := 0, slots := 0, locals := 0 })
theorem ok_X10_isReady : okM mm_X10_isReady := ⟨gw_at 1084 (by decide +kernel) rfl, gw_at 68 (by decide +kernel) rfl, by decide +kernel, by decide +kernel⟩
abbrev mm_X10_keys : MT := (yX10_keys, cX10_keys, 5, none, { frames := 0, cells := 0, slots := 0, locals := 0 })
theorem ok_X10_keys : okM mm_X10_keys := ⟨gw_at 1076 (by decide +kernel) rfl, gw_at 68 (by decide +kernel) rfl, by decide +kernel, by decide +kernel⟩
abbrev mm_X10_keysOf : MT := (yX10_keysOf, cX10_keysOf, 4, (some .int), { frames := 0, cells := 0, slots := 0, locals := 0 })
theorem ok_X10_keysOf : okM mm_X10_keysOf := ⟨gw_at 1121 (by decide +kernel) rfl, gw_at 68 (by decide +kernel) rfl, by decide +kernel, by decide +kernel⟩
abbrev mm_X10_oldest : MT := (yX10_oldest, cX10_oldest, 2, (some .int), { frames := 0, cells := 0, slots := 0, locals := 0 })
theorem ok_X10_oldest : okM mm_X10_oldest := ⟨gw_at 1214 (by decide +kernel) rfl, gw_at 68 (by decide +kernel) rfl, by decide +kernel, by decide +kernel⟩
abbrev mm_X10_readyEnds : MT := (yX10_readyEnds, cX10_readyEnds, 3, (some .int), { frames := 0, cells := 0, slots := 0, locals := 0 })
theorem ok_X10_readyEnds : okM mm_X10_readyEnds := ⟨gw_at 1138 (by decide +kernel) rfl, gw_at 68 (by decide +kernel) rfl, by decide +kernel, by decide +kernel⟩
abbrev mm_X10_reasonOf : MT := (yX10_reasonOf, cX10_reasonOf, 5, (some .int), { frames := 0, cells := 0, slots := 0, locals := 0 })
theorem ok_X10_reasonOf : okM mm_X10_reasonOf := ⟨gw_at 1190 (by decide +kernel) rfl, gw_at 68 (by decide +kernel) rfl, by decide +kernel, by decide +kernel⟩
abbrev mm_X10_sends : MT := (yX10_sends, cX10_sends, 8, none, { frames := 0, cells := 0, slots := 0, locals := 0 })
theorem ok_X10_sends : okM mm_X10_sends := ⟨gw_at 1182 (by decide +kernel) rfl, gw_at 68 (by decide +kernel) rfl, by decide +kernel, by decide +kernel⟩
abbrev mm_X10_tells : MT := (yX10_tells, cX10_tells, 8, none, { frames := 0, cells := 0, slots := 0, locals := 0 })
theorem ok_X10_tells : okM mm_X10_tells := ⟨gw_at 1157 (by decide +kernel) rfl, gw_at 68 (by decide +kernel) rfl, by decide +kernel, by decide +kernel⟩
abbrev mm_X10_wordHere : MT := (yX10_wordHere, cX10_wordHere, 4, (some .int), { frames := 0, cells := 0, slots := 0, locals := 0 })
theorem ok_X10_wordHere : okM mm_X10_wordHere := ⟨gw_at 1052 (by decide +kernel) rfl, gw_at 68 (by decide +kernel) rfl, by decide +kernel, by decide +kernel⟩
abbrev mm_X1_isAwaited : MT := (yX1_isAwaited, cX1_isAwaited, 3, (some .boolean), { frames := 0, cells := 0, slots := 0, locals := 0 })
theorem ok_X1_isAwaited : okM mm_X1_isAwaited := ⟨gw_at 787 (by decide +kernel) rfl, gw_at 65 (by decide +kernel) rfl, by decide +kernel, by decide +kernel⟩
abbrev mm_X1_postReceive : MT := (yX1_postReceive, cX1_postReceive, 2, (some .int), { frames := 0, cells := 0, slots := 0, locals := 0 })
theorem ok_X1_postReceive : okM mm_X1_postReceive := ⟨gw_at 750 (by decide +kernel) rfl, gw_at 65 (by decide +kernel) rfl, by decide +kernel, by decide +kernel⟩
abbrev mm_X1_restart : MT := (yX1_restart, cX1_restart, 2, none, { frames := 0, cells := 0, slots := 0, locals := 0 })
theorem ok_X1_restart : okM mm_X1_restart := ⟨gw_at 553 (by decide +kernel) rfl, gw_at 65 (by decide +kernel) rfl, by decide +kernel, by decide +kernel⟩
abbrev mm_X1_rightFor : MT := (yX1_rightFor, cX1_rightFor, 1, (some .int), { frames := 0, cells := 0, slots := 0, locals := 0 })
theorem ok_X1_rightFor : okM mm_X1_rightFor := ⟨gw_at 831 (by decide +kernel) rfl, gw_at 65 (by decide +kernel) rfl, by decide +kernel, by decide +kernel⟩
abbrev mm_X1_setAim : MT := (yX1_setAim, cX1_setAim, 3, none, { frames := 0, cells := 0, slots := 0, locals := 0 })
theorem ok_X1_setAim : okM mm_X1_setAim := ⟨gw_at 557 (by decide +kernel) rfl, gw_at 65 (by decide +kernel) rfl, by decide +kernel, by decide +kernel⟩
abbrev mm_X2_cellSum : MT := (yX2_cellSum, cX2_cellSum, 3, (some .int), { frames := 0, cells := 0, slots := 0, locals := 0 })
theorem ok_X2_cellSum : okM mm_X2_cellSum := ⟨gw_at 885 (by decide +kernel) rfl, gw_at 63 (by decide +kernel) rfl, by decide +kernel, by decide +kernel⟩
abbrev mm_X2_keyCount : MT := (yX2_keyCount, cX2_keyCount, 3, (some .int), { frames := 0, cells := 0, slots := 0, locals := 0 })
theorem ok_X2_keyCount : okM mm_X2_keyCount := ⟨gw_at 621 (by decide +kernel) rfl, gw_at 63 (by decide +kernel) rfl, by decide +kernel, by decide +kernel⟩
abbrev mm_X2_pullNotice : MT := (yX2_pullNotice, cX2_pullNotice, 2, (some (.object "RemoteCells$Notice")), { frames := 0, cells := 0, slots := 0, locals := 0 })
theorem ok_X2_pullNotice : okM mm_X2_pullNotice := ⟨gw_at 860 (by decide +kernel) rfl, gw_at 63 (by decide +kernel) rfl, by decide +kernel, by decide +kernel⟩
abbrev mm_X2_pushNotice : MT := (yX2_pushNotice, cX2_pushNotice, 2, none, { frames := 0, cells := 0, slots := 0, locals := 0 })
theorem ok_X2_pushNotice : okM mm_X2_pushNotice := ⟨gw_at 690 (by decide +kernel) rfl, gw_at 63 (by decide +kernel) rfl, by decide +kernel, by decide +kernel⟩
abbrev mm_X2_reset : MT := (yX2_reset, cX2_reset, 2, none, { frames := 0, cells := 0, slots := 0, locals := 0 })
theorem ok_X2_reset : okM mm_X2_reset := ⟨gw_at 545 (by decide +kernel) rfl, gw_at 63 (by decide +kernel) rfl, by decide +kernel, by decide +kernel⟩
abbrev mm_X2_setKey : MT := (yX2_setKey, cX2_setKey, 6, none, { frames := 0, cells := 0, slots := 0, locals := 0 })
theorem ok_X2_setKey : okM mm_X2_setKey := ⟨gw_at 565 (by decide +kernel) rfl, gw_at 63 (by decide +kernel) rfl, by decide +kernel, by decide +kernel⟩
abbrev mm_X5_beAnswer : MT := (yX5_beAnswer, cX5_beAnswer, 4, none, { frames := 0, cells := 0, slots := 0, locals := 0 })
theorem ok_X5_beAnswer : okM mm_X5_beAnswer := ⟨gw_at 816 (by decide +kernel) rfl, gw_at 61 (by decide +kernel) rfl, by decide +kernel, by decide +kernel⟩
abbrev mm_X5_beCopyOf : MT := (yX5_beCopyOf, cX5_beCopyOf, 2, none, { frames := 0, cells := 0, slots := 0, locals := 0 })
theorem ok_X5_beCopyOf : okM mm_X5_beCopyOf := ⟨gw_at 766 (by decide +kernel) rfl, gw_at 61 (by decide +kernel) rfl, by decide +kernel, by decide +kernel⟩
abbrev mm_X5_beRequest : MT := (yX5_beRequest, cX5_beRequest, 2, none, { frames := 0, cells := 0, slots := 0, locals := 0 })
theorem ok_X5_beRequest : okM mm_X5_beRequest := ⟨gw_at 726 (by decide +kernel) rfl, gw_at 61 (by decide +kernel) rfl, by decide +kernel, by decide +kernel⟩
abbrev mm_X6_append : MT := (yX6_append, cX6_append, 2, none, { frames := 0, cells := 0, slots := 0, locals := 0 })
theorem ok_X6_append : okM mm_X6_append := ⟨gw_at 426 (by decide +kernel) rfl, gw_at 62 (by decide +kernel) rfl, by decide +kernel, by decide +kernel⟩
abbrev mm_X6_isDigit : MT := (yX6_isDigit, cX6_isDigit, 1, (some .boolean), { frames := 0, cells := 0, slots := 0, locals := 0 })
theorem ok_X6_isDigit : okM mm_X6_isDigit := ⟨gw_at 456 (by decide +kernel) rfl, gw_at 62 (by decide +kernel) rfl, by decide +kernel, by decide +kernel⟩
abbrev mm_X6_isSmall : MT := (yX6_isSmall, cX6_isSmall, 1, (some .boolean), { frames := 0, cells := 0, slots := 0, locals := 0 })
theorem ok_X6_isSmall : okM mm_X6_isSmall := ⟨gw_at 453 (by decide +kernel) rfl, gw_at 62 (by decide +kernel) rfl, by decide +kernel, by decide +kernel⟩
abbrev mm_X6_rewind : MT := (yX6_rewind, cX6_rewind, 1, none, { frames := 0, cells := 0, slots := 0, locals := 0 })
theorem ok_X6_rewind : okM mm_X6_rewind := ⟨gw_at 442 (by decide +kernel) rfl, gw_at 62 (by decide +kernel) rfl, by decide +kernel, by decide +kernel⟩
abbrev mm_X7_firstPlace : MT := (yX7_firstPlace, cX7_firstPlace, 3, (some .int), { frames := 0, cells := 0, slots := 0, locals := 0 })
theorem ok_X7_firstPlace : okM mm_X7_firstPlace := ⟨gw_at 762 (by decide +kernel) rfl, gw_at 60 (by decide +kernel) rfl, by decide +kernel, by decide +kernel⟩
abbrev mm_X7_passTimeTo : MT := (yX7_passTimeTo, cX7_passTimeTo, 2, none, { frames := 0, cells := 0, slots := 0, locals := 0 })
theorem ok_X7_passTimeTo : okM mm_X7_passTimeTo := ⟨gw_at 770 (by decide +kernel) rfl, gw_at 60 (by decide +kernel) rfl, by decide +kernel, by decide +kernel⟩
abbrev mm_X7_removeAt : MT := (yX7_removeAt, cX7_removeAt, 4, none, { frames := 0, cells := 0, slots := 0, locals := 0 })
theorem ok_X7_removeAt : okM mm_X7_removeAt := ⟨gw_at 592 (by decide +kernel) rfl, gw_at 60 (by decide +kernel) rfl, by decide +kernel, by decide +kernel⟩
abbrev mm_X7_reset : MT := (yX7_reset, cX7_reset, 2, none, { frames := 0, cells := 0, slots := 0, locals := 0 })
theorem ok_X7_reset : okM mm_X7_reset := ⟨gw_at 561 (by decide +kernel) rfl, gw_at 60 (by decide +kernel) rfl, by decide +kernel, by decide +kernel⟩
abbrev mm_X9_erase : MT := (yX9_erase, cX9_erase, 2, (some .int), { frames := 0, cells := 0, slots := 0, locals := 0 })
theorem ok_X9_erase : okM mm_X9_erase := ⟨gw_at 430 (by decide +kernel) rfl, gw_at 59 (by decide +kernel) rfl, by decide +kernel, by decide +kernel⟩
abbrev mm_X9_firstEndOf : MT := (yX9_firstEndOf, cX9_firstEndOf, 1, (some .int), { frames := 0, cells := 0, slots := 0, locals := 0 })
theorem ok_X9_firstEndOf : okM mm_X9_firstEndOf := ⟨gw_at 573 (by decide +kernel) rfl, gw_at 59 (by decide +kernel) rfl, by decide +kernel, by decide +kernel⟩
abbrev mm_X9_isFetch : MT := (yX9_isFetch, cX9_isFetch, 1, (some .boolean), { frames := 0, cells := 0, slots := 0, locals := 0 })
theorem ok_X9_isFetch : okM mm_X9_isFetch := ⟨gw_at 709 (by decide +kernel) rfl, gw_at 59 (by decide +kernel) rfl, by decide +kernel, by decide +kernel⟩
abbrev mm_X9_isOutside : MT := (yX9_isOutside, cX9_isOutside, 3, (some .boolean), { frames := 0, cells := 0, slots := 0, locals := 0 })
theorem ok_X9_isOutside : okM mm_X9_isOutside := ⟨gw_at 422 (by decide +kernel) rfl, gw_at 59 (by decide +kernel) rfl, by decide +kernel, by decide +kernel⟩
abbrev mm_X9_lineOf : MT := (yX9_lineOf, cX9_lineOf, 1, (some .int), { frames := 0, cells := 0, slots := 0, locals := 0 })
theorem ok_X9_lineOf : okM mm_X9_lineOf := ⟨gw_at 588 (by decide +kernel) rfl, gw_at 59 (by decide +kernel) rfl, by decide +kernel, by decide +kernel⟩
abbrev mm_X9_otherEnd : MT := (yX9_otherEnd, cX9_otherEnd, 1, (some .int), { frames := 0, cells := 0, slots := 0, locals := 0 })
theorem ok_X9_otherEnd : okM mm_X9_otherEnd := ⟨gw_at 576 (by decide +kernel) rfl, gw_at 59 (by decide +kernel) rfl, by decide +kernel, by decide +kernel⟩
abbrev mm_X9_readyEnds : MT := (yX9_readyEnds, cX9_readyEnds, 3, (some .int), { frames := 0, cells := 0, slots := 0, locals := 0 })
theorem ok_X9_readyEnds : okM mm_X9_readyEnds := ⟨gw_at 640 (by decide +kernel) rfl, gw_at 59 (by decide +kernel) rfl, by decide +kernel, by decide +kernel⟩
abbrev mm_J0_checkIndex_df160 : MT := (yJ0_checkIndex_df160, cJ0_checkIndex_df160, 2, none, { frames := 1, cells := 0, slots := 0, locals := 22 })
theorem ok_J0_checkIndex_df160 : okM mm_J0_checkIndex_df160 := ⟨gw_at 492 (by decide +kernel) rfl, gw_at 69 (by decide +kernel) rfl, by decide +kernel, by decide +kernel⟩
abbrev mm_J0_length_8abf5 : MT := (yJ0_length_8abf5, cJ0_length_8abf5, 1, (some .int), { frames := 1, cells := 0, slots := 0, locals := 20 })
theorem ok_J0_length_8abf5 : okM mm_J0_length_8abf5 := ⟨gw_at 472 (by decide +kernel) rfl, gw_at 69 (by decide +kernel) rfl, by decide +kernel, by decide +kernel⟩
abbrev mm_J2_getChar_3b067 : MT := (yJ2_getChar_3b067, cJ2_getChar_3b067, 2, (some .char), { frames := 1, cells := 0, slots := 0, locals := 20 })
theorem ok_J2_getChar_3b067 : okM mm_J2_getChar_3b067 := ⟨gw_at 510 (by decide +kernel) rfl, gw_at 72 (by decide +kernel) rfl, by decide +kernel, by decide +kernel⟩
abbrev mm_X0_init : MT := (yX0_init, cX0_init, 1, none, { frames := 1, cells := 2, slots := 4, locals := 20 })
theorem ok_X0_init : okM mm_X0_init := ⟨gw_at 277 (by decide +kernel) rfl, gw_at 66 (by decide +kernel) rfl, by decide +kernel, by decide +kernel⟩
abbrev mm_X10_allAnew : MT := (yX10_allAnew, cX10_allAnew, 2, none, { frames := 1, cells := 0, slots := 0, locals := 22 })
theorem ok_X10_allAnew : okM mm_X10_allAnew := ⟨gw_at 1068 (by decide +kernel) rfl, gw_at 68 (by decide +kernel) rfl, by decide +kernel, by decide +kernel⟩
abbrev mm_X10_count : MT := (yX10_count, cX10_count, 2, (some .int), { frames := 1, cells := 0, slots := 0, locals := 22 })
theorem ok_X10_count : okM mm_X10_count := ⟨gw_at 1284 (by decide +kernel) rfl, gw_at 68 (by decide +kernel) rfl, by decide +kernel, by decide +kernel⟩
abbrev mm_X10_init : MT := (yX10_init, cX10_init, 1, none, { frames := 1, cells := 28, slots := 6754, locals := 20 })
theorem ok_X10_init : okM mm_X10_init := ⟨gw_at 890 (by decide +kernel) rfl, gw_at 68 (by decide +kernel) rfl, by decide +kernel, by decide +kernel⟩
abbrev mm_X10_isCell : MT := (yX10_isCell, cX10_isCell, 1, (some .boolean), { frames := 1, cells := 0, slots := 0, locals := 25 })
theorem ok_X10_isCell : okM mm_X10_isCell := ⟨gw_at 1102 (by decide +kernel) rfl, gw_at 68 (by decide +kernel) rfl, by decide +kernel, by decide +kernel⟩
abbrev mm_X10_isDigit : MT := (yX10_isDigit, cX10_isDigit, 1, (some .boolean), { frames := 1, cells := 0, slots := 0, locals := 25 })
theorem ok_X10_isDigit : okM mm_X10_isDigit := ⟨gw_at 1042 (by decide +kernel) rfl, gw_at 68 (by decide +kernel) rfl, by decide +kernel, by decide +kernel⟩
abbrev mm_X10_isEnd : MT := (yX10_isEnd, cX10_isEnd, 1, (some .boolean), { frames := 1, cells := 0, slots := 0, locals := 25 })
theorem ok_X10_isEnd : okM mm_X10_isEnd := ⟨gw_at 1145 (by decide +kernel) rfl, gw_at 68 (by decide +kernel) rfl, by decide +kernel, by decide +kernel⟩
abbrev mm_X10_isHost : MT := (yX10_isHost, cX10_isHost, 1, (some .boolean), { frames := 1, cells := 0, slots := 0, locals := 25 })
theorem ok_X10_isHost : okM mm_X10_isHost := ⟨gw_at 1099 (by decide +kernel) rfl, gw_at 68 (by decide +kernel) rfl, by decide +kernel, by decide +kernel⟩
abbrev mm_X10_isNumber : MT := (yX10_isNumber, cX10_isNumber, 1, (some .boolean), { frames := 1, cells := 0, slots := 0, locals := 25 })
theorem ok_X10_isNumber : okM mm_X10_isNumber := ⟨gw_at 1110 (by decide +kernel) rfl, gw_at 68 (by decide +kernel) rfl, by decide +kernel, by decide +kernel⟩
abbrev mm_X10_isSmall : MT := (yX10_isSmall, cX10_isSmall, 1, (some .boolean), { frames := 1, cells := 0, slots := 0, locals := 25 })
theorem ok_X10_isSmall : okM mm_X10_isSmall := ⟨gw_at 1037 (by decide +kernel) rfl, gw_at 68 (by decide +kernel) rfl, by decide +kernel, by decide +kernel⟩
abbrev mm_X10_joins : MT := (yX10_joins, cX10_joins, 4, none, { frames := 1, cells := 0, slots := 0, locals := 23 })
theorem ok_X10_joins : okM mm_X10_joins := ⟨gw_at 1080 (by decide +kernel) rfl, gw_at 68 (by decide +kernel) rfl, by decide +kernel, by decide +kernel⟩
abbrev mm_X10_packet : MT := (yX10_packet, cX10_packet, 3, (some .int), { frames := 1, cells := 0, slots := 0, locals := 25 })
theorem ok_X10_packet : okM mm_X10_packet := ⟨gw_at 1280 (by decide +kernel) rfl, gw_at 68 (by decide +kernel) rfl, by decide +kernel, by decide +kernel⟩
abbrev mm_X10_passes : MT := (yX10_passes, cX10_passes, 4, none, { frames := 1, cells := 0, slots := 0, locals := 27 })
theorem ok_X10_passes : okM mm_X10_passes := ⟨gw_at 1198 (by decide +kernel) rfl, gw_at 68 (by decide +kernel) rfl, by decide +kernel, by decide +kernel⟩
abbrev mm_X10_sendsWork : MT := (yX10_sendsWork, cX10_sendsWork, 4, none, { frames := 1, cells := 0, slots := 0, locals := 27 })
theorem ok_X10_sendsWork : okM mm_X10_sendsWork := ⟨gw_at 1226 (by decide +kernel) rfl, gw_at 68 (by decide +kernel) rfl, by decide +kernel, by decide +kernel⟩
abbrev mm_X10_taken : MT := (yX10_taken, cX10_taken, 2, (some .int), { frames := 1, cells := 0, slots := 0, locals := 25 })
theorem ok_X10_taken : okM mm_X10_taken := ⟨gw_at 1266 (by decide +kernel) rfl, gw_at 68 (by decide +kernel) rfl, by decide +kernel, by decide +kernel⟩
abbrev mm_X10_tellsAgain : MT := (yX10_tellsAgain, cX10_tellsAgain, 4, none, { frames := 1, cells := 0, slots := 0, locals := 27 })
theorem ok_X10_tellsAgain : okM mm_X10_tellsAgain := ⟨gw_at 1206 (by decide +kernel) rfl, gw_at 68 (by decide +kernel) rfl, by decide +kernel, by decide +kernel⟩
abbrev mm_X10_tellsOldest : MT := (yX10_tellsOldest, cX10_tellsOldest, 6, none, { frames := 1, cells := 0, slots := 0, locals := 27 })
theorem ok_X10_tellsOldest : okM mm_X10_tellsOldest := ⟨gw_at 1153 (by decide +kernel) rfl, gw_at 68 (by decide +kernel) rfl, by decide +kernel, by decide +kernel⟩
abbrev mm_X10_write : MT := (yX10_write, cX10_write, 2, (some .int), { frames := 1, cells := 0, slots := 0, locals := 25 })
theorem ok_X10_write : okM mm_X10_write := ⟨gw_at 1014 (by decide +kernel) rfl, gw_at 68 (by decide +kernel) rfl, by decide +kernel, by decide +kernel⟩
abbrev mm_X1_openFetches : MT := (yX1_openFetches, cX1_openFetches, 3, (some .int), { frames := 1, cells := 0, slots := 0, locals := 20 })
theorem ok_X1_openFetches : okM mm_X1_openFetches := ⟨gw_at 713 (by decide +kernel) rfl, gw_at 65 (by decide +kernel) rfl, by decide +kernel, by decide +kernel⟩
abbrev mm_X1_reasonAgainst : MT := (yX1_reasonAgainst, cX1_reasonAgainst, 3, (some .int), { frames := 1, cells := 0, slots := 0, locals := 20 })
theorem ok_X1_reasonAgainst : okM mm_X1_reasonAgainst := ⟨gw_at 828 (by decide +kernel) rfl, gw_at 65 (by decide +kernel) rfl, by decide +kernel, by decide +kernel⟩
abbrev mm_X1_reset : MT := (yX1_reset, cX1_reset, 1, none, { frames := 1, cells := 0, slots := 0, locals := 22 })
theorem ok_X1_reset : okM mm_X1_reset := ⟨gw_at 549 (by decide +kernel) rfl, gw_at 65 (by decide +kernel) rfl, by decide +kernel, by decide +kernel⟩
abbrev mm_X3_init : MT := (yX3_init, cX3_init, 1, none, { frames := 1, cells := 0, slots := 0, locals := 20 })
theorem ok_X3_init : okM mm_X3_init := ⟨gw_at 213 (by decide +kernel) rfl, gw_at 64 (by decide +kernel) rfl, by decide +kernel, by decide +kernel⟩
abbrev mm_X4_init : MT := (yX4_init, cX4_init, 6, none, { frames := 1, cells := 0, slots := 0, locals := 20 })
theorem ok_X4_init : okM mm_X4_init := ⟨gw_at 660 (by decide +kernel) rfl, gw_at 73 (by decide +kernel) rfl, by decide +kernel, by decide +kernel⟩
abbrev mm_X5_init : MT := (yX5_init, cX5_init, 1, none, { frames := 1, cells := 0, slots := 0, locals := 20 })
theorem ok_X5_init : okM mm_X5_init := ⟨gw_at 97 (by decide +kernel) rfl, gw_at 61 (by decide +kernel) rfl, by decide +kernel, by decide +kernel⟩
abbrev mm_X6_init : MT := (yX6_init, cX6_init, 1, none, { frames := 1, cells := 2, slots := 205, locals := 20 })
theorem ok_X6_init : okM mm_X6_init := ⟨gw_at 174 (by decide +kernel) rfl, gw_at 62 (by decide +kernel) rfl, by decide +kernel, by decide +kernel⟩
abbrev mm_X6_isAlike : MT := (yX6_isAlike, cX6_isAlike, 2, (some .boolean), { frames := 1, cells := 0, slots := 0, locals := 20 })
theorem ok_X6_isAlike : okM mm_X6_isAlike := ⟨gw_at 459 (by decide +kernel) rfl, gw_at 62 (by decide +kernel) rfl, by decide +kernel, by decide +kernel⟩
abbrev mm_X7_clearLine : MT := (yX7_clearLine, cX7_clearLine, 3, none, { frames := 1, cells := 0, slots := 0, locals := 23 })
theorem ok_X7_clearLine : okM mm_X7_clearLine := ⟨gw_at 585 (by decide +kernel) rfl, gw_at 60 (by decide +kernel) rfl, by decide +kernel, by decide +kernel⟩
abbrev mm_X7_placeFor : MT := (yX7_placeFor, cX7_placeFor, 3, (some (.object "RemoteCells$Packet")), { frames := 1, cells := 0, slots := 0, locals := 20 })
theorem ok_X7_placeFor : okM mm_X7_placeFor := ⟨gw_at 722 (by decide +kernel) rfl, gw_at 60 (by decide +kernel) rfl, by decide +kernel, by decide +kernel⟩
abbrev mm_X7_pullFirst : MT := (yX7_pullFirst, cX7_pullFirst, 2, (some (.object "RemoteCells$Packet")), { frames := 1, cells := 0, slots := 0, locals := 23 })
theorem ok_X7_pullFirst : okM mm_X7_pullFirst := ⟨gw_at 758 (by decide +kernel) rfl, gw_at 60 (by decide +kernel) rfl, by decide +kernel, by decide +kernel⟩
abbrev mm_X8_init : MT := (yX8_init, cX8_init, 1, none, { frames := 1, cells := 0, slots := 0, locals := 20 })
theorem ok_X8_init : okM mm_X8_init := ⟨gw_at 294 (by decide +kernel) rfl, gw_at 67 (by decide +kernel) rfl, by decide +kernel, by decide +kernel⟩
abbrev mm_X9_count : MT := (yX9_count, cX9_count, 2, (some .int), { frames := 1, cells := 0, slots := 0, locals := 22 })
theorem ok_X9_count : okM mm_X9_count := ⟨gw_at 881 (by decide +kernel) rfl, gw_at 59 (by decide +kernel) rfl, by decide +kernel, by decide +kernel⟩
abbrev mm_X9_hasReadyEnd : MT := (yX9_hasReadyEnd, cX9_hasReadyEnd, 2, (some .boolean), { frames := 1, cells := 0, slots := 0, locals := 20 })
theorem ok_X9_hasReadyEnd : okM mm_X9_hasReadyEnd := ⟨gw_at 570 (by decide +kernel) rfl, gw_at 59 (by decide +kernel) rfl, by decide +kernel, by decide +kernel⟩
abbrev mm_X9_isNoCell : MT := (yX9_isNoCell, cX9_isNoCell, 1, (some .boolean), { frames := 1, cells := 0, slots := 0, locals := 22 })
theorem ok_X9_isNoCell : okM mm_X9_isNoCell := ⟨gw_at 603 (by decide +kernel) rfl, gw_at 59 (by decide +kernel) rfl, by decide +kernel, by decide +kernel⟩
abbrev mm_X9_isNoEnd : MT := (yX9_isNoEnd, cX9_isNoEnd, 1, (some .boolean), { frames := 1, cells := 0, slots := 0, locals := 22 })
theorem ok_X9_isNoEnd : okM mm_X9_isNoEnd := ⟨gw_at 647 (by decide +kernel) rfl, gw_at 59 (by decide +kernel) rfl, by decide +kernel, by decide +kernel⟩
abbrev mm_X9_isNoHost : MT := (yX9_isNoHost, cX9_isNoHost, 1, (some .boolean), { frames := 1, cells := 0, slots := 0, locals := 22 })
theorem ok_X9_isNoHost : okM mm_X9_isNoHost := ⟨gw_at 600 (by decide +kernel) rfl, gw_at 59 (by decide +kernel) rfl, by decide +kernel, by decide +kernel⟩
abbrev mm_X9_isNoKey : MT := (yX9_isNoKey, cX9_isNoKey, 1, (some .boolean), { frames := 1, cells := 0, slots := 0, locals := 22 })
theorem ok_X9_isNoKey : okM mm_X9_isNoKey := ⟨gw_at 617 (by decide +kernel) rfl, gw_at 59 (by decide +kernel) rfl, by decide +kernel, by decide +kernel⟩
abbrev mm_X9_isNoLine : MT := (yX9_isNoLine, cX9_isNoLine, 1, (some .boolean), { frames := 1, cells := 0, slots := 0, locals := 22 })
theorem ok_X9_isNoLine : okM mm_X9_isNoLine := ⟨gw_at 636 (by decide +kernel) rfl, gw_at 59 (by decide +kernel) rfl, by decide +kernel, by decide +kernel⟩
abbrev mm_X9_isNoValue : MT := (yX9_isNoValue, cX9_isNoValue, 1, (some .boolean), { frames := 1, cells := 0, slots := 0, locals := 22 })
theorem ok_X9_isNoValue : okM mm_X9_isNoValue := ⟨gw_at 610 (by decide +kernel) rfl, gw_at 59 (by decide +kernel) rfl, by decide +kernel, by decide +kernel⟩
abbrev mm_X9_packet : MT := (yX9_packet, cX9_packet, 4, (some .int), { frames := 1, cells := 0, slots := 0, locals := 22 })
theorem ok_X9_packet : okM mm_X9_packet := ⟨gw_at 876 (by decide +kernel) rfl, gw_at 59 (by decide +kernel) rfl, by decide +kernel, by decide +kernel⟩
abbrev mm_X9_taken : MT := (yX9_taken, cX9_taken, 2, (some .int), { frames := 1, cells := 0, slots := 0, locals := 22 })
theorem ok_X9_taken : okM mm_X9_taken := ⟨gw_at 864 (by decide +kernel) rfl, gw_at 59 (by decide +kernel) rfl, by decide +kernel, by decide +kernel⟩
abbrev mm_X9_write : MT := (yX9_write, cX9_write, 2, (some .int), { frames := 1, cells := 0, slots := 0, locals := 22 })
theorem ok_X9_write : okM mm_X9_write := ⟨gw_at 419 (by decide +kernel) rfl, gw_at 59 (by decide +kernel) rfl, by decide +kernel, by decide +kernel⟩
abbrev mm_J1_charAt_3b067 : MT := (yJ1_charAt_3b067, cJ1_charAt_3b067, 2, (some .char), { frames := 2, cells := 0, slots := 0, locals := 43 })
theorem ok_J1_charAt_3b067 : okM mm_J1_charAt_3b067 := ⟨gw_at 489 (by decide +kernel) rfl, gw_at 70 (by decide +kernel) rfl, by decide +kernel, by decide +kernel⟩
abbrev mm_J2_checkIndex_2214a : MT := (yJ2_checkIndex_2214a, cJ2_checkIndex_2214a, 2, none, { frames := 2, cells := 0, slots := 0, locals := 43 })
theorem ok_J2_checkIndex_2214a : okM mm_J2_checkIndex_2214a := ⟨gw_at 503 (by decide +kernel) rfl, gw_at 72 (by decide +kernel) rfl, by decide +kernel, by decide +kernel⟩
abbrev mm_X10_aim : MT := (yX10_aim, cX10_aim, 5, (some .int), { frames := 2, cells := 0, slots := 0, locals := 45 })
theorem ok_X10_aim : okM mm_X10_aim := ⟨gw_at 1166 (by decide +kernel) rfl, gw_at 68 (by decide +kernel) rfl, by decide +kernel, by decide +kernel⟩
abbrev mm_X10_breaks : MT := (yX10_breaks, cX10_breaks, 3, none, { frames := 2, cells := 0, slots := 0, locals := 52 })
theorem ok_X10_breaks : okM mm_X10_breaks := ⟨gw_at 1149 (by decide +kernel) rfl, gw_at 68 (by decide +kernel) rfl, by decide +kernel, by decide +kernel⟩
abbrev mm_X10_cell : MT := (yX10_cell, cX10_cell, 3, (some .int), { frames := 2, cells := 0, slots := 0, locals := 45 })
theorem ok_X10_cell : okM mm_X10_cell := ⟨gw_at 1096 (by decide +kernel) rfl, gw_at 68 (by decide +kernel) rfl, by decide +kernel, by decide +kernel⟩
abbrev mm_X10_delay : MT := (yX10_delay, cX10_delay, 4, (some .int), { frames := 2, cells := 0, slots := 0, locals := 45 })
theorem ok_X10_delay : okM mm_X10_delay := ⟨gw_at 1161 (by decide +kernel) rfl, gw_at 68 (by decide +kernel) rfl, by decide +kernel, by decide +kernel⟩
abbrev mm_X10_does : MT := (yX10_does, cX10_does, 2, none, { frames := 2, cells := 0, slots := 0, locals := 46 })
theorem ok_X10_does : okM mm_X10_does := ⟨gw_at 1064 (by decide +kernel) rfl, gw_at 68 (by decide +kernel) rfl, by decide +kernel, by decide +kernel⟩
abbrev mm_X10_door : MT := (yX10_door, cX10_door, 5, (some .int), { frames := 2, cells := 0, slots := 0, locals := 45 })
theorem ok_X10_door : okM mm_X10_door := ⟨gw_at 1129 (by decide +kernel) rfl, gw_at 68 (by decide +kernel) rfl, by decide +kernel, by decide +kernel⟩
abbrev mm_X10_end : MT := (yX10_end, cX10_end, 3, (some .int), { frames := 2, cells := 0, slots := 0, locals := 45 })
theorem ok_X10_end : okM mm_X10_end := ⟨gw_at 1271 (by decide +kernel) rfl, gw_at 68 (by decide +kernel) rfl, by decide +kernel, by decide +kernel⟩
abbrev mm_X10_join : MT := (yX10_join, cX10_join, 2, (some .int), { frames := 2, cells := 0, slots := 0, locals := 46 })
theorem ok_X10_join : okM mm_X10_join := ⟨gw_at 1134 (by decide +kernel) rfl, gw_at 68 (by decide +kernel) rfl, by decide +kernel, by decide +kernel⟩
abbrev mm_X10_key : MT := (yX10_key, cX10_key, 6, (some .int), { frames := 2, cells := 0, slots := 0, locals := 45 })
theorem ok_X10_key : okM mm_X10_key := ⟨gw_at 1115 (by decide +kernel) rfl, gw_at 68 (by decide +kernel) rfl, by decide +kernel, by decide +kernel⟩
abbrev mm_X10_lock : MT := (yX10_lock, cX10_lock, 3, (some .int), { frames := 2, cells := 0, slots := 0, locals := 45 })
theorem ok_X10_lock : okM mm_X10_lock := ⟨gw_at 1125 (by decide +kernel) rfl, gw_at 68 (by decide +kernel) rfl, by decide +kernel, by decide +kernel⟩
abbrev mm_X10_next : MT := (yX10_next, cX10_next, 3, none, { frames := 2, cells := 0, slots := 0, locals := 45 })
theorem ok_X10_next : okM mm_X10_next := ⟨gw_at 1034 (by decide +kernel) rfl, gw_at 68 (by decide +kernel) rfl, by decide +kernel, by decide +kernel⟩
abbrev mm_X10_open : MT := (yX10_open, cX10_open, 4, (some .int), { frames := 2, cells := 0, slots := 0, locals := 45 })
theorem ok_X10_open : okM mm_X10_open := ⟨gw_at 1275 (by decide +kernel) rfl, gw_at 68 (by decide +kernel) rfl, by decide +kernel, by decide +kernel⟩
abbrev mm_X10_post : MT := (yX10_post, cX10_post, 8, (some .int), { frames := 2, cells := 0, slots := 0, locals := 50 })
theorem ok_X10_post : okM mm_X10_post := ⟨gw_at 1234 (by decide +kernel) rfl, gw_at 68 (by decide +kernel) rfl, by decide +kernel, by decide +kernel⟩
abbrev mm_X10_put : MT := (yX10_put, cX10_put, 5, (some .int), { frames := 2, cells := 0, slots := 0, locals := 45 })
theorem ok_X10_put : okM mm_X10_put := ⟨gw_at 1107 (by decide +kernel) rfl, gw_at 68 (by decide +kernel) rfl, by decide +kernel, by decide +kernel⟩
abbrev mm_X10_receive : MT := (yX10_receive, cX10_receive, 3, (some .int), { frames := 2, cells := 0, slots := 0, locals := 45 })
theorem ok_X10_receive : okM mm_X10_receive := ⟨gw_at 1254 (by decide +kernel) rfl, gw_at 68 (by decide +kernel) rfl, by decide +kernel, by decide +kernel⟩
abbrev mm_X10_receives : MT := (yX10_receives, cX10_receives, 5, none, { frames := 2, cells := 0, slots := 0, locals := 50 })
theorem ok_X10_receives : okM mm_X10_receives := ⟨gw_at 1202 (by decide +kernel) rfl, gw_at 68 (by decide +kernel) rfl, by decide +kernel, by decide +kernel⟩
abbrev mm_X10_take : MT := (yX10_take, cX10_take, 3, (some .int), { frames := 2, cells := 0, slots := 0, locals := 45 })
theorem ok_X10_take : okM mm_X10_take := ⟨gw_at 1262 (by decide +kernel) rfl, gw_at 68 (by decide +kernel) rfl, by decide +kernel, by decide +kernel⟩
abbrev mm_X1_answer : MT := (yX1_answer, cX1_answer, 5, none, { frames := 2, cells := 0, slots := 0, locals := 42 })
theorem ok_X1_answer : okM mm_X1_answer := ⟨gw_at 812 (by decide +kernel) rfl, gw_at 65 (by decide +kernel) rfl, by decide +kernel, by decide +kernel⟩
abbrev mm_X1_finishOldest : MT := (yX1_finishOldest, cX1_finishOldest, 5, none, { frames := 2, cells := 1, slots := 6, locals := 45 })
theorem ok_X1_finishOldest : okM mm_X1_finishOldest := ⟨gw_at 655 (by decide +kernel) rfl, gw_at 65 (by decide +kernel) rfl, by decide +kernel, by decide +kernel⟩
abbrev mm_X1_init : MT := (yX1_init, cX1_init, 5, none, { frames := 2, cells := 9, slots := 42, locals := 40 })
theorem ok_X1_init : okM mm_X1_init := ⟨gw_at 269 (by decide +kernel) rfl, gw_at 65 (by decide +kernel) rfl, by decide +kernel, by decide +kernel⟩
abbrev mm_X1_request : MT := (yX1_request, cX1_request, 3, none, { frames := 2, cells := 0, slots := 0, locals := 42 })
theorem ok_X1_request : okM mm_X1_request := ⟨gw_at 717 (by decide +kernel) rfl, gw_at 65 (by decide +kernel) rfl, by decide +kernel, by decide +kernel⟩
abbrev mm_X2_init : MT := (yX2_init, cX2_init, 2, none, { frames := 2, cells := 6, slots := 32, locals := 40 })
theorem ok_X2_init : okM mm_X2_init := ⟨gw_at 206 (by decide +kernel) rfl, gw_at 63 (by decide +kernel) rfl, by decide +kernel, by decide +kernel⟩
abbrev mm_X6_nextToken : MT := (yX6_nextToken, cX6_nextToken, 2, none, { frames := 2, cells := 0, slots := 0, locals := 41 })
theorem ok_X6_nextToken : okM mm_X6_nextToken := ⟨gw_at 450 (by decide +kernel) rfl, gw_at 62 (by decide +kernel) rfl, by decide +kernel, by decide +kernel⟩
abbrev mm_X7_init : MT := (yX7_init, cX7_init, 2, none, { frames := 2, cells := 27, slots := 276, locals := 40 })
theorem ok_X7_init : okM mm_X7_init := ⟨gw_at 90 (by decide +kernel) rfl, gw_at 60 (by decide +kernel) rfl, by decide +kernel, by decide +kernel⟩
abbrev mm_X7_repeat : MT := (yX7_repeat, cX7_repeat, 4, none, { frames := 2, cells := 0, slots := 0, locals := 42 })
theorem ok_X7_repeat : okM mm_X7_repeat := ⟨gw_at 774 (by decide +kernel) rfl, gw_at 60 (by decide +kernel) rfl, by decide +kernel, by decide +kernel⟩
abbrev mm_X9_aim : MT := (yX9_aim, cX9_aim, 5, (some .int), { frames := 2, cells := 0, slots := 0, locals := 42 })
theorem ok_X9_aim : okM mm_X9_aim := ⟨gw_at 698 (by decide +kernel) rfl, gw_at 59 (by decide +kernel) rfl, by decide +kernel, by decide +kernel⟩
abbrev mm_X9_cell : MT := (yX9_cell, cX9_cell, 3, (some .int), { frames := 2, cells := 0, slots := 0, locals := 42 })
theorem ok_X9_cell : okM mm_X9_cell := ⟨gw_at 597 (by decide +kernel) rfl, gw_at 59 (by decide +kernel) rfl, by decide +kernel, by decide +kernel⟩
abbrev mm_X9_delay : MT := (yX9_delay, cX9_delay, 4, (some .int), { frames := 2, cells := 0, slots := 0, locals := 42 })
theorem ok_X9_delay : okM mm_X9_delay := ⟨gw_at 694 (by decide +kernel) rfl, gw_at 59 (by decide +kernel) rfl, by decide +kernel, by decide +kernel⟩
abbrev mm_X9_door : MT := (yX9_door, cX9_door, 5, (some .int), { frames := 2, cells := 0, slots := 0, locals := 42 })
theorem ok_X9_door : okM mm_X9_door := ⟨gw_at 629 (by decide +kernel) rfl, gw_at 59 (by decide +kernel) rfl, by decide +kernel, by decide +kernel⟩
abbrev mm_X9_end : MT := (yX9_end, cX9_end, 4, (some .int), { frames := 2, cells := 0, slots := 0, locals := 42 })
theorem ok_X9_end : okM mm_X9_end := ⟨gw_at 868 (by decide +kernel) rfl, gw_at 59 (by decide +kernel) rfl, by decide +kernel, by decide +kernel⟩
abbrev mm_X9_joinLine : MT := (yX9_joinLine, cX9_joinLine, 2, none, { frames := 2, cells := 0, slots := 0, locals := 45 })
theorem ok_X9_joinLine : okM mm_X9_joinLine := ⟨gw_at 580 (by decide +kernel) rfl, gw_at 59 (by decide +kernel) rfl, by decide +kernel, by decide +kernel⟩
abbrev mm_X9_key : MT := (yX9_key, cX9_key, 6, (some .int), { frames := 2, cells := 0, slots := 0, locals := 42 })
theorem ok_X9_key : okM mm_X9_key := ⟨gw_at 614 (by decide +kernel) rfl, gw_at 59 (by decide +kernel) rfl, by decide +kernel, by decide +kernel⟩
abbrev mm_X9_lock : MT := (yX9_lock, cX9_lock, 3, (some .int), { frames := 2, cells := 0, slots := 0, locals := 42 })
theorem ok_X9_lock : okM mm_X9_lock := ⟨gw_at 625 (by decide +kernel) rfl, gw_at 59 (by decide +kernel) rfl, by decide +kernel, by decide +kernel⟩
abbrev mm_X9_open : MT := (yX9_open, cX9_open, 5, (some .int), { frames := 2, cells := 0, slots := 0, locals := 42 })
theorem ok_X9_open : okM mm_X9_open := ⟨gw_at 872 (by decide +kernel) rfl, gw_at 59 (by decide +kernel) rfl, by decide +kernel, by decide +kernel⟩
abbrev mm_X9_put : MT := (yX9_put, cX9_put, 5, (some .int), { frames := 2, cells := 0, slots := 0, locals := 42 })
theorem ok_X9_put : okM mm_X9_put := ⟨gw_at 607 (by decide +kernel) rfl, gw_at 59 (by decide +kernel) rfl, by decide +kernel, by decide +kernel⟩
abbrev mm_X9_receive : MT := (yX9_receive, cX9_receive, 3, (some .int), { frames := 2, cells := 0, slots := 0, locals := 42 })
theorem ok_X9_receive : okM mm_X9_receive := ⟨gw_at 746 (by decide +kernel) rfl, gw_at 59 (by decide +kernel) rfl, by decide +kernel, by decide +kernel⟩
abbrev mm_X9_resetAll : MT := (yX9_resetAll, cX9_resetAll, 2, none, { frames := 2, cells := 0, slots := 0, locals := 42 })
theorem ok_X9_resetAll : okM mm_X9_resetAll := ⟨gw_at 541 (by decide +kernel) rfl, gw_at 59 (by decide +kernel) rfl, by decide +kernel, by decide +kernel⟩
abbrev mm_X9_take : MT := (yX9_take, cX9_take, 3, (some .int), { frames := 2, cells := 0, slots := 0, locals := 42 })
theorem ok_X9_take : okM mm_X9_take := ⟨gw_at 856 (by decide +kernel) rfl, gw_at 59 (by decide +kernel) rfl, by decide +kernel, by decide +kernel⟩
abbrev mm_J2_charAt_3b067 : MT := (yJ2_charAt_3b067, cJ2_charAt_3b067, 2, (some .char), { frames := 3, cells := 0, slots := 0, locals := 64 })
theorem ok_J2_charAt_3b067 : okM mm_J2_charAt_3b067 := ⟨gw_at 500 (by decide +kernel) rfl, gw_at 72 (by decide +kernel) rfl, by decide +kernel, by decide +kernel⟩
abbrev mm_X10_accesses : MT := (yX10_accesses, cX10_accesses, 8, none, { frames := 3, cells := 0, slots := 0, locals := 74 })
theorem ok_X10_accesses : okM mm_X10_accesses := ⟨gw_at 1186 (by decide +kernel) rfl, gw_at 68 (by decide +kernel) rfl, by decide +kernel, by decide +kernel⟩
abbrev mm_X10_add : MT := (yX10_add, cX10_add, 4, (some .int), { frames := 3, cells := 0, slots := 0, locals := 77 })
theorem ok_X10_add : okM mm_X10_add := ⟨gw_at 1246 (by decide +kernel) rfl, gw_at 68 (by decide +kernel) rfl, by decide +kernel, by decide +kernel⟩
abbrev mm_X10_again : MT := (yX10_again, cX10_again, 3, none, { frames := 3, cells := 0, slots := 0, locals := 74 })
theorem ok_X10_again : okM mm_X10_again := ⟨gw_at 1222 (by decide +kernel) rfl, gw_at 68 (by decide +kernel) rfl, by decide +kernel, by decide +kernel⟩
abbrev mm_X10_read : MT := (yX10_read, cX10_read, 3, (some .int), { frames := 3, cells := 0, slots := 0, locals := 77 })
theorem ok_X10_read : okM mm_X10_read := ⟨gw_at 1242 (by decide +kernel) rfl, gw_at 68 (by decide +kernel) rfl, by decide +kernel, by decide +kernel⟩
abbrev mm_X10_reads : MT := (yX10_reads, cX10_reads, 6, (some .boolean), { frames := 3, cells := 0, slots := 0, locals := 67 })
theorem ok_X10_reads : okM mm_X10_reads := ⟨gw_at 1060 (by decide +kernel) rfl, gw_at 68 (by decide +kernel) rfl, by decide +kernel, by decide +kernel⟩
abbrev mm_X10_send : MT := (yX10_send, cX10_send, 3, (some .int), { frames := 3, cells := 0, slots := 0, locals := 77 })
theorem ok_X10_send : okM mm_X10_send := ⟨gw_at 1230 (by decide +kernel) rfl, gw_at 68 (by decide +kernel) rfl, by decide +kernel, by decide +kernel⟩
abbrev mm_X10_store : MT := (yX10_store, cX10_store, 3, (some .int), { frames := 3, cells := 0, slots := 0, locals := 77 })
theorem ok_X10_store : okM mm_X10_store := ⟨gw_at 1238 (by decide +kernel) rfl, gw_at 68 (by decide +kernel) rfl, by decide +kernel, by decide +kernel⟩
abbrev mm_X10_swap : MT := (yX10_swap, cX10_swap, 5, (some .int), { frames := 3, cells := 0, slots := 0, locals := 77 })
theorem ok_X10_swap : okM mm_X10_swap := ⟨gw_at 1250 (by decide +kernel) rfl, gw_at 68 (by decide +kernel) rfl, by decide +kernel, by decide +kernel⟩
abbrev mm_X10_tear : MT := (yX10_tear, cX10_tear, 3, (some .int), { frames := 3, cells := 0, slots := 0, locals := 74 })
theorem ok_X10_tear : okM mm_X10_tear := ⟨gw_at 1142 (by decide +kernel) rfl, gw_at 68 (by decide +kernel) rfl, by decide +kernel, by decide +kernel⟩
abbrev mm_X1_breakUp : MT := (yX1_breakUp, cX1_breakUp, 2, none, { frames := 3, cells := 7, slots := 42, locals := 69 })
theorem ok_X1_breakUp : okM mm_X1_breakUp := ⟨gw_at 651 (by decide +kernel) rfl, gw_at 65 (by decide +kernel) rfl, by decide +kernel, by decide +kernel⟩
abbrev mm_X1_bringHome : MT := (yX1_bringHome, cX1_bringHome, 2, none, { frames := 3, cells := 1, slots := 6, locals := 69 })
theorem ok_X1_bringHome : okM mm_X1_bringHome := ⟨gw_at 800 (by decide +kernel) rfl, gw_at 65 (by decide +kernel) rfl, by decide +kernel, by decide +kernel⟩
abbrev mm_X1_complain : MT := (yX1_complain, cX1_complain, 1, none, { frames := 3, cells := 0, slots := 0, locals := 66 })
theorem ok_X1_complain : okM mm_X1_complain := ⟨gw_at 808 (by decide +kernel) rfl, gw_at 65 (by decide +kernel) rfl, by decide +kernel, by decide +kernel⟩
abbrev mm_X1_finishBelow : MT := (yX1_finishBelow, cX1_finishBelow, 3, (some .boolean), { frames := 3, cells := 4, slots := 24, locals := 69 })
theorem ok_X1_finishBelow : okM mm_X1_finishBelow := ⟨gw_at 791 (by decide +kernel) rfl, gw_at 65 (by decide +kernel) rfl, by decide +kernel, by decide +kernel⟩
abbrev mm_X1_postWork : MT := (yX1_postWork, cX1_postWork, 6, (some .int), { frames := 3, cells := 0, slots := 0, locals := 64 })
theorem ok_X1_postWork : okM mm_X1_postWork := ⟨gw_at 706 (by decide +kernel) rfl, gw_at 65 (by decide +kernel) rfl, by decide +kernel, by decide +kernel⟩
abbrev mm_X1_takeIn : MT := (yX1_takeIn, cX1_takeIn, 3, (some .int), { frames := 3, cells := 1, slots := 6, locals := 66 })
theorem ok_X1_takeIn : okM mm_X1_takeIn := ⟨gw_at 847 (by decide +kernel) rfl, gw_at 65 (by decide +kernel) rfl, by decide +kernel, by decide +kernel⟩
abbrev mm_X6_readNumber : MT := (yX6_readNumber, cX6_readNumber, 7, (some .boolean), { frames := 3, cells := 0, slots := 0, locals := 62 })
theorem ok_X6_readNumber : okM mm_X6_readNumber := ⟨gw_at 525 (by decide +kernel) rfl, gw_at 62 (by decide +kernel) rfl, by decide +kernel, by decide +kernel⟩
abbrev mm_X9_doClause : MT := (yX9_doClause, cX9_doClause, 3, none, { frames := 3, cells := 0, slots := 0, locals := 66 })
theorem ok_X9_doClause : okM mm_X9_doClause := ⟨gw_at 537 (by decide +kernel) rfl, gw_at 59 (by decide +kernel) rfl, by decide +kernel, by decide +kernel⟩
abbrev mm_X9_init : MT := (yX9_init, cX9_init, 2, none, { frames := 3, cells := 87, slots := 808, locals := 64 })
theorem ok_X9_init : okM mm_X9_init := ⟨gw_at 78 (by decide +kernel) rfl, gw_at 59 (by decide +kernel) rfl, by decide +kernel, by decide +kernel⟩
abbrev mm_X9_join : MT := (yX9_join, cX9_join, 2, (some .int), { frames := 3, cells := 0, slots := 0, locals := 66 })
theorem ok_X9_join : okM mm_X9_join := ⟨gw_at 633 (by decide +kernel) rfl, gw_at 59 (by decide +kernel) rfl, by decide +kernel, by decide +kernel⟩
abbrev mm_J0_charAt_5068e : MT := (yJ0_charAt_5068e, cJ0_charAt_5068e, 2, (some .char), { frames := 4, cells := 0, slots := 0, locals := 85 })
theorem ok_J0_charAt_5068e : okM mm_J0_charAt_5068e := ⟨gw_at 482 (by decide +kernel) rfl, gw_at 69 (by decide +kernel) rfl, by decide +kernel, by decide +kernel⟩
abbrev mm_X10_answered : MT := (yX10_answered, cX10_answered, 6, none, { frames := 4, cells := 0, slots := 0, locals := 96 })
theorem ok_X10_answered : okM mm_X10_answered := ⟨gw_at 1210 (by decide +kernel) rfl, gw_at 68 (by decide +kernel) rfl, by decide +kernel, by decide +kernel⟩
abbrev mm_X10_readsRest : MT := (yX10_readsRest, cX10_readsRest, 2, (some .boolean), { frames := 4, cells := 0, slots := 0, locals := 92 })
theorem ok_X10_readsRest : okM mm_X10_readsRest := ⟨gw_at 1056 (by decide +kernel) rfl, gw_at 68 (by decide +kernel) rfl, by decide +kernel, by decide +kernel⟩
abbrev mm_X10_requested : MT := (yX10_requested, cX10_requested, 4, none, { frames := 4, cells := 0, slots := 0, locals := 101 })
theorem ok_X10_requested : okM mm_X10_requested := ⟨gw_at 1178 (by decide +kernel) rfl, gw_at 68 (by decide +kernel) rfl, by decide +kernel, by decide +kernel⟩
abbrev mm_X10_tick : MT := (yX10_tick, cX10_tick, 2, (some .int), { frames := 4, cells := 0, slots := 0, locals := 96 })
theorem ok_X10_tick : okM mm_X10_tick := ⟨gw_at 1258 (by decide +kernel) rfl, gw_at 68 (by decide +kernel) rfl, by decide +kernel, by decide +kernel⟩
abbrev mm_X1_bearBusy : MT := (yX1_bearBusy, cX1_bearBusy, 1, none, { frames := 4, cells := 8, slots := 48, locals := 90 })
theorem ok_X1_bearBusy : okM mm_X1_bearBusy := ⟨gw_at 804 (by decide +kernel) rfl, gw_at 65 (by decide +kernel) rfl, by decide +kernel, by decide +kernel⟩
abbrev mm_X1_reach : MT := (yX1_reach, cX1_reach, 5, (some .int), { frames := 4, cells := 7, slots := 42, locals := 90 })
theorem ok_X1_reach : okM mm_X1_reach := ⟨gw_at 824 (by decide +kernel) rfl, gw_at 65 (by decide +kernel) rfl, by decide +kernel, by decide +kernel⟩
abbrev mm_X1_tryAgain : MT := (yX1_tryAgain, cX1_tryAgain, 2, none, { frames := 4, cells := 8, slots := 48, locals := 90 })
theorem ok_X1_tryAgain : okM mm_X1_tryAgain := ⟨gw_at 795 (by decide +kernel) rfl, gw_at 65 (by decide +kernel) rfl, by decide +kernel, by decide +kernel⟩
abbrev mm_X9_add : MT := (yX9_add, cX9_add, 4, (some .int), { frames := 4, cells := 0, slots := 0, locals := 89 })
theorem ok_X9_add : okM mm_X9_add := ⟨gw_at 738 (by decide +kernel) rfl, gw_at 59 (by decide +kernel) rfl, by decide +kernel, by decide +kernel⟩
abbrev mm_X9_read : MT := (yX9_read, cX9_read, 3, (some .int), { frames := 4, cells := 0, slots := 0, locals := 89 })
theorem ok_X9_read : okM mm_X9_read := ⟨gw_at 734 (by decide +kernel) rfl, gw_at 59 (by decide +kernel) rfl, by decide +kernel, by decide +kernel⟩
abbrev mm_X9_send : MT := (yX9_send, cX9_send, 3, (some .int), { frames := 4, cells := 0, slots := 0, locals := 89 })
theorem ok_X9_send : okM mm_X9_send := ⟨gw_at 702 (by decide +kernel) rfl, gw_at 59 (by decide +kernel) rfl, by decide +kernel, by decide +kernel⟩
abbrev mm_X9_store : MT := (yX9_store, cX9_store, 3, (some .int), { frames := 4, cells := 0, slots := 0, locals := 89 })
theorem ok_X9_store : okM mm_X9_store := ⟨gw_at 730 (by decide +kernel) rfl, gw_at 59 (by decide +kernel) rfl, by decide +kernel, by decide +kernel⟩
abbrev mm_X9_swap : MT := (yX9_swap, cX9_swap, 5, (some .int), { frames := 4, cells := 0, slots := 0, locals := 89 })
theorem ok_X9_swap : okM mm_X9_swap := ⟨gw_at 742 (by decide +kernel) rfl, gw_at 59 (by decide +kernel) rfl, by decide +kernel, by decide +kernel⟩
abbrev mm_X9_tear : MT := (yX9_tear, cX9_tear, 4, (some .int), { frames := 4, cells := 7, slots := 42, locals := 90 })
theorem ok_X9_tear : okM mm_X9_tear := ⟨gw_at 644 (by decide +kernel) rfl, gw_at 59 (by decide +kernel) rfl, by decide +kernel, by decide +kernel⟩
abbrev mm_X10_readsClause : MT := (yX10_readsClause, cX10_readsClause, 2, (some .boolean), { frames := 5, cells := 0, slots := 0, locals := 113 })
theorem ok_X10_readsClause : okM mm_X10_readsClause := ⟨gw_at 1048 (by decide +kernel) rfl, gw_at 68 (by decide +kernel) rfl, by decide +kernel, by decide +kernel⟩
abbrev mm_X10_step : MT := (yX10_step, cX10_step, 4, (some .int), { frames := 5, cells := 0, slots := 0, locals := 124 })
theorem ok_X10_step : okM mm_X10_step := ⟨gw_at 1170 (by decide +kernel) rfl, gw_at 68 (by decide +kernel) rfl, by decide +kernel, by decide +kernel⟩
abbrev mm_X1_meetAnswer : MT := (yX1_meetAnswer, cX1_meetAnswer, 2, none, { frames := 5, cells := 12, slots := 72, locals := 111 })
theorem ok_X1_meetAnswer : okM mm_X1_meetAnswer := ⟨gw_at 783 (by decide +kernel) rfl, gw_at 65 (by decide +kernel) rfl, by decide +kernel, by decide +kernel⟩
abbrev mm_X1_meetExpected : MT := (yX1_meetExpected, cX1_meetExpected, 3, none, { frames := 5, cells := 7, slots := 42, locals := 114 })
theorem ok_X1_meetExpected : okM mm_X1_meetExpected := ⟨gw_at 843 (by decide +kernel) rfl, gw_at 65 (by decide +kernel) rfl, by decide +kernel, by decide +kernel⟩
abbrev mm_X1_meetOldRequest : MT := (yX1_meetOldRequest, cX1_meetOldRequest, 3, none, { frames := 5, cells := 7, slots := 42, locals := 114 })
theorem ok_X1_meetOldRequest : okM mm_X1_meetOldRequest := ⟨gw_at 820 (by decide +kernel) rfl, gw_at 65 (by decide +kernel) rfl, by decide +kernel, by decide +kernel⟩
abbrev mm_X6_isToken : MT := (yX6_isToken, cX6_isToken, 3, (some .boolean), { frames := 5, cells := 0, slots := 0, locals := 106 })
theorem ok_X6_isToken : okM mm_X6_isToken := ⟨gw_at 468 (by decide +kernel) rfl, gw_at 62 (by decide +kernel) rfl, by decide +kernel, by decide +kernel⟩
abbrev mm_X9_tick : MT := (yX9_tick, cX9_tick, 2, (some .int), { frames := 5, cells := 8, slots := 48, locals := 111 })
theorem ok_X9_tick : okM mm_X9_tick := ⟨gw_at 851 (by decide +kernel) rfl, gw_at 59 (by decide +kernel) rfl, by decide +kernel, by decide +kernel⟩
abbrev mm_X10_readsAll : MT := (yX10_readsAll, cX10_readsAll, 3, (some .boolean), { frames := 6, cells := 0, slots := 0, locals := 134 })
theorem ok_X10_readsAll : okM mm_X10_readsAll := ⟨gw_at 1030 (by decide +kernel) rfl, gw_at 68 (by decide +kernel) rfl, by decide +kernel, by decide +kernel⟩
abbrev mm_X1_meet : MT := (yX1_meet, cX1_meet, 2, none, { frames := 6, cells := 12, slots := 72, locals := 136 })
theorem ok_X1_meet : okM mm_X1_meet := ⟨gw_at 779 (by decide +kernel) rfl, gw_at 65 (by decide +kernel) rfl, by decide +kernel, by decide +kernel⟩
abbrev mm_X6_wordOfToken : MT := (yX6_wordOfToken, cX6_wordOfToken, 1, (some .int), { frames := 6, cells := 0, slots := 0, locals := 128 })
theorem ok_X6_wordOfToken : okM mm_X6_wordOfToken := ⟨gw_at 463 (by decide +kernel) rfl, gw_at 62 (by decide +kernel) rfl, by decide +kernel, by decide +kernel⟩
abbrev mm_X10_fault : MT := (yX10_fault, cX10_fault, 1, (some .int), { frames := 7, cells := 0, slots := 0, locals := 156 })
theorem ok_X10_fault : okM mm_X10_fault := ⟨gw_at 1026 (by decide +kernel) rfl, gw_at 68 (by decide +kernel) rfl, by decide +kernel, by decide +kernel⟩
abbrev mm_X10_tell : MT := (yX10_tell, cX10_tell, 1, (some .int), { frames := 7, cells := 0, slots := 0, locals := 156 })
theorem ok_X10_tell : okM mm_X10_tell := ⟨gw_at 1092 (by decide +kernel) rfl, gw_at 68 (by decide +kernel) rfl, by decide +kernel, by decide +kernel⟩
abbrev mm_X6_readClause : MT := (yX6_readClause, cX6_readClause, 1, (some .boolean), { frames := 7, cells := 0, slots := 0, locals := 148 })
theorem ok_X6_readClause : okM mm_X6_readClause := ⟨gw_at 446 (by decide +kernel) rfl, gw_at 62 (by decide +kernel) rfl, by decide +kernel, by decide +kernel⟩
abbrev mm_X9_step : MT := (yX9_step, cX9_step, 3, (some .int), { frames := 7, cells := 12, slots := 72, locals := 157 })
theorem ok_X9_step : okM mm_X9_step := ⟨gw_at 754 (by decide +kernel) rfl, gw_at 59 (by decide +kernel) rfl, by decide +kernel, by decide +kernel⟩
abbrev mm_X6_findFault : MT := (yX6_findFault, cX6_findFault, 2, (some .int), { frames := 8, cells := 0, slots := 0, locals := 168 })
theorem ok_X6_findFault : okM mm_X6_findFault := ⟨gw_at 438 (by decide +kernel) rfl, gw_at 62 (by decide +kernel) rfl, by decide +kernel, by decide +kernel⟩
abbrev mm_X9_fault : MT := (yX9_fault, cX9_fault, 1, (some .int), { frames := 9, cells := 0, slots := 0, locals := 189 })
theorem ok_X9_fault : okM mm_X9_fault := ⟨gw_at 434 (by decide +kernel) rfl, gw_at 59 (by decide +kernel) rfl, by decide +kernel, by decide +kernel⟩
abbrev mm_X9_tell : MT := (yX9_tell, cX9_tell, 3, (some .int), { frames := 9, cells := 0, slots := 0, locals := 189 })
theorem ok_X9_tell : okM mm_X9_tell := ⟨gw_at 531 (by decide +kernel) rfl, gw_at 59 (by decide +kernel) rfl, by decide +kernel, by decide +kernel⟩
abbrev mm_L_law : MT := (x, code, 4, ret, room_1)
end
section
theorem fl_X0_9 : fl RX0 9 0 0 := ⟨_, rfl, by decide, gw_at 279 (by decide +kernel) rfl⟩
theorem fl_X0_15 : fl RX0 15 0 1 := ⟨_, rfl, by decide, gw_at 280 (by decide +kernel) rfl⟩
theorem fl_X0_18 : fl RX0 18 0 2 := ⟨_, rfl, by decide, gw_at 281 (by decide +kernel) rfl⟩
theorem fl_X10_92 : fl RX10 92 10 38 := ⟨_, rfl, by decide, gw_at 930 (by decide +kernel) rfl⟩
theorem fl_X10_13 : fl RX10 13 10 1 := ⟨_, rfl, by decide, gw_at 893 (by decide +kernel) rfl⟩
theorem fl_X10_7 : fl RX10 7 10 0 := ⟨_, rfl, by decide, gw_at 892 (by decide +kernel) rfl⟩
theorem fl_X10_34 : fl RX10 34 10 8 := ⟨_, rfl, by decide, gw_at 900 (by decide +kernel) rfl⟩
theorem fl_X10_43 : fl RX10 43 10 11 := ⟨_, rfl, by decide, gw_at 903 (by decide +kernel) rfl⟩
theorem fl_X10_28 : fl RX10 28 10 6 := ⟨_, rfl, by decide, gw_at 898 (by decide +kernel) rfl⟩
theorem fl_X10_59 : fl RX10 59 10 16 := ⟨_, rfl, by decide, gw_at 908 (by decide +kernel) rfl⟩
theorem fl_X10_62 : fl RX10 62 10 17 := ⟨_, rfl, by decide, gw_at 909 (by decide +kernel) rfl⟩
theorem fl_X10_16 : fl RX10 16 10 2 := ⟨_, rfl, by decide, gw_at 894 (by decide +kernel) rfl⟩
theorem fl_X10_65 : fl RX10 65 10 18 := ⟨_, rfl, by decide, gw_at 910 (by decide +kernel) rfl⟩
theorem fl_X10_74 : fl RX10 74 10 24 := ⟨_, rfl, by decide, gw_at 916 (by decide +kernel) rfl⟩
theorem fl_X10_77 : fl RX10 77 10 25 := ⟨_, rfl, by decide, gw_at 917 (by decide +kernel) rfl⟩
theorem fl_X10_109 : fl RX10 109 10 19 := ⟨_, rfl, by decide, gw_at 911 (by decide +kernel) rfl⟩
theorem fl_X10_113 : fl RX10 113 10 21 := ⟨_, rfl, by decide, gw_at 913 (by decide +kernel) rfl⟩
theorem fl_X10_116 : fl RX10 116 10 27 := ⟨_, rfl, by decide, gw_at 919 (by decide +kernel) rfl⟩
theorem fl_X10_120 : fl RX10 120 10 28 := ⟨_, rfl, by decide, gw_at 920 (by decide +kernel) rfl⟩
theorem fl_X10_123 : fl RX10 123 10 29 := ⟨_, rfl, by decide, gw_at 921 (by decide +kernel) rfl⟩
theorem fl_X10_31 : fl RX10 31 10 7 := ⟨_, rfl, by decide, gw_at 899 (by decide +kernel) rfl⟩
theorem fl_X10_46 : fl RX10 46 10 12 := ⟨_, rfl, by decide, gw_at 904 (by decide +kernel) rfl⟩
theorem fl_X10_22 : fl RX10 22 10 4 := ⟨_, rfl, by decide, gw_at 896 (by decide +kernel) rfl⟩
theorem fl_X10_37 : fl RX10 37 10 9 := ⟨_, rfl, by decide, gw_at 901 (by decide +kernel) rfl⟩
theorem fl_X10_40 : fl RX10 40 10 10 := ⟨_, rfl, by decide, gw_at 902 (by decide +kernel) rfl⟩
theorem fl_X10_53 : fl RX10 53 10 14 := ⟨_, rfl, by decide, gw_at 906 (by decide +kernel) rfl⟩
theorem fl_X10_56 : fl RX10 56 10 15 := ⟨_, rfl, by decide, gw_at 907 (by decide +kernel) rfl⟩
theorem fl_X10_68 : fl RX10 68 10 20 := ⟨_, rfl, by decide, gw_at 912 (by decide +kernel) rfl⟩
theorem fl_X10_128 : fl RX10 128 10 31 := ⟨_, rfl, by decide, gw_at 923 (by decide +kernel) rfl⟩
theorem fl_X10_86 : fl RX10 86 10 36 := ⟨_, rfl, by decide, gw_at 928 (by decide +kernel) rfl⟩
theorem fl_X10_19 : fl RX10 19 10 3 := ⟨_, rfl, by decide, gw_at 895 (by decide +kernel) rfl⟩
theorem fl_X10_25 : fl RX10 25 10 5 := ⟨_, rfl, by decide, gw_at 897 (by decide +kernel) rfl⟩
theorem fl_X10_49 : fl RX10 49 10 13 := ⟨_, rfl, by decide, gw_at 905 (by decide +kernel) rfl⟩
theorem fl_X10_142 : fl RX10 142 10 32 := ⟨_, rfl, by decide, gw_at 924 (by decide +kernel) rfl⟩
theorem fl_X10_71 : fl RX10 71 10 23 := ⟨_, rfl, by decide, gw_at 915 (by decide +kernel) rfl⟩
theorem fl_X10_80 : fl RX10 80 10 26 := ⟨_, rfl, by decide, gw_at 918 (by decide +kernel) rfl⟩
theorem fl_X10_83 : fl RX10 83 10 30 := ⟨_, rfl, by decide, gw_at 922 (by decide +kernel) rfl⟩
theorem fl_X10_89 : fl RX10 89 10 37 := ⟨_, rfl, by decide, gw_at 929 (by decide +kernel) rfl⟩
theorem fl_X10_139 : fl RX10 139 10 33 := ⟨_, rfl, by decide, gw_at 925 (by decide +kernel) rfl⟩
theorem fl_X10_177 : fl RX10 177 10 35 := ⟨_, rfl, by decide, gw_at 927 (by decide +kernel) rfl⟩
theorem fl_X10_183 : fl RX10 183 10 34 := ⟨_, rfl, by decide, gw_at 926 (by decide +kernel) rfl⟩
theorem fl_X10_228 : fl RX10 228 10 22 := ⟨_, rfl, by decide, gw_at 914 (by decide +kernel) rfl⟩
theorem fl_X1_67 : fl RX1 67 1 2 := ⟨_, rfl, by decide, gw_at 338 (by decide +kernel) rfl⟩
theorem fl_X1_60 : fl RX1 60 1 0 := ⟨_, rfl, by decide, gw_at 336 (by decide +kernel) rfl⟩
theorem fl_X1_47 : fl RX1 47 1 12 := ⟨_, rfl, by decide, gw_at 356 (by decide +kernel) rfl⟩
theorem fl_X1_28 : fl RX1 28 1 6 := ⟨_, rfl, by decide, gw_at 344 (by decide +kernel) rfl⟩
theorem fl_X1_35 : fl RX1 35 1 8 := ⟨_, rfl, by decide, gw_at 348 (by decide +kernel) rfl⟩
theorem fl_X1_41 : fl RX1 41 1 10 := ⟨_, rfl, by decide, gw_at 352 (by decide +kernel) rfl⟩
theorem fl_X1_63 : fl RX1 63 1 1 := ⟨_, rfl, by decide, gw_at 337 (by decide +kernel) rfl⟩
theorem fl_X1_17 : fl RX1 17 1 4 := ⟨_, rfl, by decide, gw_at 341 (by decide +kernel) rfl⟩
theorem fl_X1_11 : fl RX1 11 1 3 := ⟨_, rfl, by decide, gw_at 339 (by decide +kernel) rfl⟩
theorem fl_X1_94 : fl RX1 94 8 1 := ⟨_, rfl, by decide, gw_at 302 (by decide +kernel) rfl⟩
theorem fl_X1_166 : fl RX1 166 2 0 := ⟨_, rfl, by decide, gw_at 242 (by decide +kernel) rfl⟩
theorem fl_X1_109 : fl RX1 109 8 6 := ⟨_, rfl, by decide, gw_at 320 (by decide +kernel) rfl⟩
theorem fl_X1_50 : fl RX1 50 1 13 := ⟨_, rfl, by decide, gw_at 358 (by decide +kernel) rfl⟩
theorem fl_X1_38 : fl RX1 38 1 9 := ⟨_, rfl, by decide, gw_at 350 (by decide +kernel) rfl⟩
theorem fl_X1_91 : fl RX1 91 8 0 := ⟨_, rfl, by decide, gw_at 298 (by decide +kernel) rfl⟩
theorem fl_X1_44 : fl RX1 44 1 11 := ⟨_, rfl, by decide, gw_at 354 (by decide +kernel) rfl⟩
theorem fl_X1_24 : fl RX1 24 1 5 := ⟨_, rfl, by decide, gw_at 342 (by decide +kernel) rfl⟩
theorem fl_X1_32 : fl RX1 32 1 7 := ⟨_, rfl, by decide, gw_at 346 (by decide +kernel) rfl⟩
theorem fl_X1_54 : fl RX1 54 1 14 := ⟨_, rfl, by decide, gw_at 360 (by decide +kernel) rfl⟩
theorem fl_X1_57 : fl RX1 57 1 15 := ⟨_, rfl, by decide, gw_at 362 (by decide +kernel) rfl⟩
theorem fl_X1_135 : fl RX1 135 5 2 := ⟨_, rfl, by decide, gw_at 106 (by decide +kernel) rfl⟩
theorem fl_X1_142 : fl RX1 142 5 3 := ⟨_, rfl, by decide, gw_at 109 (by decide +kernel) rfl⟩
theorem fl_X1_227 : fl RX1 227 5 4 := ⟨_, rfl, by decide, gw_at 112 (by decide +kernel) rfl⟩
theorem fl_X1_155 : fl RX1 155 5 5 := ⟨_, rfl, by decide, gw_at 115 (by decide +kernel) rfl⟩
theorem fl_X1_97 : fl RX1 97 8 2 := ⟨_, rfl, by decide, gw_at 306 (by decide +kernel) rfl⟩
theorem fl_X1_100 : fl RX1 100 8 3 := ⟨_, rfl, by decide, gw_at 310 (by decide +kernel) rfl⟩
theorem fl_X1_103 : fl RX1 103 8 4 := ⟨_, rfl, by decide, gw_at 314 (by decide +kernel) rfl⟩
theorem fl_X1_106 : fl RX1 106 8 5 := ⟨_, rfl, by decide, gw_at 318 (by decide +kernel) rfl⟩
theorem fl_X1_187 : fl RX1 187 2 1 := ⟨_, rfl, by decide, gw_at 245 (by decide +kernel) rfl⟩
theorem fl_X1_191 : fl RX1 191 5 6 := ⟨_, rfl, by decide, gw_at 117 (by decide +kernel) rfl⟩
theorem fl_X1_192 : fl RX1 192 3 1 := ⟨_, rfl, by decide, gw_at 222 (by decide +kernel) rfl⟩
theorem fl_X1_197 : fl RX1 197 5 7 := ⟨_, rfl, by decide, gw_at 119 (by decide +kernel) rfl⟩
theorem fl_X1_171 : fl RX1 171 5 8 := ⟨_, rfl, by decide, gw_at 121 (by decide +kernel) rfl⟩
theorem fl_X1_198 : fl RX1 198 5 9 := ⟨_, rfl, by decide, gw_at 123 (by decide +kernel) rfl⟩
theorem fl_X1_202 : fl RX1 202 2 5 := ⟨_, rfl, by decide, gw_at 251 (by decide +kernel) rfl⟩
theorem fl_X1_205 : fl RX1 205 3 0 := ⟨_, rfl, by decide, gw_at 218 (by decide +kernel) rfl⟩
theorem fl_X1_208 : fl RX1 208 3 2 := ⟨_, rfl, by decide, gw_at 226 (by decide +kernel) rfl⟩
theorem fl_X1_211 : fl RX1 211 3 3 := ⟨_, rfl, by decide, gw_at 230 (by decide +kernel) rfl⟩
theorem fl_X1_80 : fl RX1 80 0 2 := ⟨_, rfl, by decide, gw_at 282 (by decide +kernel) rfl⟩
theorem fl_X2_9 : fl RX2 9 2 0 := ⟨_, rfl, by decide, gw_at 240 (by decide +kernel) rfl⟩
theorem fl_X2_17 : fl RX2 17 2 1 := ⟨_, rfl, by decide, gw_at 243 (by decide +kernel) rfl⟩
theorem fl_X2_21 : fl RX2 21 2 2 := ⟨_, rfl, by decide, gw_at 246 (by decide +kernel) rfl⟩
theorem fl_X2_25 : fl RX2 25 2 3 := ⟨_, rfl, by decide, gw_at 247 (by decide +kernel) rfl⟩
theorem fl_X2_28 : fl RX2 28 2 4 := ⟨_, rfl, by decide, gw_at 248 (by decide +kernel) rfl⟩
theorem fl_X2_32 : fl RX2 32 2 5 := ⟨_, rfl, by decide, gw_at 250 (by decide +kernel) rfl⟩
theorem fl_X2_36 : fl RX2 36 3 0 := ⟨_, rfl, by decide, gw_at 216 (by decide +kernel) rfl⟩
theorem fl_X2_49 : fl RX2 49 4 5 := ⟨_, rfl, by decide, gw_at 673 (by decide +kernel) rfl⟩
theorem fl_X2_40 : fl RX2 40 3 1 := ⟨_, rfl, by decide, gw_at 220 (by decide +kernel) rfl⟩
theorem fl_X2_43 : fl RX2 43 3 2 := ⟨_, rfl, by decide, gw_at 224 (by decide +kernel) rfl⟩
theorem fl_X2_46 : fl RX2 46 3 3 := ⟨_, rfl, by decide, gw_at 228 (by decide +kernel) rfl⟩
theorem fl_X3_7 : fl RX3 7 3 0 := ⟨_, rfl, by decide, gw_at 215 (by decide +kernel) rfl⟩
theorem fl_X3_13 : fl RX3 13 3 1 := ⟨_, rfl, by decide, gw_at 219 (by decide +kernel) rfl⟩
theorem fl_X3_17 : fl RX3 17 3 2 := ⟨_, rfl, by decide, gw_at 223 (by decide +kernel) rfl⟩
theorem fl_X3_20 : fl RX3 20 3 3 := ⟨_, rfl, by decide, gw_at 227 (by decide +kernel) rfl⟩
theorem fl_X4_7 : fl RX4 7 4 5 := ⟨_, rfl, by decide, gw_at 672 (by decide +kernel) rfl⟩
theorem fl_X4_13 : fl RX4 13 4 0 := ⟨_, rfl, by decide, gw_at 662 (by decide +kernel) rfl⟩
theorem fl_X4_17 : fl RX4 17 4 1 := ⟨_, rfl, by decide, gw_at 664 (by decide +kernel) rfl⟩
theorem fl_X4_20 : fl RX4 20 4 2 := ⟨_, rfl, by decide, gw_at 666 (by decide +kernel) rfl⟩
theorem fl_X4_23 : fl RX4 23 4 3 := ⟨_, rfl, by decide, gw_at 668 (by decide +kernel) rfl⟩
theorem fl_X4_26 : fl RX4 26 4 4 := ⟨_, rfl, by decide, gw_at 670 (by decide +kernel) rfl⟩
theorem fl_X5_18 : fl RX5 18 5 2 := ⟨_, rfl, by decide, gw_at 105 (by decide +kernel) rfl⟩
theorem fl_X5_21 : fl RX5 21 5 3 := ⟨_, rfl, by decide, gw_at 108 (by decide +kernel) rfl⟩
theorem fl_X5_24 : fl RX5 24 5 4 := ⟨_, rfl, by decide, gw_at 111 (by decide +kernel) rfl⟩
theorem fl_X5_9 : fl RX5 9 5 0 := ⟨_, rfl, by decide, gw_at 99 (by decide +kernel) rfl⟩
theorem fl_X5_15 : fl RX5 15 5 1 := ⟨_, rfl, by decide, gw_at 102 (by decide +kernel) rfl⟩
theorem fl_X5_27 : fl RX5 27 5 5 := ⟨_, rfl, by decide, gw_at 114 (by decide +kernel) rfl⟩
theorem fl_X5_30 : fl RX5 30 5 6 := ⟨_, rfl, by decide, gw_at 116 (by decide +kernel) rfl⟩
theorem fl_X5_33 : fl RX5 33 5 7 := ⟨_, rfl, by decide, gw_at 118 (by decide +kernel) rfl⟩
theorem fl_X5_36 : fl RX5 36 5 8 := ⟨_, rfl, by decide, gw_at 120 (by decide +kernel) rfl⟩
theorem fl_X5_39 : fl RX5 39 5 9 := ⟨_, rfl, by decide, gw_at 122 (by decide +kernel) rfl⟩
theorem fl_X5_42 : fl RX5 42 8 0 := ⟨_, rfl, by decide, gw_at 297 (by decide +kernel) rfl⟩
theorem fl_X5_45 : fl RX5 45 8 1 := ⟨_, rfl, by decide, gw_at 301 (by decide +kernel) rfl⟩
theorem fl_X5_46 : fl RX5 46 8 2 := ⟨_, rfl, by decide, gw_at 305 (by decide +kernel) rfl⟩
theorem fl_X5_47 : fl RX5 47 8 3 := ⟨_, rfl, by decide, gw_at 309 (by decide +kernel) rfl⟩
theorem fl_X5_48 : fl RX5 48 8 4 := ⟨_, rfl, by decide, gw_at 313 (by decide +kernel) rfl⟩
theorem fl_X5_49 : fl RX5 49 8 5 := ⟨_, rfl, by decide, gw_at 317 (by decide +kernel) rfl⟩
theorem fl_X6_19 : fl RX6 19 6 2 := ⟨_, rfl, by decide, gw_at 179 (by decide +kernel) rfl⟩
theorem fl_X6_9 : fl RX6 9 6 0 := ⟨_, rfl, by decide, gw_at 176 (by decide +kernel) rfl⟩
theorem fl_X6_23 : fl RX6 23 6 3 := ⟨_, rfl, by decide, gw_at 181 (by decide +kernel) rfl⟩
theorem fl_X6_32 : fl RX6 32 6 6 := ⟨_, rfl, by decide, gw_at 185 (by decide +kernel) rfl⟩
theorem fl_X6_15 : fl RX6 15 6 1 := ⟨_, rfl, by decide, gw_at 177 (by decide +kernel) rfl⟩
theorem fl_X6_26 : fl RX6 26 6 4 := ⟨_, rfl, by decide, gw_at 182 (by decide +kernel) rfl⟩
theorem fl_X6_29 : fl RX6 29 6 5 := ⟨_, rfl, by decide, gw_at 183 (by decide +kernel) rfl⟩
theorem fl_X7_26 : fl RX7 26 7 3 := ⟨_, rfl, by decide, gw_at 150 (by decide +kernel) rfl⟩
theorem fl_X7_11 : fl RX7 11 7 0 := ⟨_, rfl, by decide, gw_at 145 (by decide +kernel) rfl⟩
theorem fl_X7_36 : fl RX7 36 5 0 := ⟨_, rfl, by decide, gw_at 100 (by decide +kernel) rfl⟩
theorem fl_X7_43 : fl RX7 43 5 1 := ⟨_, rfl, by decide, gw_at 103 (by decide +kernel) rfl⟩
theorem fl_X7_18 : fl RX7 18 7 1 := ⟨_, rfl, by decide, gw_at 147 (by decide +kernel) rfl⟩
theorem fl_X7_22 : fl RX7 22 7 2 := ⟨_, rfl, by decide, gw_at 148 (by decide +kernel) rfl⟩
theorem fl_X7_30 : fl RX7 30 7 4 := ⟨_, rfl, by decide, gw_at 152 (by decide +kernel) rfl⟩
theorem fl_X7_33 : fl RX7 33 7 5 := ⟨_, rfl, by decide, gw_at 154 (by decide +kernel) rfl⟩
theorem fl_X8_7 : fl RX8 7 8 0 := ⟨_, rfl, by decide, gw_at 296 (by decide +kernel) rfl⟩
theorem fl_X8_13 : fl RX8 13 8 1 := ⟨_, rfl, by decide, gw_at 300 (by decide +kernel) rfl⟩
theorem fl_X8_16 : fl RX8 16 8 2 := ⟨_, rfl, by decide, gw_at 304 (by decide +kernel) rfl⟩
theorem fl_X8_19 : fl RX8 19 8 3 := ⟨_, rfl, by decide, gw_at 308 (by decide +kernel) rfl⟩
theorem fl_X8_22 : fl RX8 22 8 4 := ⟨_, rfl, by decide, gw_at 312 (by decide +kernel) rfl⟩
theorem fl_X8_25 : fl RX8 25 8 5 := ⟨_, rfl, by decide, gw_at 316 (by decide +kernel) rfl⟩
theorem fl_X8_28 : fl RX8 28 8 6 := ⟨_, rfl, by decide, gw_at 319 (by decide +kernel) rfl⟩
theorem fl_X9_17 : fl RX9 17 9 1 := ⟨_, rfl, by decide, gw_at 398 (by decide +kernel) rfl⟩
theorem fl_X9_182 : fl RX9 182 1 14 := ⟨_, rfl, by decide, gw_at 361 (by decide +kernel) rfl⟩
theorem fl_X9_185 : fl RX9 185 1 15 := ⟨_, rfl, by decide, gw_at 363 (by decide +kernel) rfl⟩
theorem fl_X9_11 : fl RX9 11 9 0 := ⟨_, rfl, by decide, gw_at 397 (by decide +kernel) rfl⟩
theorem fl_X9_93 : fl RX9 93 2 0 := ⟨_, rfl, by decide, gw_at 241 (by decide +kernel) rfl⟩
theorem fl_X9_24 : fl RX9 24 9 2 := ⟨_, rfl, by decide, gw_at 399 (by decide +kernel) rfl⟩
theorem fl_X9_297 : fl RX9 297 7 3 := ⟨_, rfl, by decide, gw_at 151 (by decide +kernel) rfl⟩
theorem fl_X9_300 : fl RX9 300 7 5 := ⟨_, rfl, by decide, gw_at 155 (by decide +kernel) rfl⟩
theorem fl_X9_303 : fl RX9 303 2 4 := ⟨_, rfl, by decide, gw_at 249 (by decide +kernel) rfl⟩
theorem fl_X9_309 : fl RX9 309 2 5 := ⟨_, rfl, by decide, gw_at 252 (by decide +kernel) rfl⟩
theorem fl_X9_31 : fl RX9 31 9 3 := ⟨_, rfl, by decide, gw_at 400 (by decide +kernel) rfl⟩
theorem fl_X9_51 : fl RX9 51 6 2 := ⟨_, rfl, by decide, gw_at 180 (by decide +kernel) rfl⟩
theorem fl_X9_199 : fl RX9 199 7 4 := ⟨_, rfl, by decide, gw_at 153 (by decide +kernel) rfl⟩
theorem fl_X9_96 : fl RX9 96 7 2 := ⟨_, rfl, by decide, gw_at 149 (by decide +kernel) rfl⟩
theorem fl_X9_131 : fl RX9 131 2 1 := ⟨_, rfl, by decide, gw_at 244 (by decide +kernel) rfl⟩
theorem fl_X9_135 : fl RX9 135 3 0 := ⟨_, rfl, by decide, gw_at 217 (by decide +kernel) rfl⟩
theorem fl_X9_141 : fl RX9 141 3 1 := ⟨_, rfl, by decide, gw_at 221 (by decide +kernel) rfl⟩
theorem fl_X9_144 : fl RX9 144 3 2 := ⟨_, rfl, by decide, gw_at 225 (by decide +kernel) rfl⟩
theorem fl_X9_145 : fl RX9 145 3 3 := ⟨_, rfl, by decide, gw_at 229 (by decide +kernel) rfl⟩
theorem fl_X9_158 : fl RX9 158 1 6 := ⟨_, rfl, by decide, gw_at 345 (by decide +kernel) rfl⟩
theorem fl_X9_247 : fl RX9 247 1 7 := ⟨_, rfl, by decide, gw_at 347 (by decide +kernel) rfl⟩
theorem fl_X9_173 : fl RX9 173 1 8 := ⟨_, rfl, by decide, gw_at 349 (by decide +kernel) rfl⟩
theorem fl_X9_250 : fl RX9 250 1 9 := ⟨_, rfl, by decide, gw_at 351 (by decide +kernel) rfl⟩
theorem fl_X9_176 : fl RX9 176 1 10 := ⟨_, rfl, by decide, gw_at 353 (by decide +kernel) rfl⟩
theorem fl_X9_223 : fl RX9 223 1 11 := ⟨_, rfl, by decide, gw_at 355 (by decide +kernel) rfl⟩
theorem fl_X9_253 : fl RX9 253 1 12 := ⟨_, rfl, by decide, gw_at 357 (by decide +kernel) rfl⟩
theorem fl_X9_256 : fl RX9 256 1 13 := ⟨_, rfl, by decide, gw_at 359 (by decide +kernel) rfl⟩
theorem fl_X9_259 : fl RX9 259 1 5 := ⟨_, rfl, by decide, gw_at 343 (by decide +kernel) rfl⟩
theorem fl_X9_263 : fl RX9 263 0 2 := ⟨_, rfl, by decide, gw_at 283 (by decide +kernel) rfl⟩
theorem fl_X9_35 : fl RX9 35 9 4 := ⟨_, rfl, by decide, gw_at 401 (by decide +kernel) rfl⟩
theorem fl_X9_39 : fl RX9 39 9 5 := ⟨_, rfl, by decide, gw_at 402 (by decide +kernel) rfl⟩
theorem fl_X9_268 : fl RX9 268 1 3 := ⟨_, rfl, by decide, gw_at 340 (by decide +kernel) rfl⟩
theorem fl_X9_272 : fl RX9 272 8 0 := ⟨_, rfl, by decide, gw_at 299 (by decide +kernel) rfl⟩
theorem fl_X9_275 : fl RX9 275 8 1 := ⟨_, rfl, by decide, gw_at 303 (by decide +kernel) rfl⟩
theorem fl_X9_276 : fl RX9 276 8 2 := ⟨_, rfl, by decide, gw_at 307 (by decide +kernel) rfl⟩
theorem fl_X9_279 : fl RX9 279 8 3 := ⟨_, rfl, by decide, gw_at 311 (by decide +kernel) rfl⟩
theorem fl_X9_282 : fl RX9 282 8 4 := ⟨_, rfl, by decide, gw_at 315 (by decide +kernel) rfl⟩
theorem fl_X9_288 : fl RX9 288 7 0 := ⟨_, rfl, by decide, gw_at 146 (by decide +kernel) rfl⟩
theorem fl_X9_202 : fl RX9 202 5 0 := ⟨_, rfl, by decide, gw_at 101 (by decide +kernel) rfl⟩
theorem fl_X9_292 : fl RX9 292 5 2 := ⟨_, rfl, by decide, gw_at 107 (by decide +kernel) rfl⟩
theorem fl_X9_295 : fl RX9 295 5 3 := ⟨_, rfl, by decide, gw_at 110 (by decide +kernel) rfl⟩
theorem fl_X9_207 : fl RX9 207 5 1 := ⟨_, rfl, by decide, gw_at 104 (by decide +kernel) rfl⟩
theorem fl_X9_296 : fl RX9 296 5 4 := ⟨_, rfl, by decide, gw_at 113 (by decide +kernel) rfl⟩
theorem fl_X9_230 : fl RX9 230 4 3 := ⟨_, rfl, by decide, gw_at 669 (by decide +kernel) rfl⟩
theorem fl_X9_235 : fl RX9 235 4 0 := ⟨_, rfl, by decide, gw_at 663 (by decide +kernel) rfl⟩
theorem fl_X9_238 : fl RX9 238 4 1 := ⟨_, rfl, by decide, gw_at 665 (by decide +kernel) rfl⟩
theorem fl_X9_241 : fl RX9 241 4 2 := ⟨_, rfl, by decide, gw_at 667 (by decide +kernel) rfl⟩
theorem fl_X9_244 : fl RX9 244 4 4 := ⟨_, rfl, by decide, gw_at 671 (by decide +kernel) rfl⟩
theorem fl_X9_62 : fl RX9 62 6 6 := ⟨_, rfl, by decide, gw_at 186 (by decide +kernel) rfl⟩
theorem fl_X9_72 : fl RX9 72 6 5 := ⟨_, rfl, by decide, gw_at 184 (by decide +kernel) rfl⟩
theorem fl_X9_75 : fl RX9 75 6 1 := ⟨_, rfl, by decide, gw_at 178 (by decide +kernel) rfl⟩
theorem lk_J0_492 : lkV RJ0 492 mm_J0_isLatin1_aae02 0 := ⟨ok_J0_isLatin1_aae02, gw_at 483 (by decide +kernel) rfl, gw_at 484 (by decide +kernel) rfl, gw_at 485 (by decide +kernel) rfl, (show _ = _ by decide +kernel)⟩
theorem lk_J0_495 : lkS RJ0 495 mm_J1_charAt_3b067 2 := ⟨ok_J1_charAt_3b067, gw_at 487 (by decide +kernel) rfl, gw_at 488 (by decide +kernel) rfl, (show _ = _ by decide +kernel)⟩
theorem lk_J0_498 : lkS RJ0 498 mm_J2_charAt_3b067 2 := ⟨ok_J2_charAt_3b067, gw_at 498 (by decide +kernel) rfl, gw_at 499 (by decide +kernel) rfl, (show _ = _ by decide +kernel)⟩
theorem lk_J0_1059 : lkS RJ0 1059 mm_J3_checkIndex_8e157 3 := ⟨ok_J3_checkIndex_8e157, gw_at 495 (by decide +kernel) rfl, gw_at 496 (by decide +kernel) rfl, (show _ = _ by decide +kernel)⟩
theorem lk_J0_335 : lkV RJ0 335 mm_J0_coder_7d493 0 := ⟨ok_J0_coder_7d493, gw_at 473 (by decide +kernel) rfl, gw_at 474 (by decide +kernel) rfl, gw_at 475 (by decide +kernel) rfl, (show _ = _ by decide +kernel)⟩
theorem lk_J1_9 : lkS RJ1 9 mm_J0_checkIndex_df160 2 := ⟨ok_J0_checkIndex_df160, gw_at 490 (by decide +kernel) rfl, gw_at 491 (by decide +kernel) rfl, (show _ = _ by decide +kernel)⟩
theorem lk_J2_67 : lkS RJ2 67 mm_J2_checkIndex_2214a 2 := ⟨ok_J2_checkIndex_2214a, gw_at 501 (by decide +kernel) rfl, gw_at 502 (by decide +kernel) rfl, (show _ = _ by decide +kernel)⟩
theorem lk_J2_71 : lkS RJ2 71 mm_J2_getChar_3b067 2 := ⟨ok_J2_getChar_3b067, gw_at 508 (by decide +kernel) rfl, gw_at 509 (by decide +kernel) rfl, (show _ = _ by decide +kernel)⟩
theorem lk_J2_48 : lkS RJ2 48 mm_J2_length_9d52b 1 := ⟨ok_J2_length_9d52b, gw_at 504 (by decide +kernel) rfl, gw_at 505 (by decide +kernel) rfl, (show _ = _ by decide +kernel)⟩
theorem lk_J2_414 : lkS RJ2 414 mm_J0_checkIndex_df160 2 := ⟨ok_J0_checkIndex_df160, gw_at 507 (by decide +kernel) rfl, gw_at 491 (by decide +kernel) rfl, (show _ = _ by decide +kernel)⟩
theorem lk_L_9 : lkI RL 9 mm_X9_init 0 := ⟨ok_X9_init, gw_at 76 (by decide +kernel) rfl, gw_at 77 (by decide +kernel) rfl, rfl, rfl, (show _ = _ by decide +kernel)⟩
theorem lk_L_12 : lkI RL 12 mm_X10_init 0 := ⟨ok_X10_init, gw_at 888 (by decide +kernel) rfl, gw_at 889 (by decide +kernel) rfl, rfl, rfl, (show _ = _ by decide +kernel)⟩
theorem lk_L_13 : lkV RL 13 mm_X9_write 1 := ⟨ok_X9_write, gw_at 416 (by decide +kernel) rfl, gw_at 417 (by decide +kernel) rfl, gw_at 418 (by decide +kernel) rfl, (show _ = _ by decide +kernel)⟩
theorem lk_L_17 : lkV RL 17 mm_X10_write 1 := ⟨ok_X10_write, gw_at 1011 (by decide +kernel) rfl, gw_at 1012 (by decide +kernel) rfl, gw_at 1013 (by decide +kernel) rfl, (show _ = _ by decide +kernel)⟩
theorem lk_L_18 : lkV RL 18 mm_X9_erase 0 := ⟨ok_X9_erase, gw_at 427 (by decide +kernel) rfl, gw_at 428 (by decide +kernel) rfl, gw_at 429 (by decide +kernel) rfl, (show _ = _ by decide +kernel)⟩
theorem lk_L_22 : lkV RL 22 mm_X10_erase 0 := ⟨ok_X10_erase, gw_at 1019 (by decide +kernel) rfl, gw_at 1020 (by decide +kernel) rfl, gw_at 1021 (by decide +kernel) rfl, (show _ = _ by decide +kernel)⟩
theorem lk_L_23 : lkV RL 23 mm_X9_fault 0 := ⟨ok_X9_fault, gw_at 431 (by decide +kernel) rfl, gw_at 432 (by decide +kernel) rfl, gw_at 433 (by decide +kernel) rfl, (show _ = _ by decide +kernel)⟩
theorem lk_L_26 : lkV RL 26 mm_X10_fault 0 := ⟨ok_X10_fault, gw_at 1023 (by decide +kernel) rfl, gw_at 1024 (by decide +kernel) rfl, gw_at 1025 (by decide +kernel) rfl, (show _ = _ by decide +kernel)⟩
theorem lk_L_27 : lkV RL 27 mm_X9_tell 0 := ⟨ok_X9_tell, gw_at 528 (by decide +kernel) rfl, gw_at 529 (by decide +kernel) rfl, gw_at 530 (by decide +kernel) rfl, (show _ = _ by decide +kernel)⟩
theorem lk_L_30 : lkV RL 30 mm_X10_tell 0 := ⟨ok_X10_tell, gw_at 1089 (by decide +kernel) rfl, gw_at 1090 (by decide +kernel) rfl, gw_at 1091 (by decide +kernel) rfl, (show _ = _ by decide +kernel)⟩
theorem lk_L_31 : lkV RL 31 mm_X9_cell 2 := ⟨ok_X9_cell, gw_at 594 (by decide +kernel) rfl, gw_at 595 (by decide +kernel) rfl, gw_at 596 (by decide +kernel) rfl, (show _ = _ by decide +kernel)⟩
theorem lk_L_35 : lkV RL 35 mm_X10_cell 2 := ⟨ok_X10_cell, gw_at 1093 (by decide +kernel) rfl, gw_at 1094 (by decide +kernel) rfl, gw_at 1095 (by decide +kernel) rfl, (show _ = _ by decide +kernel)⟩
theorem lk_L_36 : lkV RL 36 mm_X9_put 3 := ⟨ok_X9_put, gw_at 604 (by decide +kernel) rfl, gw_at 605 (by decide +kernel) rfl, gw_at 606 (by decide +kernel) rfl, (show _ = _ by decide +kernel)⟩
theorem lk_L_40 : lkV RL 40 mm_X10_put 3 := ⟨ok_X10_put, gw_at 1104 (by decide +kernel) rfl, gw_at 1105 (by decide +kernel) rfl, gw_at 1106 (by decide +kernel) rfl, (show _ = _ by decide +kernel)⟩
theorem lk_L_41 : lkV RL 41 mm_X9_key 5 := ⟨ok_X9_key, gw_at 611 (by decide +kernel) rfl, gw_at 612 (by decide +kernel) rfl, gw_at 613 (by decide +kernel) rfl, (show _ = _ by decide +kernel)⟩
end
section
theorem lk_L_45 : lkV RL 45 mm_X10_key 5 := ⟨ok_X10_key, gw_at 1112 (by decide +kernel) rfl, gw_at 1113 (by decide +kernel) rfl, gw_at 1114 (by decide +kernel) rfl, (show _ = _ by decide +kernel)⟩
theorem lk_L_46 : lkV RL 46 mm_X9_lock 2 := ⟨ok_X9_lock, gw_at 622 (by decide +kernel) rfl, gw_at 623 (by decide +kernel) rfl, gw_at 624 (by decide +kernel) rfl, (show _ = _ by decide +kernel)⟩
theorem lk_L_49 : lkV RL 49 mm_X10_lock 2 := ⟨ok_X10_lock, gw_at 1122 (by decide +kernel) rfl, gw_at 1123 (by decide +kernel) rfl, gw_at 1124 (by decide +kernel) rfl, (show _ = _ by decide +kernel)⟩
theorem lk_L_50 : lkV RL 50 mm_X9_door 3 := ⟨ok_X9_door, gw_at 626 (by decide +kernel) rfl, gw_at 627 (by decide +kernel) rfl, gw_at 628 (by decide +kernel) rfl, (show _ = _ by decide +kernel)⟩
theorem lk_L_53 : lkV RL 53 mm_X10_door 3 := ⟨ok_X10_door, gw_at 1126 (by decide +kernel) rfl, gw_at 1127 (by decide +kernel) rfl, gw_at 1128 (by decide +kernel) rfl, (show _ = _ by decide +kernel)⟩
theorem lk_L_54 : lkV RL 54 mm_X9_join 1 := ⟨ok_X9_join, gw_at 630 (by decide +kernel) rfl, gw_at 631 (by decide +kernel) rfl, gw_at 632 (by decide +kernel) rfl, (show _ = _ by decide +kernel)⟩
theorem lk_L_57 : lkV RL 57 mm_X10_join 1 := ⟨ok_X10_join, gw_at 1131 (by decide +kernel) rfl, gw_at 1132 (by decide +kernel) rfl, gw_at 1133 (by decide +kernel) rfl, (show _ = _ by decide +kernel)⟩
theorem lk_L_58 : lkV RL 58 mm_X9_tear 1 := ⟨ok_X9_tear, gw_at 641 (by decide +kernel) rfl, gw_at 642 (by decide +kernel) rfl, gw_at 643 (by decide +kernel) rfl, (show _ = _ by decide +kernel)⟩
theorem lk_L_61 : lkV RL 61 mm_X10_tear 1 := ⟨ok_X10_tear, gw_at 1139 (by decide +kernel) rfl, gw_at 1140 (by decide +kernel) rfl, gw_at 1141 (by decide +kernel) rfl, (show _ = _ by decide +kernel)⟩
theorem lk_L_62 : lkV RL 62 mm_X9_delay 2 := ⟨ok_X9_delay, gw_at 691 (by decide +kernel) rfl, gw_at 692 (by decide +kernel) rfl, gw_at 693 (by decide +kernel) rfl, (show _ = _ by decide +kernel)⟩
theorem lk_L_65 : lkV RL 65 mm_X10_delay 2 := ⟨ok_X10_delay, gw_at 1158 (by decide +kernel) rfl, gw_at 1159 (by decide +kernel) rfl, gw_at 1160 (by decide +kernel) rfl, (show _ = _ by decide +kernel)⟩
theorem lk_L_66 : lkV RL 66 mm_X9_aim 3 := ⟨ok_X9_aim, gw_at 695 (by decide +kernel) rfl, gw_at 696 (by decide +kernel) rfl, gw_at 697 (by decide +kernel) rfl, (show _ = _ by decide +kernel)⟩
theorem lk_L_69 : lkV RL 69 mm_X10_aim 3 := ⟨ok_X10_aim, gw_at 1163 (by decide +kernel) rfl, gw_at 1164 (by decide +kernel) rfl, gw_at 1165 (by decide +kernel) rfl, (show _ = _ by decide +kernel)⟩
theorem lk_L_70 : lkV RL 70 mm_X9_send 2 := ⟨ok_X9_send, gw_at 699 (by decide +kernel) rfl, gw_at 700 (by decide +kernel) rfl, gw_at 701 (by decide +kernel) rfl, (show _ = _ by decide +kernel)⟩
theorem lk_L_73 : lkV RL 73 mm_X10_send 2 := ⟨ok_X10_send, gw_at 1227 (by decide +kernel) rfl, gw_at 1228 (by decide +kernel) rfl, gw_at 1229 (by decide +kernel) rfl, (show _ = _ by decide +kernel)⟩
theorem lk_L_74 : lkV RL 74 mm_X9_store 2 := ⟨ok_X9_store, gw_at 727 (by decide +kernel) rfl, gw_at 728 (by decide +kernel) rfl, gw_at 729 (by decide +kernel) rfl, (show _ = _ by decide +kernel)⟩
theorem lk_L_77 : lkV RL 77 mm_X10_store 2 := ⟨ok_X10_store, gw_at 1235 (by decide +kernel) rfl, gw_at 1236 (by decide +kernel) rfl, gw_at 1237 (by decide +kernel) rfl, (show _ = _ by decide +kernel)⟩
theorem lk_L_78 : lkV RL 78 mm_X9_read 2 := ⟨ok_X9_read, gw_at 731 (by decide +kernel) rfl, gw_at 732 (by decide +kernel) rfl, gw_at 733 (by decide +kernel) rfl, (show _ = _ by decide +kernel)⟩
theorem lk_L_81 : lkV RL 81 mm_X10_read 2 := ⟨ok_X10_read, gw_at 1239 (by decide +kernel) rfl, gw_at 1240 (by decide +kernel) rfl, gw_at 1241 (by decide +kernel) rfl, (show _ = _ by decide +kernel)⟩
theorem lk_L_82 : lkV RL 82 mm_X9_add 3 := ⟨ok_X9_add, gw_at 735 (by decide +kernel) rfl, gw_at 736 (by decide +kernel) rfl, gw_at 737 (by decide +kernel) rfl, (show _ = _ by decide +kernel)⟩
theorem lk_L_85 : lkV RL 85 mm_X10_add 3 := ⟨ok_X10_add, gw_at 1243 (by decide +kernel) rfl, gw_at 1244 (by decide +kernel) rfl, gw_at 1245 (by decide +kernel) rfl, (show _ = _ by decide +kernel)⟩
theorem lk_L_86 : lkV RL 86 mm_X9_swap 4 := ⟨ok_X9_swap, gw_at 739 (by decide +kernel) rfl, gw_at 740 (by decide +kernel) rfl, gw_at 741 (by decide +kernel) rfl, (show _ = _ by decide +kernel)⟩
theorem lk_L_90 : lkV RL 90 mm_X10_swap 4 := ⟨ok_X10_swap, gw_at 1247 (by decide +kernel) rfl, gw_at 1248 (by decide +kernel) rfl, gw_at 1249 (by decide +kernel) rfl, (show _ = _ by decide +kernel)⟩
theorem lk_L_91 : lkV RL 91 mm_X9_receive 2 := ⟨ok_X9_receive, gw_at 743 (by decide +kernel) rfl, gw_at 744 (by decide +kernel) rfl, gw_at 745 (by decide +kernel) rfl, (show _ = _ by decide +kernel)⟩
theorem lk_L_94 : lkV RL 94 mm_X10_receive 2 := ⟨ok_X10_receive, gw_at 1251 (by decide +kernel) rfl, gw_at 1252 (by decide +kernel) rfl, gw_at 1253 (by decide +kernel) rfl, (show _ = _ by decide +kernel)⟩
theorem lk_L_95 : lkV RL 95 mm_X9_step 1 := ⟨ok_X9_step, gw_at 751 (by decide +kernel) rfl, gw_at 752 (by decide +kernel) rfl, gw_at 753 (by decide +kernel) rfl, (show _ = _ by decide +kernel)⟩
theorem lk_L_98 : lkV RL 98 mm_X10_step 1 := ⟨ok_X10_step, gw_at 1167 (by decide +kernel) rfl, gw_at 1168 (by decide +kernel) rfl, gw_at 1169 (by decide +kernel) rfl, (show _ = _ by decide +kernel)⟩
theorem lk_L_99 : lkV RL 99 mm_X9_tick 1 := ⟨ok_X9_tick, gw_at 848 (by decide +kernel) rfl, gw_at 849 (by decide +kernel) rfl, gw_at 850 (by decide +kernel) rfl, (show _ = _ by decide +kernel)⟩
theorem lk_L_102 : lkV RL 102 mm_X10_tick 1 := ⟨ok_X10_tick, gw_at 1255 (by decide +kernel) rfl, gw_at 1256 (by decide +kernel) rfl, gw_at 1257 (by decide +kernel) rfl, (show _ = _ by decide +kernel)⟩
theorem lk_L_103 : lkV RL 103 mm_X9_take 1 := ⟨ok_X9_take, gw_at 853 (by decide +kernel) rfl, gw_at 854 (by decide +kernel) rfl, gw_at 855 (by decide +kernel) rfl, (show _ = _ by decide +kernel)⟩
theorem lk_L_106 : lkV RL 106 mm_X10_take 1 := ⟨ok_X10_take, gw_at 1259 (by decide +kernel) rfl, gw_at 1260 (by decide +kernel) rfl, gw_at 1261 (by decide +kernel) rfl, (show _ = _ by decide +kernel)⟩
theorem lk_L_107 : lkV RL 107 mm_X9_taken 1 := ⟨ok_X9_taken, gw_at 861 (by decide +kernel) rfl, gw_at 862 (by decide +kernel) rfl, gw_at 863 (by decide +kernel) rfl, (show _ = _ by decide +kernel)⟩
theorem lk_L_110 : lkV RL 110 mm_X10_taken 1 := ⟨ok_X10_taken, gw_at 1263 (by decide +kernel) rfl, gw_at 1264 (by decide +kernel) rfl, gw_at 1265 (by decide +kernel) rfl, (show _ = _ by decide +kernel)⟩
theorem lk_L_111 : lkV RL 111 mm_X9_end 2 := ⟨ok_X9_end, gw_at 865 (by decide +kernel) rfl, gw_at 866 (by decide +kernel) rfl, gw_at 867 (by decide +kernel) rfl, (show _ = _ by decide +kernel)⟩
theorem lk_L_114 : lkV RL 114 mm_X10_end 2 := ⟨ok_X10_end, gw_at 1268 (by decide +kernel) rfl, gw_at 1269 (by decide +kernel) rfl, gw_at 1270 (by decide +kernel) rfl, (show _ = _ by decide +kernel)⟩
theorem lk_L_115 : lkV RL 115 mm_X9_open 3 := ⟨ok_X9_open, gw_at 869 (by decide +kernel) rfl, gw_at 870 (by decide +kernel) rfl, gw_at 871 (by decide +kernel) rfl, (show _ = _ by decide +kernel)⟩
theorem lk_L_118 : lkV RL 118 mm_X10_open 3 := ⟨ok_X10_open, gw_at 1272 (by decide +kernel) rfl, gw_at 1273 (by decide +kernel) rfl, gw_at 1274 (by decide +kernel) rfl, (show _ = _ by decide +kernel)⟩
theorem lk_L_119 : lkV RL 119 mm_X9_packet 1 := ⟨ok_X9_packet, gw_at 873 (by decide +kernel) rfl, gw_at 874 (by decide +kernel) rfl, gw_at 875 (by decide +kernel) rfl, (show _ = _ by decide +kernel)⟩
theorem lk_L_122 : lkV RL 122 mm_X10_packet 1 := ⟨ok_X10_packet, gw_at 1277 (by decide +kernel) rfl, gw_at 1278 (by decide +kernel) rfl, gw_at 1279 (by decide +kernel) rfl, (show _ = _ by decide +kernel)⟩
theorem lk_L_123 : lkV RL 123 mm_X9_count 1 := ⟨ok_X9_count, gw_at 878 (by decide +kernel) rfl, gw_at 879 (by decide +kernel) rfl, gw_at 880 (by decide +kernel) rfl, (show _ = _ by decide +kernel)⟩
theorem lk_L_126 : lkV RL 126 mm_X10_count 1 := ⟨ok_X10_count, gw_at 1281 (by decide +kernel) rfl, gw_at 1282 (by decide +kernel) rfl, gw_at 1283 (by decide +kernel) rfl, (show _ = _ by decide +kernel)⟩
theorem lo_X0_3 : Cond.methodLink RX0 3 Lib.objectInit ∈ gw ∧ Cond.instanceMethod Lib.objectInit ∈ gw ∧ Cond.code Lib.objectInit ⟨#[0xb1]⟩ 1 none ∈ gw := ⟨gw_at 278 (by decide +kernel) rfl, gw_at 80 (by decide +kernel) rfl, gw_at 81 (by decide +kernel) rfl⟩
theorem lk_X10_265 : lkV RX10 265 mm_X10_reasonOf 3 := ⟨ok_X10_reasonOf, gw_at 1187 (by decide +kernel) rfl, gw_at 1189 (by decide +kernel) rfl, gw_at 46 (by decide +kernel) rfl, (show _ = _ by decide +kernel)⟩
theorem lk_X10_248 : lkV RX10 248 mm_X10_sends 5 := ⟨ok_X10_sends, gw_at 1179 (by decide +kernel) rfl, gw_at 1181 (by decide +kernel) rfl, gw_at 44 (by decide +kernel) rfl, (show _ = _ by decide +kernel)⟩
theorem lk_X10_223 : lkV RX10 223 mm_X10_breaks 1 := ⟨ok_X10_breaks, gw_at 1146 (by decide +kernel) rfl, gw_at 1148 (by decide +kernel) rfl, gw_at 39 (by decide +kernel) rfl, (show _ = _ by decide +kernel)⟩
theorem lk_X10_269 : lkV RX10 269 mm_X10_changesMore 3 := ⟨ok_X10_changesMore, gw_at 1191 (by decide +kernel) rfl, gw_at 1193 (by decide +kernel) rfl, gw_at 47 (by decide +kernel) rfl, (show _ = _ by decide +kernel)⟩
theorem lk_X10_262 : lkV RX10 262 mm_X10_passes 3 := ⟨ok_X10_passes, gw_at 1195 (by decide +kernel) rfl, gw_at 1197 (by decide +kernel) rfl, gw_at 48 (by decide +kernel) rfl, (show _ = _ by decide +kernel)⟩
theorem lk_X10_220 : lkS RX10 220 mm_X10_isEnd 1 := ⟨ok_X10_isEnd, gw_at 1143 (by decide +kernel) rfl, gw_at 1144 (by decide +kernel) rfl, (show _ = _ by decide +kernel)⟩
theorem lk_X10_197 : lkS RX10 197 mm_X10_isCell 1 := ⟨ok_X10_isCell, gw_at 1100 (by decide +kernel) rfl, gw_at 1101 (by decide +kernel) rfl, (show _ = _ by decide +kernel)⟩
theorem lk_X10_200 : lkS RX10 200 mm_X10_isNumber 1 := ⟨ok_X10_isNumber, gw_at 1108 (by decide +kernel) rfl, gw_at 1109 (by decide +kernel) rfl, (show _ = _ by decide +kernel)⟩
theorem lk_X10_282 : lkV RX10 282 mm_X10_post 5 := ⟨ok_X10_post, gw_at 1231 (by decide +kernel) rfl, gw_at 1233 (by decide +kernel) rfl, gw_at 56 (by decide +kernel) rfl, (show _ = _ by decide +kernel)⟩
theorem lk_X10_245 : lkV RX10 245 mm_X10_tellsOldest 3 := ⟨ok_X10_tellsOldest, gw_at 1150 (by decide +kernel) rfl, gw_at 1152 (by decide +kernel) rfl, gw_at 40 (by decide +kernel) rfl, (show _ = _ by decide +kernel)⟩
theorem lk_X10_251 : lkV RX10 251 mm_X10_sendsWork 2 := ⟨ok_X10_sendsWork, gw_at 1223 (by decide +kernel) rfl, gw_at 1225 (by decide +kernel) rfl, gw_at 55 (by decide +kernel) rfl, (show _ = _ by decide +kernel)⟩
theorem lk_X10_95 : lkS RX10 95 mm_X10_in 3 := ⟨ok_X10_in, gw_at 1016 (by decide +kernel) rfl, gw_at 1017 (by decide +kernel) rfl, (show _ = _ by decide +kernel)⟩
theorem lk_X10_105 : lkV RX10 105 mm_X10_endAnew 2 := ⟨ok_X10_endAnew, gw_at 1069 (by decide +kernel) rfl, gw_at 1071 (by decide +kernel) rfl, gw_at 32 (by decide +kernel) rfl, (show _ = _ by decide +kernel)⟩
theorem lk_X10_272 : lkV RX10 272 mm_X10_oldest 1 := ⟨ok_X10_oldest, gw_at 1211 (by decide +kernel) rfl, gw_at 1213 (by decide +kernel) rfl, gw_at 52 (by decide +kernel) rfl, (show _ = _ by decide +kernel)⟩
theorem lk_X10_275 : lkV RX10 275 mm_X10_isOpen 2 := ⟨ok_X10_isOpen, gw_at 1215 (by decide +kernel) rfl, gw_at 1217 (by decide +kernel) rfl, gw_at 53 (by decide +kernel) rfl, (show _ = _ by decide +kernel)⟩
theorem lk_X10_279 : lkV RX10 279 mm_X10_again 1 := ⟨ok_X10_again, gw_at 1219 (by decide +kernel) rfl, gw_at 1221 (by decide +kernel) rfl, gw_at 54 (by decide +kernel) rfl, (show _ = _ by decide +kernel)⟩
theorem lk_X10_241 : lkV RX10 241 mm_X10_tells 5 := ⟨ok_X10_tells, gw_at 1154 (by decide +kernel) rfl, gw_at 1156 (by decide +kernel) rfl, gw_at 41 (by decide +kernel) rfl, (show _ = _ by decide +kernel)⟩
theorem lk_X10_194 : lkS RX10 194 mm_X10_isHost 1 := ⟨ok_X10_isHost, gw_at 1097 (by decide +kernel) rfl, gw_at 1098 (by decide +kernel) rfl, (show _ = _ by decide +kernel)⟩
theorem lk_X10_217 : lkV RX10 217 mm_X10_readyEnds 0 := ⟨ok_X10_readyEnds, gw_at 1135 (by decide +kernel) rfl, gw_at 1137 (by decide +kernel) rfl, gw_at 38 (by decide +kernel) rfl, (show _ = _ by decide +kernel)⟩
theorem lk_X10_290 : lkV RX10 290 mm_X10_allCells 0 := ⟨ok_X10_allCells, gw_at 1285 (by decide +kernel) rfl, gw_at 1287 (by decide +kernel) rfl, gw_at 57 (by decide +kernel) rfl, (show _ = _ by decide +kernel)⟩
theorem lk_X10_159 : lkV RX10 159 mm_X10_allAnew 0 := ⟨ok_X10_allAnew, gw_at 1065 (by decide +kernel) rfl, gw_at 1067 (by decide +kernel) rfl, gw_at 31 (by decide +kernel) rfl, (show _ = _ by decide +kernel)⟩
theorem lk_X10_162 : lkV RX10 162 mm_X10_keys 4 := ⟨ok_X10_keys, gw_at 1073 (by decide +kernel) rfl, gw_at 1075 (by decide +kernel) rfl, gw_at 33 (by decide +kernel) rfl, (show _ = _ by decide +kernel)⟩
theorem lk_X10_166 : lkV RX10 166 mm_X10_joins 1 := ⟨ok_X10_joins, gw_at 1077 (by decide +kernel) rfl, gw_at 1079 (by decide +kernel) rfl, gw_at 34 (by decide +kernel) rfl, (show _ = _ by decide +kernel)⟩
theorem lk_X10_190 : lkV RX10 190 mm_X10_readsAll 1 := ⟨ok_X10_readsAll, gw_at 1027 (by decide +kernel) rfl, gw_at 1029 (by decide +kernel) rfl, gw_at 24 (by decide +kernel) rfl, (show _ = _ by decide +kernel)⟩
theorem lo_X10_1 : Cond.methodLink RX10 1 Lib.objectInit ∈ gw ∧ Cond.instanceMethod Lib.objectInit ∈ gw ∧ Cond.code Lib.objectInit ⟨#[0xb1]⟩ 1 none ∈ gw := ⟨gw_at 891 (by decide +kernel) rfl, gw_at 80 (by decide +kernel) rfl, gw_at 81 (by decide +kernel) rfl⟩
theorem lk_X10_211 : lkV RX10 211 mm_X10_isReady 1 := ⟨ok_X10_isReady, gw_at 1081 (by decide +kernel) rfl, gw_at 1083 (by decide +kernel) rfl, gw_at 35 (by decide +kernel) rfl, (show _ = _ by decide +kernel)⟩
theorem lk_X10_214 : lkV RX10 214 mm_X10_copyPacket 2 := ⟨ok_X10_copyPacket, gw_at 1085 (by decide +kernel) rfl, gw_at 1087 (by decide +kernel) rfl, gw_at 36 (by decide +kernel) rfl, (show _ = _ by decide +kernel)⟩
theorem lk_X10_205 : lkV RX10 205 mm_X10_keysOf 1 := ⟨ok_X10_keysOf, gw_at 1118 (by decide +kernel) rfl, gw_at 1120 (by decide +kernel) rfl, gw_at 37 (by decide +kernel) rfl, (show _ = _ by decide +kernel)⟩
theorem lk_X10_145 : lkS RX10 145 mm_X10_isSmall 1 := ⟨ok_X10_isSmall, gw_at 1035 (by decide +kernel) rfl, gw_at 1036 (by decide +kernel) rfl, (show _ = _ by decide +kernel)⟩
theorem lk_X10_149 : lkS RX10 149 mm_X10_isDigit 1 := ⟨ok_X10_isDigit, gw_at 1040 (by decide +kernel) rfl, gw_at 1041 (by decide +kernel) rfl, (show _ = _ by decide +kernel)⟩
theorem lk_X10_231 : lkV RX10 231 mm_X10_firstPacket 0 := ⟨ok_X10_firstPacket, gw_at 1171 (by decide +kernel) rfl, gw_at 1173 (by decide +kernel) rfl, gw_at 42 (by decide +kernel) rfl, (show _ = _ by decide +kernel)⟩
theorem lk_X10_152 : lkV RX10 152 mm_X10_next 0 := ⟨ok_X10_next, gw_at 1031 (by decide +kernel) rfl, gw_at 1033 (by decide +kernel) rfl, gw_at 25 (by decide +kernel) rfl, (show _ = _ by decide +kernel)⟩
theorem lk_X10_186 : lkV RX10 186 mm_X10_readsClause 0 := ⟨ok_X10_readsClause, gw_at 1045 (by decide +kernel) rfl, gw_at 1047 (by decide +kernel) rfl, gw_at 26 (by decide +kernel) rfl, (show _ = _ by decide +kernel)⟩
theorem lk_X10_170 : lkV RX10 170 mm_X10_wordHere 0 := ⟨ok_X10_wordHere, gw_at 1049 (by decide +kernel) rfl, gw_at 1051 (by decide +kernel) rfl, gw_at 27 (by decide +kernel) rfl, (show _ = _ by decide +kernel)⟩
theorem lk_X10_174 : lkV RX10 174 mm_X10_readsRest 1 := ⟨ok_X10_readsRest, gw_at 1053 (by decide +kernel) rfl, gw_at 1055 (by decide +kernel) rfl, gw_at 28 (by decide +kernel) rfl, (show _ = _ by decide +kernel)⟩
theorem lk_X10_180 : lkV RX10 180 mm_X10_does 1 := ⟨ok_X10_does, gw_at 1061 (by decide +kernel) rfl, gw_at 1063 (by decide +kernel) rfl, gw_at 30 (by decide +kernel) rfl, (show _ = _ by decide +kernel)⟩
theorem lk_X10_155 : lkV RX10 155 mm_X10_reads 3 := ⟨ok_X10_reads, gw_at 1057 (by decide +kernel) rfl, gw_at 1059 (by decide +kernel) rfl, gw_at 29 (by decide +kernel) rfl, (show _ = _ by decide +kernel)⟩
theorem lk_X10_254 : lkV RX10 254 mm_X10_accesses 3 := ⟨ok_X10_accesses, gw_at 1183 (by decide +kernel) rfl, gw_at 1185 (by decide +kernel) rfl, gw_at 45 (by decide +kernel) rfl, (show _ = _ by decide +kernel)⟩
theorem lk_X10_257 : lkV RX10 257 mm_X10_receives 2 := ⟨ok_X10_receives, gw_at 1199 (by decide +kernel) rfl, gw_at 1201 (by decide +kernel) rfl, gw_at 49 (by decide +kernel) rfl, (show _ = _ by decide +kernel)⟩
theorem lk_X10_259 : lkV RX10 259 mm_X10_tellsAgain 2 := ⟨ok_X10_tellsAgain, gw_at 1203 (by decide +kernel) rfl, gw_at 1205 (by decide +kernel) rfl, gw_at 50 (by decide +kernel) rfl, (show _ = _ by decide +kernel)⟩
theorem lk_X10_234 : lkV RX10 234 mm_X10_requested 3 := ⟨ok_X10_requested, gw_at 1175 (by decide +kernel) rfl, gw_at 1177 (by decide +kernel) rfl, gw_at 43 (by decide +kernel) rfl, (show _ = _ by decide +kernel)⟩
theorem lk_X10_238 : lkV RX10 238 mm_X10_answered 3 := ⟨ok_X10_answered, gw_at 1207 (by decide +kernel) rfl, gw_at 1209 (by decide +kernel) rfl, gw_at 51 (by decide +kernel) rfl, (show _ = _ by decide +kernel)⟩
theorem lk_X1_116 : lkSN RX1 116 mm_X9_otherEnd 1 := ⟨ok_X9_otherEnd, ⟨"RemoteCells", nest_at rfl 718 (by decide +kernel)⟩, gw_at 575 (by decide +kernel) rfl, (show _ = _ by decide +kernel)⟩
theorem lk_X1_120 : lkV RX1 120 mm_X7_placeFor 1 := ⟨ok_X7_placeFor, gw_at 719 (by decide +kernel) rfl, gw_at 720 (by decide +kernel) rfl, gw_at 721 (by decide +kernel) rfl, (show _ = _ by decide +kernel)⟩
theorem lk_X1_131 : lkV RX1 131 mm_X5_beAnswer 3 := ⟨ok_X5_beAnswer, gw_at 813 (by decide +kernel) rfl, gw_at 814 (by decide +kernel) rfl, gw_at 815 (by decide +kernel) rfl, (show _ = _ by decide +kernel)⟩
theorem lk_X1_236 : lkV RX1 236 mm_X1_finishOldest 2 := ⟨ok_X1_finishOldest, gw_at 652 (by decide +kernel) rfl, gw_at 654 (by decide +kernel) rfl, gw_at 9 (by decide +kernel) rfl, (show _ = _ by decide +kernel)⟩
theorem lk_X1_184 : lkV RX1 184 mm_X1_breakUp 0 := ⟨ok_X1_breakUp, gw_at 796 (by decide +kernel) rfl, gw_at 649 (by decide +kernel) rfl, gw_at 650 (by decide +kernel) rfl, (show _ = _ by decide +kernel)⟩
theorem lk_X1_174 : lkI RX1 174 mm_X4_init 5 := ⟨ok_X4_init, gw_at 658 (by decide +kernel) rfl, gw_at 659 (by decide +kernel) rfl, rfl, rfl, (show _ = _ by decide +kernel)⟩
theorem lk_X1_177 : lkV RX1 177 mm_X2_pushNotice 1 := ⟨ok_X2_pushNotice, gw_at 687 (by decide +kernel) rfl, gw_at 688 (by decide +kernel) rfl, gw_at 689 (by decide +kernel) rfl, (show _ = _ by decide +kernel)⟩
theorem lk_X1_83 : lkSN RX1 83 mm_X9_isFetch 1 := ⟨ok_X9_isFetch, ⟨"RemoteCells", nest_at rfl 707 (by decide +kernel)⟩, gw_at 708 (by decide +kernel) rfl, (show _ = _ by decide +kernel)⟩
theorem lk_X1_152 : lkV RX1 152 mm_X1_answer 3 := ⟨ok_X1_answer, gw_at 809 (by decide +kernel) rfl, gw_at 811 (by decide +kernel) rfl, gw_at 18 (by decide +kernel) rfl, (show _ = _ by decide +kernel)⟩
theorem lo_X1_3 : Cond.methodLink RX1 3 Lib.objectInit ∈ gw ∧ Cond.instanceMethod Lib.objectInit ∈ gw ∧ Cond.code Lib.objectInit ⟨#[0xb1]⟩ 1 none ∈ gw := ⟨gw_at 270 (by decide +kernel) rfl, gw_at 80 (by decide +kernel) rfl, gw_at 81 (by decide +kernel) rfl⟩
theorem lk_X1_23 : lkIN RX1 23 mm_X0_init 0 := ⟨ok_X0_init, ⟨"RemoteCells", nest_at rfl 275 (by decide +kernel)⟩, gw_at 276 (by decide +kernel) rfl, rfl, rfl, (show _ = _ by decide +kernel)⟩
theorem lk_X1_71 : lkIN RX1 71 mm_X8_init 0 := ⟨ok_X8_init, ⟨"RemoteCells", nest_at rfl 292 (by decide +kernel)⟩, gw_at 293 (by decide +kernel) rfl, rfl, rfl, (show _ = _ by decide +kernel)⟩
theorem lk_X1_138 : lkV RX1 138 mm_X1_meetAnswer 1 := ⟨ok_X1_meetAnswer, gw_at 780 (by decide +kernel) rfl, gw_at 782 (by decide +kernel) rfl, gw_at 12 (by decide +kernel) rfl, (show _ = _ by decide +kernel)⟩
theorem lk_X1_143 : lkV RX1 143 mm_X1_complain 0 := ⟨ok_X1_complain, gw_at 805 (by decide +kernel) rfl, gw_at 807 (by decide +kernel) rfl, gw_at 17 (by decide +kernel) rfl, (show _ = _ by decide +kernel)⟩
theorem lk_X1_146 : lkV RX1 146 mm_X1_meetOldRequest 1 := ⟨ok_X1_meetOldRequest, gw_at 817 (by decide +kernel) rfl, gw_at 819 (by decide +kernel) rfl, gw_at 19 (by decide +kernel) rfl, (show _ = _ by decide +kernel)⟩
theorem lk_X1_149 : lkV RX1 149 mm_X1_meetExpected 1 := ⟨ok_X1_meetExpected, gw_at 840 (by decide +kernel) rfl, gw_at 842 (by decide +kernel) rfl, gw_at 22 (by decide +kernel) rfl, (show _ = _ by decide +kernel)⟩
theorem lk_X1_217 : lkV RX1 217 mm_X1_isAwaited 1 := ⟨ok_X1_isAwaited, gw_at 784 (by decide +kernel) rfl, gw_at 786 (by decide +kernel) rfl, gw_at 13 (by decide +kernel) rfl, (show _ = _ by decide +kernel)⟩
theorem lk_X1_221 : lkV RX1 221 mm_X1_finishBelow 1 := ⟨ok_X1_finishBelow, gw_at 788 (by decide +kernel) rfl, gw_at 790 (by decide +kernel) rfl, gw_at 14 (by decide +kernel) rfl, (show _ = _ by decide +kernel)⟩
theorem lk_X1_224 : lkV RX1 224 mm_X1_tryAgain 0 := ⟨ok_X1_tryAgain, gw_at 792 (by decide +kernel) rfl, gw_at 793 (by decide +kernel) rfl, gw_at 794 (by decide +kernel) rfl, (show _ = _ by decide +kernel)⟩
theorem lk_X1_230 : lkV RX1 230 mm_X1_bringHome 1 := ⟨ok_X1_bringHome, gw_at 797 (by decide +kernel) rfl, gw_at 799 (by decide +kernel) rfl, gw_at 15 (by decide +kernel) rfl, (show _ = _ by decide +kernel)⟩
theorem lk_X1_233 : lkV RX1 233 mm_X1_bearBusy 0 := ⟨ok_X1_bearBusy, gw_at 801 (by decide +kernel) rfl, gw_at 803 (by decide +kernel) rfl, gw_at 16 (by decide +kernel) rfl, (show _ = _ by decide +kernel)⟩
theorem lk_X1_163 : lkV RX1 163 mm_X1_takeIn 1 := ⟨ok_X1_takeIn, gw_at 844 (by decide +kernel) rfl, gw_at 846 (by decide +kernel) rfl, gw_at 23 (by decide +kernel) rfl, (show _ = _ by decide +kernel)⟩
theorem lk_X1_156 : lkV RX1 156 mm_X1_reach 1 := ⟨ok_X1_reach, gw_at 821 (by decide +kernel) rfl, gw_at 823 (by decide +kernel) rfl, gw_at 20 (by decide +kernel) rfl, (show _ = _ by decide +kernel)⟩
theorem lk_X1_160 : lkV RX1 160 mm_X0_toldOf 1 := ⟨ok_X0_toldOf, gw_at 836 (by decide +kernel) rfl, gw_at 837 (by decide +kernel) rfl, gw_at 838 (by decide +kernel) rfl, (show _ = _ by decide +kernel)⟩
theorem lk_X1_87 : lkV RX1 87 mm_X1_openFetches 0 := ⟨ok_X1_openFetches, gw_at 710 (by decide +kernel) rfl, gw_at 712 (by decide +kernel) rfl, gw_at 10 (by decide +kernel) rfl, (show _ = _ by decide +kernel)⟩
theorem lk_X1_112 : lkV RX1 112 mm_X1_request 1 := ⟨ok_X1_request, gw_at 714 (by decide +kernel) rfl, gw_at 716 (by decide +kernel) rfl, gw_at 11 (by decide +kernel) rfl, (show _ = _ by decide +kernel)⟩
theorem lk_X1_181 : lkV RX1 181 mm_X1_reasonAgainst 1 := ⟨ok_X1_reasonAgainst, gw_at 825 (by decide +kernel) rfl, gw_at 827 (by decide +kernel) rfl, gw_at 21 (by decide +kernel) rfl, (show _ = _ by decide +kernel)⟩
theorem lk_X1_199 : lkV RX1 199 mm_X0_remember 2 := ⟨ok_X0_remember, gw_at 832 (by decide +kernel) rfl, gw_at 833 (by decide +kernel) rfl, gw_at 834 (by decide +kernel) rfl, (show _ = _ by decide +kernel)⟩
theorem lk_X1_214 : lkS RX1 214 mm_X1_rightFor 1 := ⟨ok_X1_rightFor, gw_at 829 (by decide +kernel) rfl, gw_at 830 (by decide +kernel) rfl, (show _ = _ by decide +kernel)⟩
theorem lk_X1_126 : lkV RX1 126 mm_X5_beRequest 1 := ⟨ok_X5_beRequest, gw_at 723 (by decide +kernel) rfl, gw_at 724 (by decide +kernel) rfl, gw_at 725 (by decide +kernel) rfl, (show _ = _ by decide +kernel)⟩
theorem lk_X1_72 : lkV RX1 72 mm_X1_restart 1 := ⟨ok_X1_restart, gw_at 550 (by decide +kernel) rfl, gw_at 551 (by decide +kernel) rfl, gw_at 552 (by decide +kernel) rfl, (show _ = _ by decide +kernel)⟩
theorem lk_X1_76 : lkV RX1 76 mm_X1_setAim 2 := ⟨ok_X1_setAim, gw_at 554 (by decide +kernel) rfl, gw_at 555 (by decide +kernel) rfl, gw_at 556 (by decide +kernel) rfl, (show _ = _ by decide +kernel)⟩
theorem lo_X2_3 : Cond.methodLink RX2 3 Lib.objectInit ∈ gw ∧ Cond.instanceMethod Lib.objectInit ∈ gw ∧ Cond.code Lib.objectInit ⟨#[0xb1]⟩ 1 none ∈ gw := ⟨gw_at 207 (by decide +kernel) rfl, gw_at 80 (by decide +kernel) rfl, gw_at 81 (by decide +kernel) rfl⟩
theorem lk_X2_35 : lkIN RX2 35 mm_X3_init 0 := ⟨ok_X3_init, ⟨"RemoteCells", nest_at rfl 211 (by decide +kernel)⟩, gw_at 212 (by decide +kernel) rfl, rfl, rfl, (show _ = _ by decide +kernel)⟩
theorem lo_X3_1 : Cond.methodLink RX3 1 Lib.objectInit ∈ gw ∧ Cond.instanceMethod Lib.objectInit ∈ gw ∧ Cond.code Lib.objectInit ⟨#[0xb1]⟩ 1 none ∈ gw := ⟨gw_at 214 (by decide +kernel) rfl, gw_at 80 (by decide +kernel) rfl, gw_at 81 (by decide +kernel) rfl⟩
theorem lo_X4_1 : Cond.methodLink RX4 1 Lib.objectInit ∈ gw ∧ Cond.instanceMethod Lib.objectInit ∈ gw ∧ Cond.code Lib.objectInit ⟨#[0xb1]⟩ 1 none ∈ gw := ⟨gw_at 661 (by decide +kernel) rfl, gw_at 80 (by decide +kernel) rfl, gw_at 81 (by decide +kernel) rfl⟩
theorem lo_X5_3 : Cond.methodLink RX5 3 Lib.objectInit ∈ gw ∧ Cond.instanceMethod Lib.objectInit ∈ gw ∧ Cond.code Lib.objectInit ⟨#[0xb1]⟩ 1 none ∈ gw := ⟨gw_at 98 (by decide +kernel) rfl, gw_at 80 (by decide +kernel) rfl, gw_at 81 (by decide +kernel) rfl⟩
theorem lk_X6_35 : lkV RX6 35 mm_X6_rewind 0 := ⟨ok_X6_rewind, gw_at 439 (by decide +kernel) rfl, gw_at 440 (by decide +kernel) rfl, gw_at 441 (by decide +kernel) rfl, (show _ = _ by decide +kernel)⟩
theorem lk_X6_38 : lkV RX6 38 mm_X6_readClause 0 := ⟨ok_X6_readClause, gw_at 443 (by decide +kernel) rfl, gw_at 444 (by decide +kernel) rfl, gw_at 445 (by decide +kernel) rfl, (show _ = _ by decide +kernel)⟩
theorem lk_X6_42 : lkV RX6 42 mm_X6_nextToken 0 := ⟨ok_X6_nextToken, gw_at 447 (by decide +kernel) rfl, gw_at 448 (by decide +kernel) rfl, gw_at 449 (by decide +kernel) rfl, (show _ = _ by decide +kernel)⟩
theorem lo_X6_3 : Cond.methodLink RX6 3 Lib.objectInit ∈ gw ∧ Cond.instanceMethod Lib.objectInit ∈ gw ∧ Cond.code Lib.objectInit ⟨#[0xb1]⟩ 1 none ∈ gw := ⟨gw_at 175 (by decide +kernel) rfl, gw_at 80 (by decide +kernel) rfl, gw_at 81 (by decide +kernel) rfl⟩
theorem lk_X6_53 : lkS RX6 53 mm_X6_isSmall 1 := ⟨ok_X6_isSmall, gw_at 451 (by decide +kernel) rfl, gw_at 452 (by decide +kernel) rfl, (show _ = _ by decide +kernel)⟩
theorem lk_X6_57 : lkS RX6 57 mm_X6_isDigit 1 := ⟨ok_X6_isDigit, gw_at 454 (by decide +kernel) rfl, gw_at 455 (by decide +kernel) rfl, (show _ = _ by decide +kernel)⟩
theorem lk_X6_80 : lkV RX6 80 mm_J0_length_8abf5 0 := ⟨ok_J0_length_8abf5, gw_at 469 (by decide +kernel) rfl, gw_at 470 (by decide +kernel) rfl, gw_at 471 (by decide +kernel) rfl, (show _ = _ by decide +kernel)⟩
theorem lk_X6_84 : lkV RX6 84 mm_J0_charAt_5068e 1 := ⟨ok_J0_charAt_5068e, gw_at 479 (by decide +kernel) rfl, gw_at 480 (by decide +kernel) rfl, gw_at 481 (by decide +kernel) rfl, (show _ = _ by decide +kernel)⟩
theorem lk_X6_60 : lkS RX6 60 mm_X6_isAlike 2 := ⟨ok_X6_isAlike, gw_at 457 (by decide +kernel) rfl, gw_at 458 (by decide +kernel) rfl, (show _ = _ by decide +kernel)⟩
theorem lk_X6_45 : lkV RX6 45 mm_X6_wordOfToken 0 := ⟨ok_X6_wordOfToken, gw_at 460 (by decide +kernel) rfl, gw_at 462 (by decide +kernel) rfl, gw_at 0 (by decide +kernel) rfl, (show _ = _ by decide +kernel)⟩
theorem lk_X6_49 : lkV RX6 49 mm_X6_readNumber 3 := ⟨ok_X6_readNumber, gw_at 522 (by decide +kernel) rfl, gw_at 524 (by decide +kernel) rfl, gw_at 2 (by decide +kernel) rfl, (show _ = _ by decide +kernel)⟩
theorem lk_X6_88 : lkSN RX6 88 mm_X9_isOutside 3 := ⟨ok_X9_isOutside, ⟨"RemoteCells", nest_at rfl 526 (by decide +kernel)⟩, gw_at 421 (by decide +kernel) rfl, (show _ = _ by decide +kernel)⟩
theorem lk_X6_66 : lkV RX6 66 mm_X6_isToken 1 := ⟨ok_X6_isToken, gw_at 465 (by decide +kernel) rfl, gw_at 467 (by decide +kernel) rfl, gw_at 1 (by decide +kernel) rfl, (show _ = _ by decide +kernel)⟩
theorem lk_X7_39 : lkSN RX7 39 mm_X9_lineOf 1 := ⟨ok_X9_lineOf, ⟨"RemoteCells", nest_at rfl 586 (by decide +kernel)⟩, gw_at 587 (by decide +kernel) rfl, (show _ = _ by decide +kernel)⟩
theorem lk_X7_58 : lkV RX7 58 mm_X7_removeAt 1 := ⟨ok_X7_removeAt, gw_at 589 (by decide +kernel) rfl, gw_at 591 (by decide +kernel) rfl, gw_at 7 (by decide +kernel) rfl, (show _ = _ by decide +kernel)⟩
theorem lo_X7_3 : Cond.methodLink RX7 3 Lib.objectInit ∈ gw ∧ Cond.instanceMethod Lib.objectInit ∈ gw ∧ Cond.code Lib.objectInit ⟨#[0xb1]⟩ 1 none ∈ gw := ⟨gw_at 91 (by decide +kernel) rfl, gw_at 80 (by decide +kernel) rfl, gw_at 81 (by decide +kernel) rfl⟩
theorem lk_X7_17 : lkIN RX7 17 mm_X5_init 0 := ⟨ok_X5_init, ⟨"RemoteCells", nest_at rfl 95 (by decide +kernel)⟩, gw_at 96 (by decide +kernel) rfl, rfl, rfl, (show _ = _ by decide +kernel)⟩
theorem lk_X7_54 : lkV RX7 54 mm_X7_firstPlace 0 := ⟨ok_X7_firstPlace, gw_at 759 (by decide +kernel) rfl, gw_at 760 (by decide +kernel) rfl, gw_at 761 (by decide +kernel) rfl, (show _ = _ by decide +kernel)⟩
theorem lk_X7_50 : lkV RX7 50 mm_X5_beCopyOf 1 := ⟨ok_X5_beCopyOf, gw_at 763 (by decide +kernel) rfl, gw_at 764 (by decide +kernel) rfl, gw_at 765 (by decide +kernel) rfl, (show _ = _ by decide +kernel)⟩
theorem lk_X7_46 : lkV RX7 46 mm_X7_placeFor 1 := ⟨ok_X7_placeFor, gw_at 775 (by decide +kernel) rfl, gw_at 720 (by decide +kernel) rfl, gw_at 721 (by decide +kernel) rfl, (show _ = _ by decide +kernel)⟩
theorem lo_X8_1 : Cond.methodLink RX8 1 Lib.objectInit ∈ gw ∧ Cond.instanceMethod Lib.objectInit ∈ gw ∧ Cond.code Lib.objectInit ⟨#[0xb1]⟩ 1 none ∈ gw := ⟨gw_at 295 (by decide +kernel) rfl, gw_at 80 (by decide +kernel) rfl, gw_at 81 (by decide +kernel) rfl⟩
theorem lk_X9_170 : lkS RX9 170 mm_X9_isNoEnd 1 := ⟨ok_X9_isNoEnd, gw_at 645 (by decide +kernel) rfl, gw_at 646 (by decide +kernel) rfl, (show _ = _ by decide +kernel)⟩
theorem lk_X9_119 : lkS RX9 119 mm_X9_isNoCell 1 := ⟨ok_X9_isNoCell, gw_at 601 (by decide +kernel) rfl, gw_at 602 (by decide +kernel) rfl, (show _ = _ by decide +kernel)⟩
theorem lk_X9_122 : lkS RX9 122 mm_X9_isNoValue 1 := ⟨ok_X9_isNoValue, gw_at 608 (by decide +kernel) rfl, gw_at 609 (by decide +kernel) rfl, (show _ = _ by decide +kernel)⟩
theorem lk_X9_188 : lkV RX9 188 mm_X1_postWork 4 := ⟨ok_X1_postWork, gw_at 703 (by decide +kernel) rfl, gw_at 704 (by decide +kernel) rfl, gw_at 705 (by decide +kernel) rfl, (show _ = _ by decide +kernel)⟩
theorem lk_X9_125 : lkS RX9 125 mm_X9_isNoKey 1 := ⟨ok_X9_isNoKey, gw_at 615 (by decide +kernel) rfl, gw_at 616 (by decide +kernel) rfl, (show _ = _ by decide +kernel)⟩
theorem lk_X9_47 : lkS RX9 47 mm_X9_isOutside 3 := ⟨ok_X9_isOutside, gw_at 420 (by decide +kernel) rfl, gw_at 421 (by decide +kernel) rfl, (show _ = _ by decide +kernel)⟩
theorem lk_X9_99 : lkV RX9 99 mm_X1_setAim 2 := ⟨ok_X1_setAim, gw_at 566 (by decide +kernel) rfl, gw_at 555 (by decide +kernel) rfl, gw_at 556 (by decide +kernel) rfl, (show _ = _ by decide +kernel)⟩
theorem lk_X9_116 : lkS RX9 116 mm_X9_isNoHost 1 := ⟨ok_X9_isNoHost, gw_at 598 (by decide +kernel) rfl, gw_at 599 (by decide +kernel) rfl, (show _ = _ by decide +kernel)⟩
theorem lk_X9_151 : lkV RX9 151 mm_X9_readyEnds 0 := ⟨ok_X9_readyEnds, gw_at 637 (by decide +kernel) rfl, gw_at 639 (by decide +kernel) rfl, gw_at 8 (by decide +kernel) rfl, (show _ = _ by decide +kernel)⟩
theorem lk_X9_306 : lkV RX9 306 mm_X2_cellSum 0 := ⟨ok_X2_cellSum, gw_at 882 (by decide +kernel) rfl, gw_at 883 (by decide +kernel) rfl, gw_at 884 (by decide +kernel) rfl, (show _ = _ by decide +kernel)⟩
theorem lk_X9_148 : lkS RX9 148 mm_X9_isNoLine 1 := ⟨ok_X9_isNoLine, gw_at 634 (by decide +kernel) rfl, gw_at 635 (by decide +kernel) rfl, (show _ = _ by decide +kernel)⟩
theorem lk_X9_86 : lkV RX9 86 mm_X9_resetAll 0 := ⟨ok_X9_resetAll, gw_at 538 (by decide +kernel) rfl, gw_at 540 (by decide +kernel) rfl, gw_at 4 (by decide +kernel) rfl, (show _ = _ by decide +kernel)⟩
theorem lk_X9_89 : lkV RX9 89 mm_X2_setKey 4 := ⟨ok_X2_setKey, gw_at 562 (by decide +kernel) rfl, gw_at 563 (by decide +kernel) rfl, gw_at 564 (by decide +kernel) rfl, (show _ = _ by decide +kernel)⟩
theorem lk_X9_103 : lkV RX9 103 mm_X9_hasReadyEnd 1 := ⟨ok_X9_hasReadyEnd, gw_at 567 (by decide +kernel) rfl, gw_at 569 (by decide +kernel) rfl, gw_at 5 (by decide +kernel) rfl, (show _ = _ by decide +kernel)⟩
theorem lk_X9_107 : lkV RX9 107 mm_X9_joinLine 1 := ⟨ok_X9_joinLine, gw_at 577 (by decide +kernel) rfl, gw_at 579 (by decide +kernel) rfl, gw_at 6 (by decide +kernel) rfl, (show _ = _ by decide +kernel)⟩
theorem lk_X9_58 : lkV RX9 58 mm_X6_findFault 0 := ⟨ok_X6_findFault, gw_at 435 (by decide +kernel) rfl, gw_at 436 (by decide +kernel) rfl, gw_at 437 (by decide +kernel) rfl, (show _ = _ by decide +kernel)⟩
theorem lk_X9_154 : lkS RX9 154 mm_X9_firstEndOf 1 := ⟨ok_X9_firstEndOf, gw_at 571 (by decide +kernel) rfl, gw_at 572 (by decide +kernel) rfl, (show _ = _ by decide +kernel)⟩
theorem lk_X9_161 : lkS RX9 161 mm_X9_otherEnd 1 := ⟨ok_X9_otherEnd, gw_at 574 (by decide +kernel) rfl, gw_at 575 (by decide +kernel) rfl, (show _ = _ by decide +kernel)⟩
theorem lo_X9_1 : Cond.methodLink RX9 1 Lib.objectInit ∈ gw ∧ Cond.instanceMethod Lib.objectInit ∈ gw ∧ Cond.code Lib.objectInit ⟨#[0xb1]⟩ 1 none ∈ gw := ⟨gw_at 79 (by decide +kernel) rfl, gw_at 80 (by decide +kernel) rfl, gw_at 81 (by decide +kernel) rfl⟩
theorem lk_X9_23 : lkI RX9 23 mm_X7_init 0 := ⟨ok_X7_init, gw_at 88 (by decide +kernel) rfl, gw_at 89 (by decide +kernel) rfl, rfl, rfl, (show _ = _ by decide +kernel)⟩
theorem lk_X9_30 : lkIN RX9 30 mm_X6_init 0 := ⟨ok_X6_init, ⟨"RemoteCells", nest_at rfl 172 (by decide +kernel)⟩, gw_at 173 (by decide +kernel) rfl, rfl, rfl, (show _ = _ by decide +kernel)⟩
theorem lk_X9_43 : lkI RX9 43 mm_X2_init 0 := ⟨ok_X2_init, gw_at 204 (by decide +kernel) rfl, gw_at 205 (by decide +kernel) rfl, rfl, rfl, (show _ = _ by decide +kernel)⟩
theorem lk_X9_44 : lkI RX9 44 mm_X1_init 3 := ⟨ok_X1_init, gw_at 267 (by decide +kernel) rfl, gw_at 268 (by decide +kernel) rfl, rfl, rfl, (show _ = _ by decide +kernel)⟩
theorem lk_X9_164 : lkV RX9 164 mm_X1_restart 1 := ⟨ok_X1_restart, gw_at 581 (by decide +kernel) rfl, gw_at 551 (by decide +kernel) rfl, gw_at 552 (by decide +kernel) rfl, (show _ = _ by decide +kernel)⟩
theorem lk_X9_167 : lkV RX9 167 mm_X7_clearLine 1 := ⟨ok_X7_clearLine, gw_at 582 (by decide +kernel) rfl, gw_at 583 (by decide +kernel) rfl, gw_at 584 (by decide +kernel) rfl, (show _ = _ by decide +kernel)⟩
theorem lk_X9_128 : lkV RX9 128 mm_X2_keyCount 0 := ⟨ok_X2_keyCount, gw_at 618 (by decide +kernel) rfl, gw_at 619 (by decide +kernel) rfl, gw_at 620 (by decide +kernel) rfl, (show _ = _ by decide +kernel)⟩
theorem lk_X9_285 : lkV RX9 285 mm_X7_firstPlace 0 := ⟨ok_X7_firstPlace, gw_at 877 (by decide +kernel) rfl, gw_at 760 (by decide +kernel) rfl, gw_at 761 (by decide +kernel) rfl, (show _ = _ by decide +kernel)⟩
theorem lk_X9_192 : lkV RX9 192 mm_X1_postReceive 1 := ⟨ok_X1_postReceive, gw_at 747 (by decide +kernel) rfl, gw_at 748 (by decide +kernel) rfl, gw_at 749 (by decide +kernel) rfl, (show _ = _ by decide +kernel)⟩
theorem lk_X9_111 : lkV RX9 111 mm_X2_reset 0 := ⟨ok_X2_reset, gw_at 542 (by decide +kernel) rfl, gw_at 543 (by decide +kernel) rfl, gw_at 544 (by decide +kernel) rfl, (show _ = _ by decide +kernel)⟩
theorem lk_X9_114 : lkV RX9 114 mm_X1_reset 0 := ⟨ok_X1_reset, gw_at 546 (by decide +kernel) rfl, gw_at 547 (by decide +kernel) rfl, gw_at 548 (by decide +kernel) rfl, (show _ = _ by decide +kernel)⟩
theorem lk_X9_115 : lkV RX9 115 mm_X7_reset 0 := ⟨ok_X7_reset, gw_at 558 (by decide +kernel) rfl, gw_at 559 (by decide +kernel) rfl, gw_at 560 (by decide +kernel) rfl, (show _ = _ by decide +kernel)⟩
theorem lk_X9_195 : lkV RX9 195 mm_X7_pullFirst 0 := ⟨ok_X7_pullFirst, gw_at 755 (by decide +kernel) rfl, gw_at 756 (by decide +kernel) rfl, gw_at 757 (by decide +kernel) rfl, (show _ = _ by decide +kernel)⟩
theorem lk_X9_210 : lkV RX9 210 mm_X7_passTimeTo 1 := ⟨ok_X7_passTimeTo, gw_at 767 (by decide +kernel) rfl, gw_at 768 (by decide +kernel) rfl, gw_at 769 (by decide +kernel) rfl, (show _ = _ by decide +kernel)⟩
theorem lk_X9_213 : lkV RX9 213 mm_X7_repeat 1 := ⟨ok_X7_repeat, gw_at 771 (by decide +kernel) rfl, gw_at 772 (by decide +kernel) rfl, gw_at 773 (by decide +kernel) rfl, (show _ = _ by decide +kernel)⟩
theorem lk_X9_217 : lkV RX9 217 mm_X1_meet 1 := ⟨ok_X1_meet, gw_at 776 (by decide +kernel) rfl, gw_at 777 (by decide +kernel) rfl, gw_at 778 (by decide +kernel) rfl, (show _ = _ by decide +kernel)⟩
theorem lk_X9_226 : lkV RX9 226 mm_X2_pullNotice 0 := ⟨ok_X2_pullNotice, gw_at 857 (by decide +kernel) rfl, gw_at 858 (by decide +kernel) rfl, gw_at 859 (by decide +kernel) rfl, (show _ = _ by decide +kernel)⟩
theorem lk_X9_179 : lkV RX9 179 mm_X1_breakUp 0 := ⟨ok_X1_breakUp, gw_at 648 (by decide +kernel) rfl, gw_at 649 (by decide +kernel) rfl, gw_at 650 (by decide +kernel) rfl, (show _ = _ by decide +kernel)⟩
theorem lk_X9_65 : lkV RX9 65 mm_X6_rewind 0 := ⟨ok_X6_rewind, gw_at 532 (by decide +kernel) rfl, gw_at 440 (by decide +kernel) rfl, gw_at 441 (by decide +kernel) rfl, (show _ = _ by decide +kernel)⟩
theorem lk_X9_68 : lkV RX9 68 mm_X6_readClause 0 := ⟨ok_X6_readClause, gw_at 533 (by decide +kernel) rfl, gw_at 444 (by decide +kernel) rfl, gw_at 445 (by decide +kernel) rfl, (show _ = _ by decide +kernel)⟩
theorem lk_X9_79 : lkV RX9 79 mm_X9_doClause 2 := ⟨ok_X9_doClause, gw_at 534 (by decide +kernel) rfl, gw_at 536 (by decide +kernel) rfl, gw_at 3 (by decide +kernel) rfl, (show _ = _ by decide +kernel)⟩
theorem lk_X9_83 : lkV RX9 83 mm_X6_nextToken 0 := ⟨ok_X6_nextToken, gw_at 593 (by decide +kernel) rfl, gw_at 448 (by decide +kernel) rfl, gw_at 449 (by decide +kernel) rfl, (show _ = _ by decide +kernel)⟩
theorem lk_X9_220 : lkV RX9 220 mm_X1_tryAgain 0 := ⟨ok_X1_tryAgain, gw_at 852 (by decide +kernel) rfl, gw_at 793 (by decide +kernel) rfl, gw_at 794 (by decide +kernel) rfl, (show _ = _ by decide +kernel)⟩
theorem lk_X9_54 : lkV RX9 54 mm_X6_append 1 := ⟨ok_X6_append, gw_at 423 (by decide +kernel) rfl, gw_at 424 (by decide +kernel) rfl, gw_at 425 (by decide +kernel) rfl, (show _ = _ by decide +kernel)⟩
theorem nl_L_7 : ∃ q, vwCl[9]? = some q ∧ Cond.classLink RL 7 q.1 ∈ gw := ⟨_, rfl, gw_at 74 (by decide +kernel) rfl⟩
theorem nl_L_10 : ∃ q, vwCl[10]? = some q ∧ Cond.classLink RL 10 q.1 ∈ gw := ⟨_, rfl, gw_at 886 (by decide +kernel) rfl⟩
theorem nl_X1_172 : ∃ q, vwCl[4]? = some q ∧ Cond.classLink RX1 172 q.1 ∈ gw := ⟨_, rfl, gw_at 656 (by decide +kernel) rfl⟩
theorem al_X1_9 : ∀ q, vwCl[8]? = some q → Cond.classLink RX1 9 q.1 ∈ gw ∧ q.1 ∈ aoL := fun q hq => by cases hq; exact ⟨gw_at 271 (by decide +kernel) rfl, by decide⟩
theorem nl_X1_21 : ∃ q, vwCl[0]? = some q ∧ Cond.classLink RX1 21 q.1 ∈ gw := ⟨_, rfl, gw_at 273 (by decide +kernel) rfl⟩
theorem al_X2_15 : ∀ q, vwCl[3]? = some q → Cond.classLink RX2 15 q.1 ∈ gw ∧ q.1 ∈ aoL := fun q hq => by cases hq; exact ⟨gw_at 208 (by decide +kernel) rfl, by decide⟩
theorem al_X7_9 : ∀ q, vwCl[5]? = some q → Cond.classLink RX7 9 q.1 ∈ gw ∧ q.1 ∈ aoL := fun q hq => by cases hq; exact ⟨gw_at 92 (by decide +kernel) rfl, by decide⟩
theorem al_X9_9 : ∀ q, vwCl[2]? = some q → Cond.classLink RX9 9 q.1 ∈ gw ∧ q.1 ∈ aoL := fun q hq => by cases hq; exact ⟨gw_at 82 (by decide +kernel) rfl, by decide⟩
theorem al_X9_15 : ∀ q, vwCl[1]? = some q → Cond.classLink RX9 15 q.1 ∈ gw ∧ q.1 ∈ aoL := fun q hq => by cases hq; exact ⟨gw_at 84 (by decide +kernel) rfl, by decide⟩
theorem nl_X9_21 : ∃ q, vwCl[7]? = some q ∧ Cond.classLink RX9 21 q.1 ∈ gw := ⟨_, rfl, gw_at 86 (by decide +kernel) rfl⟩
theorem nl_X9_28 : ∃ q, vwCl[6]? = some q ∧ Cond.classLink RX9 28 q.1 ∈ gw := ⟨_, rfl, gw_at 170 (by decide +kernel) rfl⟩
theorem cl_X10_101 : Cond.constantLong RX10 101 (Int64.ofInt 3) ∈ gw := gw_at 1116 (by decide +kernel) rfl
theorem cl_X10_99 : Cond.constantLong RX10 99 (Int64.ofInt 11) ∈ gw := gw_at 1103 (by decide +kernel) rfl
theorem cl_X10_226 : Cond.constantLong RX10 226 (Int64.ofInt 9) ∈ gw := gw_at 1162 (by decide +kernel) rfl
theorem cl_X10_209 : Cond.constantLong RX10 209 (Int64.ofInt 2) ∈ gw := gw_at 1130 (by decide +kernel) rfl
theorem cl_X10_135 : Cond.constantLong RX10 135 (Int64.ofInt 48) ∈ gw := gw_at 1043 (by decide +kernel) rfl
theorem cl_X10_137 : Cond.constantLong RX10 137 (Int64.ofInt 57) ∈ gw := gw_at 1044 (by decide +kernel) rfl
theorem cl_X10_103 : Cond.constantLong RX10 103 (Int64.ofInt 9999) ∈ gw := gw_at 1111 (by decide +kernel) rfl
theorem cl_X10_131 : Cond.constantLong RX10 131 (Int64.ofInt 97) ∈ gw := gw_at 1038 (by decide +kernel) rfl
theorem cl_X10_133 : Cond.constantLong RX10 133 (Int64.ofInt 122) ∈ gw := gw_at 1039 (by decide +kernel) rfl
theorem cl_X10_203 : Cond.constantLong RX10 203 (Int64.ofInt 7) ∈ gw := gw_at 1117 (by decide +kernel) rfl
theorem cl_X10_288 : Cond.constantLong RX10 288 (Int64.ofInt 4) ∈ gw := gw_at 1276 (by decide +kernel) rfl
theorem cl_X10_286 : Cond.constantLong RX10 286 (Int64.ofInt 5) ∈ gw := gw_at 1267 (by decide +kernel) rfl
theorem cl_X10_126 : Cond.constantLong RX10 126 (Int64.ofInt 255) ∈ gw := gw_at 1015 (by decide +kernel) rfl
theorem na_int : na .int 20 0 := ⟨by decide, by decide, gw_at 169 (by decide +kernel) rfl, fun _ => rfl, by decide, by decide, fun _ _ h => h⟩
theorem na_boolean : na .boolean 21 1 := ⟨by decide, by decide, gw_at 1010 (by decide +kernel) rfl, fun _ => rfl, by decide, by decide, fun _ _ h => h⟩
theorem na_char : na .char 22 2 := ⟨by decide, by decide, gw_at 202 (by decide +kernel) rfl, fun _ => rfl, by decide, by decide, fun _ _ h => h⟩
theorem aq_1 : aq 3 1 := ⟨_, rfl, fun _ => rfl⟩
theorem aq_2 : aq 4 2 := ⟨_, rfl, fun _ => rfl⟩
theorem aq_3 : aq 5 3 := ⟨_, rfl, fun _ => rfl⟩
theorem aq_5 : aq 6 5 := ⟨_, rfl, fun _ => rfl⟩
theorem aq_8 : aq 7 8 := ⟨_, rfl, fun _ => rfl⟩
end
section
/-! small rows that the printed segments use -/
theorem wr_e {h : Hp} {a k v : Int} : wr h a k v a k = v := by simp [wr]
theorem wr_k {h : Hp} {a k j v : Int} (hj : j ≠ k) : wr h a k v a j = h a j := by simp [wr, hj]
theorem wr_a {h : Hp} {a b k j v : Int} (hb : b ≠ a) : wr h a k v b j = h b j := by simp [wr, hb]
theorem wr_s {h : Hp} {a b k v : Int} (hk : 0 ≤ k) : wr h a k v b (-1) = h b (-1) := by
  unfold wr
  rw [if_neg (by omega)]
theorem wr_l {h : Hp} {a b k v : Int} (hk : 0 ≤ k) : wr h a k v b (-2) = h b (-2) := by
  unfold wr
  rw [if_neg (by omega)]
theorem ne_sh {h : Hp} {a b ca cb : Int} (ha : h a (-1) = ca) (hb : h b (-1) = cb) (hc : ca ≠ cb) : b ≠ a := fun e => hc (by rw [← ha, ← hb, e])
theorem nw_s {h : Hp} {a c c' n j : Int} (oh : okH h) (hs : h a (-1) = c) (hc : c ≠ 0) : nw h c' n a j = h a j := by
  have h1 := oh.2.1 a (by omega)
  exact nw_off (by omega) h1.1
theorem rd_e {h h1 : Hp} {a k v : Int} (e : h1 = wr h a k v) : h1 a k = v := by rw [e]; exact wr_e
theorem rd_k {h h1 : Hp} {a k v : Int} (e : h1 = wr h a k v) (j : Int) (hj : j ≠ k) : h1 a j = h a j := by rw [e]; exact wr_k hj
theorem rd_a {h h1 : Hp} {a k v : Int} (e : h1 = wr h a k v) (b j : Int) (hb : b ≠ a) : h1 b j = h b j := by rw [e]; exact wr_a hb
theorem sh_w {h h1 : Hp} {a k v b c : Int} (e : h1 = wr h a k v) (hk : 0 ≤ k) (hs : h b (-1) = c) : h1 b (-1) = c := by rw [e, wr_s hk]; exact hs
theorem ln_w {h h1 : Hp} {a k v : Int} (e : h1 = wr h a k v) (b : Int) (hk : 0 ≤ k) : h1 b (-2) = h b (-2) := by rw [e]; exact wr_l hk
theorem sh_n {h h1 : Hp} {c' n b c : Int} (e : h1 = nw h c' n) (oh : okH h) (hs : h b (-1) = c) (hc : c ≠ 0) : h1 b (-1) = c := by rw [e, nw_s oh hs hc]; exact hs
theorem rd_n {h h1 : Hp} {c' n b c : Int} (e : h1 = nw h c' n) (oh : okH h) (hs : h b (-1) = c) (hc : c ≠ 0) (j : Int) : h1 b j = h b j := by rw [e, nw_s oh hs hc]
theorem sh_f {h h1 : Hp} {c n a : Int} (e : h1 = nw h c n) (ea : a = h 0 0 + 1) : h1 a (-1) = c := by rw [e, ea, nw_new, if_pos rfl]
theorem ln_f {h h1 : Hp} {c n a : Int} (e : h1 = nw h c n) (ea : a = h 0 0 + 1) : h1 a (-2) = n := by rw [e, ea, nw_new, if_neg (by decide), if_pos rfl]
theorem rd_f {h h1 : Hp} {c n a : Int} (e : h1 = nw h c n) (ea : a = h 0 0 + 1) (k : Int) (hk : 0 ≤ k) : h1 a k = 0 := by rw [e, ea, nw_new, if_neg (by omega), if_neg (by omega)]
theorem nz_s {h : Hp} {a c : Int} (oh : okH h) (hs : h a (-1) = c) (hc : c ≠ 0) : a ≠ 0 := by
  have h1 := oh.2.1 a (by omega)
  omega
theorem lt_l {h : Hp} {a x i : Int} (e : h a (-2) = x) (hi : i < x) : i < h a (-2) := by rw [e]; exact hi
def b2i (p : Prop) [Decidable p] : Int := if p then 1 else 0
theorem b2i_0 {p : Prop} [Decidable p] : b2i p = 0 ↔ ¬ p := by
  unfold b2i
  split <;> simp [*]
theorem b2i_n {p : Prop} [Decidable p] : ¬ b2i p = 0 ↔ p := by
  unfold b2i
  split <;> simp [*]
theorem b2i_or {p : Prop} [Decidable p] : b2i p = 0 ∨ b2i p = 1 := by
  unfold b2i
  split <;> simp
theorem b2i_t {p : Prop} [Decidable p] (h : p) : b2i p = 1 := if_pos h
theorem b2i_f {p : Prop} [Decidable p] (h : ¬ p) : b2i p = 0 := if_neg h
section AR8
variable {G : GG} {M : MT} {b : Nat × Nat} {pc : Nat} {ls : List (Nat × VV)} {st : List VV} {h : Hp} {Z : LZ}
theorem aw_hp (k : ∀ h1, h1 = h → AZ G M b pc ls st h1 Z) : AZ G M b pc ls st h Z := k _ rfl
theorem aw_hq {a : Int} (k : ∀ a1, a1 = a → ∀ h1, h1 = h → AZ G M b pc ls (vR a1 :: st) h1 Z) : AZ G M b pc ls (vR a :: st) h Z := k _ rfl _ rfl
end AR8
end
section
/-! printed by mkseg.py: small methods that change nothing -/
set_option maxRecDepth 20000 in
theorem sg_X9_isOutside_0 {G : GG} {b : Nat × Nat} {Q : Option VV → Hp → Prop} {v0 v1 v2 : Int} {h : Hp} (k : ((v0 < v1) → Q (some (vI 1)) h) ∧ ((¬ (v0 < v1)) → ((v0 ≤ v2) → Q (some (vI 0)) h) ∧ ((¬ (v0 ≤ v2)) → Q (some (vI 1)) h))) : AW G mm_X9_isOutside b 0 [(0, vI v0), (1, vI v1), (2, vI v2)] [] h Q := by
  refine aw_iload_n 0 dX9_isOutside_0 rfl rfl ?_
  refine aw_iload_n 1 dX9_isOutside_1 rfl rfl ?_
  refine aw_icmp_lt (tgt := 10) dX9_isOutside_2 (by decide) (fun hc => ?_) (fun hc => ?_)
  · have k := k.1 hc
    refine aw_iconst dX9_isOutside_10 ⟨by decide, by decide⟩ ?_
    refine aw_goto (tgt := 15) dX9_isOutside_11 (by decide) ?_
    exact aw_zret dX9_isOutside_15 rfl (by decide) k
  · have k := k.2 hc
    refine aw_iload_n 0 dX9_isOutside_5 rfl rfl ?_
    refine aw_iload_n 2 dX9_isOutside_6 rfl rfl ?_
    refine aw_icmp_le (tgt := 14) dX9_isOutside_7 (by decide) (fun hc => ?_) (fun hc => ?_)
    · have k := k.1 hc
      refine aw_iconst dX9_isOutside_14 ⟨by decide, by decide⟩ ?_
      exact aw_zret dX9_isOutside_15 rfl (by decide) k
    · have k := k.2 hc
      refine aw_iconst dX9_isOutside_10 ⟨by decide, by decide⟩ ?_
      refine aw_goto (tgt := 15) dX9_isOutside_11 (by decide) ?_
      exact aw_zret dX9_isOutside_15 rfl (by decide) k
theorem rn_X9_isOutside {G : GG} {Q : Option VV → Hp → Prop} {v0 v1 v2 : Int} {h : Hp} (k : ((v0 < v1) → Q (some (vI 1)) h) ∧ ((¬ (v0 < v1)) → ((v0 ≤ v2) → Q (some (vI 0)) h) ∧ ((¬ (v0 ≤ v2)) → Q (some (vI 1)) h))) : Runs G mm_X9_isOutside [vI v0, vI v1, vI v2] h Q := Runs.of (by decide +kernel) (Nat.le_of_ble_eq_true rfl) (sg_X9_isOutside_0 (b := (0, 0)) k)
theorem pu_X9_isOutside {G : GG} {Q : Option VV → Hp → Prop} {v0 v1 v2 : Int} {h : Hp} (k : Q (some (vI (b2i (v0 < v1 ∨ v2 < v0)))) h) : Runs G mm_X9_isOutside [vI v0, vI v1, vI v2] h Q := by
  first
    | exact rn_X9_isOutside k
    | refine rn_X9_isOutside ?_
      (repeat' (first | (refine ⟨?_, ?_⟩) | intro _))
      all_goals first
        | (rw [b2i_t (by omega)] at k; exact k)
        | (rw [b2i_f (by omega)] at k; exact k)
set_option maxRecDepth 20000 in
theorem sg_X9_isNoHost_0 {G : GG} {b : Nat × Nat} {Q : Option VV → Hp → Prop} {v0 : Int} {h : Hp} (k : Q (some (vI (b2i (v0 < 0 ∨ 1 < v0)))) h) : AW G mm_X9_isNoHost b 0 [(0, vI v0)] [] h Q := by
  refine aw_iload_n 0 dX9_isNoHost_0 rfl rfl ?_
  refine aw_iconst dX9_isNoHost_1 ⟨by decide, by decide⟩ ?_
  refine aw_iconst dX9_isNoHost_2 ⟨by decide, by decide⟩ ?_
  refine aw_callS (M' := mm_X9_isOutside) [vI v0, vI 0, vI 1] [] lk_X9_47 dX9_isNoHost_3 rfl (by decide) ⟨by decide, by decide, Nat.zero_le _, Nat.zero_le _⟩ ?_
  refine pu_X9_isOutside ?_
  exact aw_zret dX9_isNoHost_6 rfl b2i_or k
theorem rn_X9_isNoHost {G : GG} {Q : Option VV → Hp → Prop} {v0 : Int} {h : Hp} (k : Q (some (vI (b2i (v0 < 0 ∨ 1 < v0)))) h) : Runs G mm_X9_isNoHost [vI v0] h Q := Runs.of (by decide +kernel) (Nat.le_of_ble_eq_true rfl) (sg_X9_isNoHost_0 (b := (0, 0)) k)
theorem pu_X9_isNoHost {G : GG} {Q : Option VV → Hp → Prop} {v0 : Int} {h : Hp} (k : Q (some (vI (b2i (v0 < 0 ∨ 1 < v0)))) h) : Runs G mm_X9_isNoHost [vI v0] h Q := by
  first
    | exact rn_X9_isNoHost k
    | refine rn_X9_isNoHost ?_
      (repeat' (first | (refine ⟨?_, ?_⟩) | intro _))
      all_goals first
        | (rw [b2i_t (by omega)] at k; exact k)
        | (rw [b2i_f (by omega)] at k; exact k)
set_option maxRecDepth 20000 in
theorem sg_X9_isNoCell_0 {G : GG} {b : Nat × Nat} {Q : Option VV → Hp → Prop} {v0 : Int} {h : Hp} (k : Q (some (vI (b2i (v0 < 0 ∨ 11 < v0)))) h) : AW G mm_X9_isNoCell b 0 [(0, vI v0)] [] h Q := by
  refine aw_iload_n 0 dX9_isNoCell_0 rfl rfl ?_
  refine aw_iconst dX9_isNoCell_1 ⟨by decide, by decide⟩ ?_
  refine aw_bipush dX9_isNoCell_2 ⟨by decide, by decide⟩ (by decide) ?_
  refine aw_callS (M' := mm_X9_isOutside) [vI v0, vI 0, vI 11] [] lk_X9_47 dX9_isNoCell_4 rfl (by decide) ⟨by decide, by decide, Nat.zero_le _, Nat.zero_le _⟩ ?_
  refine pu_X9_isOutside ?_
  exact aw_zret dX9_isNoCell_7 rfl b2i_or k
theorem rn_X9_isNoCell {G : GG} {Q : Option VV → Hp → Prop} {v0 : Int} {h : Hp} (k : Q (some (vI (b2i (v0 < 0 ∨ 11 < v0)))) h) : Runs G mm_X9_isNoCell [vI v0] h Q := Runs.of (by decide +kernel) (Nat.le_of_ble_eq_true rfl) (sg_X9_isNoCell_0 (b := (0, 0)) k)
theorem pu_X9_isNoCell {G : GG} {Q : Option VV → Hp → Prop} {v0 : Int} {h : Hp} (k : Q (some (vI (b2i (v0 < 0 ∨ 11 < v0)))) h) : Runs G mm_X9_isNoCell [vI v0] h Q := by
  first
    | exact rn_X9_isNoCell k
    | refine rn_X9_isNoCell ?_
      (repeat' (first | (refine ⟨?_, ?_⟩) | intro _))
      all_goals first
        | (rw [b2i_t (by omega)] at k; exact k)
        | (rw [b2i_f (by omega)] at k; exact k)
set_option maxRecDepth 20000 in
theorem sg_X9_isNoKey_0 {G : GG} {b : Nat × Nat} {Q : Option VV → Hp → Prop} {v0 : Int} {h : Hp} (k : Q (some (vI (b2i (v0 < 0 ∨ 3 < v0)))) h) : AW G mm_X9_isNoKey b 0 [(0, vI v0)] [] h Q := by
  refine aw_iload_n 0 dX9_isNoKey_0 rfl rfl ?_
  refine aw_iconst dX9_isNoKey_1 ⟨by decide, by decide⟩ ?_
  refine aw_iconst dX9_isNoKey_2 ⟨by decide, by decide⟩ ?_
  refine aw_callS (M' := mm_X9_isOutside) [vI v0, vI 0, vI 3] [] lk_X9_47 dX9_isNoKey_3 rfl (by decide) ⟨by decide, by decide, Nat.zero_le _, Nat.zero_le _⟩ ?_
  refine pu_X9_isOutside ?_
  exact aw_zret dX9_isNoKey_6 rfl b2i_or k
theorem rn_X9_isNoKey {G : GG} {Q : Option VV → Hp → Prop} {v0 : Int} {h : Hp} (k : Q (some (vI (b2i (v0 < 0 ∨ 3 < v0)))) h) : Runs G mm_X9_isNoKey [vI v0] h Q := Runs.of (by decide +kernel) (Nat.le_of_ble_eq_true rfl) (sg_X9_isNoKey_0 (b := (0, 0)) k)
theorem pu_X9_isNoKey {G : GG} {Q : Option VV → Hp → Prop} {v0 : Int} {h : Hp} (k : Q (some (vI (b2i (v0 < 0 ∨ 3 < v0)))) h) : Runs G mm_X9_isNoKey [vI v0] h Q := by
  first
    | exact rn_X9_isNoKey k
    | refine rn_X9_isNoKey ?_
      (repeat' (first | (refine ⟨?_, ?_⟩) | intro _))
      all_goals first
        | (rw [b2i_t (by omega)] at k; exact k)
        | (rw [b2i_f (by omega)] at k; exact k)
set_option maxRecDepth 20000 in
theorem sg_X9_isNoLine_0 {G : GG} {b : Nat × Nat} {Q : Option VV → Hp → Prop} {v0 : Int} {h : Hp} (k : Q (some (vI (b2i (v0 < 0 ∨ 1 < v0)))) h) : AW G mm_X9_isNoLine b 0 [(0, vI v0)] [] h Q := by
  refine aw_iload_n 0 dX9_isNoLine_0 rfl rfl ?_
  refine aw_iconst dX9_isNoLine_1 ⟨by decide, by decide⟩ ?_
  refine aw_iconst dX9_isNoLine_2 ⟨by decide, by decide⟩ ?_
  refine aw_callS (M' := mm_X9_isOutside) [vI v0, vI 0, vI 1] [] lk_X9_47 dX9_isNoLine_3 rfl (by decide) ⟨by decide, by decide, Nat.zero_le _, Nat.zero_le _⟩ ?_
  refine pu_X9_isOutside ?_
  exact aw_zret dX9_isNoLine_6 rfl b2i_or k
theorem rn_X9_isNoLine {G : GG} {Q : Option VV → Hp → Prop} {v0 : Int} {h : Hp} (k : Q (some (vI (b2i (v0 < 0 ∨ 1 < v0)))) h) : Runs G mm_X9_isNoLine [vI v0] h Q := Runs.of (by decide +kernel) (Nat.le_of_ble_eq_true rfl) (sg_X9_isNoLine_0 (b := (0, 0)) k)
theorem pu_X9_isNoLine {G : GG} {Q : Option VV → Hp → Prop} {v0 : Int} {h : Hp} (k : Q (some (vI (b2i (v0 < 0 ∨ 1 < v0)))) h) : Runs G mm_X9_isNoLine [vI v0] h Q := by
  first
    | exact rn_X9_isNoLine k
    | refine rn_X9_isNoLine ?_
      (repeat' (first | (refine ⟨?_, ?_⟩) | intro _))
      all_goals first
        | (rw [b2i_t (by omega)] at k; exact k)
        | (rw [b2i_f (by omega)] at k; exact k)
set_option maxRecDepth 20000 in
theorem sg_X9_isNoEnd_0 {G : GG} {b : Nat × Nat} {Q : Option VV → Hp → Prop} {v0 : Int} {h : Hp} (k : Q (some (vI (b2i (v0 < 0 ∨ 3 < v0)))) h) : AW G mm_X9_isNoEnd b 0 [(0, vI v0)] [] h Q := by
  refine aw_iload_n 0 dX9_isNoEnd_0 rfl rfl ?_
  refine aw_iconst dX9_isNoEnd_1 ⟨by decide, by decide⟩ ?_
  refine aw_iconst dX9_isNoEnd_2 ⟨by decide, by decide⟩ ?_
  refine aw_callS (M' := mm_X9_isOutside) [vI v0, vI 0, vI 3] [] lk_X9_47 dX9_isNoEnd_3 rfl (by decide) ⟨by decide, by decide, Nat.zero_le _, Nat.zero_le _⟩ ?_
  refine pu_X9_isOutside ?_
  exact aw_zret dX9_isNoEnd_6 rfl b2i_or k
theorem rn_X9_isNoEnd {G : GG} {Q : Option VV → Hp → Prop} {v0 : Int} {h : Hp} (k : Q (some (vI (b2i (v0 < 0 ∨ 3 < v0)))) h) : Runs G mm_X9_isNoEnd [vI v0] h Q := Runs.of (by decide +kernel) (Nat.le_of_ble_eq_true rfl) (sg_X9_isNoEnd_0 (b := (0, 0)) k)
theorem pu_X9_isNoEnd {G : GG} {Q : Option VV → Hp → Prop} {v0 : Int} {h : Hp} (k : Q (some (vI (b2i (v0 < 0 ∨ 3 < v0)))) h) : Runs G mm_X9_isNoEnd [vI v0] h Q := by
  first
    | exact rn_X9_isNoEnd k
    | refine rn_X9_isNoEnd ?_
      (repeat' (first | (refine ⟨?_, ?_⟩) | intro _))
      all_goals first
        | (rw [b2i_t (by omega)] at k; exact k)
        | (rw [b2i_f (by omega)] at k; exact k)
set_option maxRecDepth 20000 in
theorem sg_X9_isNoValue_0 {G : GG} {b : Nat × Nat} {Q : Option VV → Hp → Prop} {v0 : Int} {h : Hp} (k : Q (some (vI (b2i (v0 < 0 ∨ 9999 < v0)))) h) : AW G mm_X9_isNoValue b 0 [(0, vI v0)] [] h Q := by
  refine aw_iload_n 0 dX9_isNoValue_0 rfl rfl ?_
  refine aw_iconst dX9_isNoValue_1 ⟨by decide, by decide⟩ ?_
  refine aw_sipush dX9_isNoValue_2 ⟨by decide, by decide⟩ (by decide) ?_
  refine aw_callS (M' := mm_X9_isOutside) [vI v0, vI 0, vI 9999] [] lk_X9_47 dX9_isNoValue_5 rfl (by decide) ⟨by decide, by decide, Nat.zero_le _, Nat.zero_le _⟩ ?_
  refine pu_X9_isOutside ?_
  exact aw_zret dX9_isNoValue_8 rfl b2i_or k
theorem rn_X9_isNoValue {G : GG} {Q : Option VV → Hp → Prop} {v0 : Int} {h : Hp} (k : Q (some (vI (b2i (v0 < 0 ∨ 9999 < v0)))) h) : Runs G mm_X9_isNoValue [vI v0] h Q := Runs.of (by decide +kernel) (Nat.le_of_ble_eq_true rfl) (sg_X9_isNoValue_0 (b := (0, 0)) k)
theorem pu_X9_isNoValue {G : GG} {Q : Option VV → Hp → Prop} {v0 : Int} {h : Hp} (k : Q (some (vI (b2i (v0 < 0 ∨ 9999 < v0)))) h) : Runs G mm_X9_isNoValue [vI v0] h Q := by
  first
    | exact rn_X9_isNoValue k
    | refine rn_X9_isNoValue ?_
      (repeat' (first | (refine ⟨?_, ?_⟩) | intro _))
      all_goals first
        | (rw [b2i_t (by omega)] at k; exact k)
        | (rw [b2i_f (by omega)] at k; exact k)
set_option maxRecDepth 20000 in
theorem sg_X9_isFetch_0 {G : GG} {b : Nat × Nat} {Q : Option VV → Hp → Prop} {v0 : Int} {h : Hp} (k : ((v0 = 2) → Q (some (vI 1)) h) ∧ ((¬ (v0 = 2)) → ((v0 = 3) → Q (some (vI 1)) h) ∧ ((¬ (v0 = 3)) → ((¬ v0 = 4) → Q (some (vI 0)) h) ∧ ((v0 = 4) → Q (some (vI 1)) h)))) : AW G mm_X9_isFetch b 0 [(0, vI v0)] [] h Q := by
  refine aw_iload_n 0 dX9_isFetch_0 rfl rfl ?_
  refine aw_iconst dX9_isFetch_1 ⟨by decide, by decide⟩ ?_
  refine aw_icmp_eq (tgt := 15) dX9_isFetch_2 (by decide) (fun hc => ?_) (fun hc => ?_)
  · have k := k.1 hc
    refine aw_iconst dX9_isFetch_15 ⟨by decide, by decide⟩ ?_
    refine aw_goto (tgt := 20) dX9_isFetch_16 (by decide) ?_
    exact aw_zret dX9_isFetch_20 rfl (by decide) k
  · have k := k.2 hc
    refine aw_iload_n 0 dX9_isFetch_5 rfl rfl ?_
    refine aw_iconst dX9_isFetch_6 ⟨by decide, by decide⟩ ?_
    refine aw_icmp_eq (tgt := 15) dX9_isFetch_7 (by decide) (fun hc => ?_) (fun hc => ?_)
    · have k := k.1 hc
      refine aw_iconst dX9_isFetch_15 ⟨by decide, by decide⟩ ?_
      refine aw_goto (tgt := 20) dX9_isFetch_16 (by decide) ?_
      exact aw_zret dX9_isFetch_20 rfl (by decide) k
    · have k := k.2 hc
      refine aw_iload_n 0 dX9_isFetch_10 rfl rfl ?_
      refine aw_iconst dX9_isFetch_11 ⟨by decide, by decide⟩ ?_
      refine aw_icmp_ne (tgt := 19) dX9_isFetch_12 (by decide) (fun hc => ?_) (fun hc => ?_)
      · have k := k.1 hc
        refine aw_iconst dX9_isFetch_19 ⟨by decide, by decide⟩ ?_
        exact aw_zret dX9_isFetch_20 rfl (by decide) k
      · have k := k.2 hc
        refine aw_iconst dX9_isFetch_15 ⟨by decide, by decide⟩ ?_
        refine aw_goto (tgt := 20) dX9_isFetch_16 (by decide) ?_
        exact aw_zret dX9_isFetch_20 rfl (by decide) k
theorem rn_X9_isFetch {G : GG} {Q : Option VV → Hp → Prop} {v0 : Int} {h : Hp} (k : ((v0 = 2) → Q (some (vI 1)) h) ∧ ((¬ (v0 = 2)) → ((v0 = 3) → Q (some (vI 1)) h) ∧ ((¬ (v0 = 3)) → ((¬ v0 = 4) → Q (some (vI 0)) h) ∧ ((v0 = 4) → Q (some (vI 1)) h)))) : Runs G mm_X9_isFetch [vI v0] h Q := Runs.of (by decide +kernel) (Nat.le_of_ble_eq_true rfl) (sg_X9_isFetch_0 (b := (0, 0)) k)
theorem pu_X9_isFetch {G : GG} {Q : Option VV → Hp → Prop} {v0 : Int} {h : Hp} (k : Q (some (vI (b2i (v0 = 2 ∨ v0 = 3 ∨ v0 = 4)))) h) : Runs G mm_X9_isFetch [vI v0] h Q := by
  first
    | exact rn_X9_isFetch k
    | refine rn_X9_isFetch ?_
      (repeat' (first | (refine ⟨?_, ?_⟩) | intro _))
      all_goals first
        | (rw [b2i_t (by omega)] at k; exact k)
        | (rw [b2i_f (by omega)] at k; exact k)
set_option maxRecDepth 20000 in
theorem sg_X6_isSmall_0 {G : GG} {b : Nat × Nat} {Q : Option VV → Hp → Prop} {v0 : Int} {h : Hp} (k : ((v0 < 97) → Q (some (vI 0)) h) ∧ ((¬ (v0 < 97)) → ((122 < v0) → Q (some (vI 0)) h) ∧ ((¬ (122 < v0)) → Q (some (vI 1)) h))) : AW G mm_X6_isSmall b 0 [(0, vI v0)] [] h Q := by
  refine aw_iload_n 0 dX6_isSmall_0 rfl rfl ?_
  refine aw_bipush dX6_isSmall_1 ⟨by decide, by decide⟩ (by decide) ?_
  refine aw_icmp_lt (tgt := 16) dX6_isSmall_3 (by decide) (fun hc => ?_) (fun hc => ?_)
  · have k := k.1 hc
    refine aw_iconst dX6_isSmall_16 ⟨by decide, by decide⟩ ?_
    exact aw_zret dX6_isSmall_17 rfl (by decide) k
  · have k := k.2 hc
    refine aw_iload_n 0 dX6_isSmall_6 rfl rfl ?_
    refine aw_bipush dX6_isSmall_7 ⟨by decide, by decide⟩ (by decide) ?_
    refine aw_icmp_gt (tgt := 16) dX6_isSmall_9 (by decide) (fun hc => ?_) (fun hc => ?_)
    · have k := k.1 hc
      refine aw_iconst dX6_isSmall_16 ⟨by decide, by decide⟩ ?_
      exact aw_zret dX6_isSmall_17 rfl (by decide) k
    · have k := k.2 hc
      refine aw_iconst dX6_isSmall_12 ⟨by decide, by decide⟩ ?_
      refine aw_goto (tgt := 17) dX6_isSmall_13 (by decide) ?_
      exact aw_zret dX6_isSmall_17 rfl (by decide) k
theorem rn_X6_isSmall {G : GG} {Q : Option VV → Hp → Prop} {v0 : Int} {h : Hp} (k : ((v0 < 97) → Q (some (vI 0)) h) ∧ ((¬ (v0 < 97)) → ((122 < v0) → Q (some (vI 0)) h) ∧ ((¬ (122 < v0)) → Q (some (vI 1)) h))) : Runs G mm_X6_isSmall [vI v0] h Q := Runs.of (by decide +kernel) (Nat.le_of_ble_eq_true rfl) (sg_X6_isSmall_0 (b := (0, 0)) k)
theorem pu_X6_isSmall {G : GG} {Q : Option VV → Hp → Prop} {v0 : Int} {h : Hp} (k : Q (some (vI (b2i (97 ≤ v0 ∧ v0 ≤ 122)))) h) : Runs G mm_X6_isSmall [vI v0] h Q := by
  first
    | exact rn_X6_isSmall k
    | refine rn_X6_isSmall ?_
      (repeat' (first | (refine ⟨?_, ?_⟩) | intro _))
      all_goals first
        | (rw [b2i_t (by omega)] at k; exact k)
        | (rw [b2i_f (by omega)] at k; exact k)
set_option maxRecDepth 20000 in
theorem sg_X6_isDigit_0 {G : GG} {b : Nat × Nat} {Q : Option VV → Hp → Prop} {v0 : Int} {h : Hp} (k : ((v0 < 48) → Q (some (vI 0)) h) ∧ ((¬ (v0 < 48)) → ((57 < v0) → Q (some (vI 0)) h) ∧ ((¬ (57 < v0)) → Q (some (vI 1)) h))) : AW G mm_X6_isDigit b 0 [(0, vI v0)] [] h Q := by
  refine aw_iload_n 0 dX6_isDigit_0 rfl rfl ?_
  refine aw_bipush dX6_isDigit_1 ⟨by decide, by decide⟩ (by decide) ?_
  refine aw_icmp_lt (tgt := 16) dX6_isDigit_3 (by decide) (fun hc => ?_) (fun hc => ?_)
  · have k := k.1 hc
    refine aw_iconst dX6_isDigit_16 ⟨by decide, by decide⟩ ?_
    exact aw_zret dX6_isDigit_17 rfl (by decide) k
  · have k := k.2 hc
    refine aw_iload_n 0 dX6_isDigit_6 rfl rfl ?_
    refine aw_bipush dX6_isDigit_7 ⟨by decide, by decide⟩ (by decide) ?_
    refine aw_icmp_gt (tgt := 16) dX6_isDigit_9 (by decide) (fun hc => ?_) (fun hc => ?_)
    · have k := k.1 hc
      refine aw_iconst dX6_isDigit_16 ⟨by decide, by decide⟩ ?_
      exact aw_zret dX6_isDigit_17 rfl (by decide) k
    · have k := k.2 hc
      refine aw_iconst dX6_isDigit_12 ⟨by decide, by decide⟩ ?_
      refine aw_goto (tgt := 17) dX6_isDigit_13 (by decide) ?_
      exact aw_zret dX6_isDigit_17 rfl (by decide) k
theorem rn_X6_isDigit {G : GG} {Q : Option VV → Hp → Prop} {v0 : Int} {h : Hp} (k : ((v0 < 48) → Q (some (vI 0)) h) ∧ ((¬ (v0 < 48)) → ((57 < v0) → Q (some (vI 0)) h) ∧ ((¬ (57 < v0)) → Q (some (vI 1)) h))) : Runs G mm_X6_isDigit [vI v0] h Q := Runs.of (by decide +kernel) (Nat.le_of_ble_eq_true rfl) (sg_X6_isDigit_0 (b := (0, 0)) k)
theorem pu_X6_isDigit {G : GG} {Q : Option VV → Hp → Prop} {v0 : Int} {h : Hp} (k : Q (some (vI (b2i (48 ≤ v0 ∧ v0 ≤ 57)))) h) : Runs G mm_X6_isDigit [vI v0] h Q := by
  first
    | exact rn_X6_isDigit k
    | refine rn_X6_isDigit ?_
      (repeat' (first | (refine ⟨?_, ?_⟩) | intro _))
      all_goals first
        | (rw [b2i_t (by omega)] at k; exact k)
        | (rw [b2i_f (by omega)] at k; exact k)
set_option maxRecDepth 20000 in
theorem sg_X10_in_0 {G : GG} {b : Nat × Nat} {Q : Option VV → Hp → Prop} {v0 v2 v4 : Int} {h : Hp} (k : (((iCmp v0 v2) < 0) → Q (some (vI 0)) h) ∧ ((¬ ((iCmp v0 v2) < 0)) → ((0 < (iCmp v0 v4)) → Q (some (vI 0)) h) ∧ ((¬ (0 < (iCmp v0 v4))) → Q (some (vI 1)) h))) : AW G mm_X10_in b 0 [(0, vL v0), (2, vL v2), (4, vL v4)] [] h Q := by
  refine aw_lload_n 0 dX10_in_0 rfl rfl ?_
  refine aw_lload_n 1 dX10_in_1 rfl rfl ?_
  refine aw_lcmp dX10_in_2 ?_
  refine aw_if_lt (tgt := 17) dX10_in_3 (by decide) (fun hc => ?_) (fun hc => ?_)
  · have k := k.1 hc
    refine aw_iconst dX10_in_17 ⟨by decide, by decide⟩ ?_
    exact aw_zret dX10_in_18 rfl (by decide) k
  · have k := k.2 hc
    refine aw_lload_n 0 dX10_in_6 rfl rfl ?_
    refine aw_lload 2 dX10_in_7 rfl ?_
    refine aw_lcmp dX10_in_9 ?_
    refine aw_if_gt (tgt := 17) dX10_in_10 (by decide) (fun hc => ?_) (fun hc => ?_)
    · have k := k.1 hc
      refine aw_iconst dX10_in_17 ⟨by decide, by decide⟩ ?_
      exact aw_zret dX10_in_18 rfl (by decide) k
    · have k := k.2 hc
      refine aw_iconst dX10_in_13 ⟨by decide, by decide⟩ ?_
      refine aw_goto (tgt := 18) dX10_in_14 (by decide) ?_
      exact aw_zret dX10_in_18 rfl (by decide) k
theorem rn_X10_in {G : GG} {Q : Option VV → Hp → Prop} {v0 v2 v4 : Int} {h : Hp} (k : (((iCmp v0 v2) < 0) → Q (some (vI 0)) h) ∧ ((¬ ((iCmp v0 v2) < 0)) → ((0 < (iCmp v0 v4)) → Q (some (vI 0)) h) ∧ ((¬ (0 < (iCmp v0 v4))) → Q (some (vI 1)) h))) : Runs G mm_X10_in [vL v0, vL v2, vL v4] h Q := Runs.of (by decide +kernel) (Nat.le_of_ble_eq_true rfl) (sg_X10_in_0 (b := (0, 0)) k)
theorem pu_X10_in {G : GG} {Q : Option VV → Hp → Prop} {v0 v2 v4 : Int} {h : Hp} (k : Q (some (vI (b2i (v2 ≤ v0 ∧ v0 ≤ v4)))) h) : Runs G mm_X10_in [vL v0, vL v2, vL v4] h Q := by
  refine rn_X10_in ?_
  (repeat' (first | (refine ⟨?_, ?_⟩) | (intro hc; unfold iCmp at hc)))
  all_goals (repeat' split at *)
  all_goals first
    | (rw [b2i_t (by omega)] at k; exact k)
    | (rw [b2i_f (by omega)] at k; exact k)
    | omega
set_option maxRecDepth 20000 in
theorem sg_X10_isHost_0 {G : GG} {b : Nat × Nat} {Q : Option VV → Hp → Prop} {v0 : Int} {h : Hp} (k : Q (some (vI (b2i (0 ≤ v0 ∧ v0 ≤ 1)))) h) : AW G mm_X10_isHost b 0 [(0, vI v0)] [] h Q := by
  refine aw_iload_n 0 dX10_isHost_0 rfl rfl ?_
  refine aw_i2l dX10_isHost_1 ?_
  refine aw_lconst (x := 0) dX10_isHost_2 ⟨by decide, by decide⟩ (by decide) ?_
  refine aw_lconst (x := 1) dX10_isHost_3 ⟨by decide, by decide⟩ (by decide) ?_
  refine aw_callS (M' := mm_X10_in) [vL v0, vL 0, vL 1] [] lk_X10_95 dX10_isHost_4 rfl (by decide) ⟨by decide, by decide, Nat.zero_le _, Nat.zero_le _⟩ ?_
  refine pu_X10_in ?_
  exact aw_zret dX10_isHost_7 rfl b2i_or k
theorem rn_X10_isHost {G : GG} {Q : Option VV → Hp → Prop} {v0 : Int} {h : Hp} (k : Q (some (vI (b2i (0 ≤ v0 ∧ v0 ≤ 1)))) h) : Runs G mm_X10_isHost [vI v0] h Q := Runs.of (by decide +kernel) (Nat.le_of_ble_eq_true rfl) (sg_X10_isHost_0 (b := (0, 0)) k)
theorem pu_X10_isHost {G : GG} {Q : Option VV → Hp → Prop} {v0 : Int} {h : Hp} (k : Q (some (vI (b2i (0 ≤ v0 ∧ v0 ≤ 1)))) h) : Runs G mm_X10_isHost [vI v0] h Q := by
  first
    | exact rn_X10_isHost k
    | refine rn_X10_isHost ?_
      (repeat' (first | (refine ⟨?_, ?_⟩) | intro _))
      all_goals first
        | (rw [b2i_t (by omega)] at k; exact k)
        | (rw [b2i_f (by omega)] at k; exact k)
set_option maxRecDepth 20000 in
theorem sg_X10_isCell_0 {G : GG} {b : Nat × Nat} {Q : Option VV → Hp → Prop} {v0 : Int} {h : Hp} (k : Q (some (vI (b2i (0 ≤ v0 ∧ v0 ≤ 11)))) h) : AW G mm_X10_isCell b 0 [(0, vI v0)] [] h Q := by
  refine aw_iload_n 0 dX10_isCell_0 rfl rfl ?_
  refine aw_i2l dX10_isCell_1 ?_
  refine aw_lconst (x := 0) dX10_isCell_2 ⟨by decide, by decide⟩ (by decide) ?_
  refine aw_ldc2 (x := 11) dX10_isCell_3 ⟨by decide, by decide⟩ cl_X10_99 ?_
  refine aw_callS (M' := mm_X10_in) [vL v0, vL 0, vL 11] [] lk_X10_95 dX10_isCell_6 rfl (by decide) ⟨by decide, by decide, Nat.zero_le _, Nat.zero_le _⟩ ?_
  refine pu_X10_in ?_
  exact aw_zret dX10_isCell_9 rfl b2i_or k
theorem rn_X10_isCell {G : GG} {Q : Option VV → Hp → Prop} {v0 : Int} {h : Hp} (k : Q (some (vI (b2i (0 ≤ v0 ∧ v0 ≤ 11)))) h) : Runs G mm_X10_isCell [vI v0] h Q := Runs.of (by decide +kernel) (Nat.le_of_ble_eq_true rfl) (sg_X10_isCell_0 (b := (0, 0)) k)
theorem pu_X10_isCell {G : GG} {Q : Option VV → Hp → Prop} {v0 : Int} {h : Hp} (k : Q (some (vI (b2i (0 ≤ v0 ∧ v0 ≤ 11)))) h) : Runs G mm_X10_isCell [vI v0] h Q := by
  first
    | exact rn_X10_isCell k
    | refine rn_X10_isCell ?_
      (repeat' (first | (refine ⟨?_, ?_⟩) | intro _))
      all_goals first
        | (rw [b2i_t (by omega)] at k; exact k)
        | (rw [b2i_f (by omega)] at k; exact k)
set_option maxRecDepth 20000 in
theorem sg_X10_isEnd_0 {G : GG} {b : Nat × Nat} {Q : Option VV → Hp → Prop} {v0 : Int} {h : Hp} (k : Q (some (vI (b2i (0 ≤ v0 ∧ v0 ≤ 3)))) h) : AW G mm_X10_isEnd b 0 [(0, vI v0)] [] h Q := by
  refine aw_iload_n 0 dX10_isEnd_0 rfl rfl ?_
  refine aw_i2l dX10_isEnd_1 ?_
  refine aw_lconst (x := 0) dX10_isEnd_2 ⟨by decide, by decide⟩ (by decide) ?_
  refine aw_ldc2 (x := 3) dX10_isEnd_3 ⟨by decide, by decide⟩ cl_X10_101 ?_
  refine aw_callS (M' := mm_X10_in) [vL v0, vL 0, vL 3] [] lk_X10_95 dX10_isEnd_6 rfl (by decide) ⟨by decide, by decide, Nat.zero_le _, Nat.zero_le _⟩ ?_
  refine pu_X10_in ?_
  exact aw_zret dX10_isEnd_9 rfl b2i_or k
theorem rn_X10_isEnd {G : GG} {Q : Option VV → Hp → Prop} {v0 : Int} {h : Hp} (k : Q (some (vI (b2i (0 ≤ v0 ∧ v0 ≤ 3)))) h) : Runs G mm_X10_isEnd [vI v0] h Q := Runs.of (by decide +kernel) (Nat.le_of_ble_eq_true rfl) (sg_X10_isEnd_0 (b := (0, 0)) k)
theorem pu_X10_isEnd {G : GG} {Q : Option VV → Hp → Prop} {v0 : Int} {h : Hp} (k : Q (some (vI (b2i (0 ≤ v0 ∧ v0 ≤ 3)))) h) : Runs G mm_X10_isEnd [vI v0] h Q := by
  first
    | exact rn_X10_isEnd k
    | refine rn_X10_isEnd ?_
      (repeat' (first | (refine ⟨?_, ?_⟩) | intro _))
      all_goals first
        | (rw [b2i_t (by omega)] at k; exact k)
        | (rw [b2i_f (by omega)] at k; exact k)
set_option maxRecDepth 20000 in
theorem sg_X10_isNumber_0 {G : GG} {b : Nat × Nat} {Q : Option VV → Hp → Prop} {v0 : Int} {h : Hp} (k : Q (some (vI (b2i (0 ≤ v0 ∧ v0 ≤ 9999)))) h) : AW G mm_X10_isNumber b 0 [(0, vI v0)] [] h Q := by
  refine aw_iload_n 0 dX10_isNumber_0 rfl rfl ?_
  refine aw_i2l dX10_isNumber_1 ?_
  refine aw_lconst (x := 0) dX10_isNumber_2 ⟨by decide, by decide⟩ (by decide) ?_
  refine aw_ldc2 (x := 9999) dX10_isNumber_3 ⟨by decide, by decide⟩ cl_X10_103 ?_
  refine aw_callS (M' := mm_X10_in) [vL v0, vL 0, vL 9999] [] lk_X10_95 dX10_isNumber_6 rfl (by decide) ⟨by decide, by decide, Nat.zero_le _, Nat.zero_le _⟩ ?_
  refine pu_X10_in ?_
  exact aw_zret dX10_isNumber_9 rfl b2i_or k
theorem rn_X10_isNumber {G : GG} {Q : Option VV → Hp → Prop} {v0 : Int} {h : Hp} (k : Q (some (vI (b2i (0 ≤ v0 ∧ v0 ≤ 9999)))) h) : Runs G mm_X10_isNumber [vI v0] h Q := Runs.of (by decide +kernel) (Nat.le_of_ble_eq_true rfl) (sg_X10_isNumber_0 (b := (0, 0)) k)
theorem pu_X10_isNumber {G : GG} {Q : Option VV → Hp → Prop} {v0 : Int} {h : Hp} (k : Q (some (vI (b2i (0 ≤ v0 ∧ v0 ≤ 9999)))) h) : Runs G mm_X10_isNumber [vI v0] h Q := by
  first
    | exact rn_X10_isNumber k
    | refine rn_X10_isNumber ?_
      (repeat' (first | (refine ⟨?_, ?_⟩) | intro _))
      all_goals first
        | (rw [b2i_t (by omega)] at k; exact k)
        | (rw [b2i_f (by omega)] at k; exact k)
set_option maxRecDepth 20000 in
theorem sg_X10_isSmall_0 {G : GG} {b : Nat × Nat} {Q : Option VV → Hp → Prop} {v0 : Int} {h : Hp} (k : Q (some (vI (b2i (97 ≤ v0 ∧ v0 ≤ 122)))) h) : AW G mm_X10_isSmall b 0 [(0, vI v0)] [] h Q := by
  refine aw_iload_n 0 dX10_isSmall_0 rfl rfl ?_
  refine aw_i2l dX10_isSmall_1 ?_
  refine aw_ldc2 (x := 97) dX10_isSmall_2 ⟨by decide, by decide⟩ cl_X10_131 ?_
  refine aw_ldc2 (x := 122) dX10_isSmall_5 ⟨by decide, by decide⟩ cl_X10_133 ?_
  refine aw_callS (M' := mm_X10_in) [vL v0, vL 97, vL 122] [] lk_X10_95 dX10_isSmall_8 rfl (by decide) ⟨by decide, by decide, Nat.zero_le _, Nat.zero_le _⟩ ?_
  refine pu_X10_in ?_
  exact aw_zret dX10_isSmall_11 rfl b2i_or k
theorem rn_X10_isSmall {G : GG} {Q : Option VV → Hp → Prop} {v0 : Int} {h : Hp} (k : Q (some (vI (b2i (97 ≤ v0 ∧ v0 ≤ 122)))) h) : Runs G mm_X10_isSmall [vI v0] h Q := Runs.of (by decide +kernel) (Nat.le_of_ble_eq_true rfl) (sg_X10_isSmall_0 (b := (0, 0)) k)
theorem pu_X10_isSmall {G : GG} {Q : Option VV → Hp → Prop} {v0 : Int} {h : Hp} (k : Q (some (vI (b2i (97 ≤ v0 ∧ v0 ≤ 122)))) h) : Runs G mm_X10_isSmall [vI v0] h Q := by
  first
    | exact rn_X10_isSmall k
    | refine rn_X10_isSmall ?_
      (repeat' (first | (refine ⟨?_, ?_⟩) | intro _))
      all_goals first
        | (rw [b2i_t (by omega)] at k; exact k)
        | (rw [b2i_f (by omega)] at k; exact k)
set_option maxRecDepth 20000 in
theorem sg_X10_isDigit_0 {G : GG} {b : Nat × Nat} {Q : Option VV → Hp → Prop} {v0 : Int} {h : Hp} (k : Q (some (vI (b2i (48 ≤ v0 ∧ v0 ≤ 57)))) h) : AW G mm_X10_isDigit b 0 [(0, vI v0)] [] h Q := by
  refine aw_iload_n 0 dX10_isDigit_0 rfl rfl ?_
  refine aw_i2l dX10_isDigit_1 ?_
  refine aw_ldc2 (x := 48) dX10_isDigit_2 ⟨by decide, by decide⟩ cl_X10_135 ?_
  refine aw_ldc2 (x := 57) dX10_isDigit_5 ⟨by decide, by decide⟩ cl_X10_137 ?_
  refine aw_callS (M' := mm_X10_in) [vL v0, vL 48, vL 57] [] lk_X10_95 dX10_isDigit_8 rfl (by decide) ⟨by decide, by decide, Nat.zero_le _, Nat.zero_le _⟩ ?_
  refine pu_X10_in ?_
  exact aw_zret dX10_isDigit_11 rfl b2i_or k
theorem rn_X10_isDigit {G : GG} {Q : Option VV → Hp → Prop} {v0 : Int} {h : Hp} (k : Q (some (vI (b2i (48 ≤ v0 ∧ v0 ≤ 57)))) h) : Runs G mm_X10_isDigit [vI v0] h Q := Runs.of (by decide +kernel) (Nat.le_of_ble_eq_true rfl) (sg_X10_isDigit_0 (b := (0, 0)) k)
theorem pu_X10_isDigit {G : GG} {Q : Option VV → Hp → Prop} {v0 : Int} {h : Hp} (k : Q (some (vI (b2i (48 ≤ v0 ∧ v0 ≤ 57)))) h) : Runs G mm_X10_isDigit [vI v0] h Q := by
  first
    | exact rn_X10_isDigit k
    | refine rn_X10_isDigit ?_
      (repeat' (first | (refine ⟨?_, ?_⟩) | intro _))
      all_goals first
        | (rw [b2i_t (by omega)] at k; exact k)
        | (rw [b2i_f (by omega)] at k; exact k)
end
